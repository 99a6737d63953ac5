theorem dX2_fitsFast_4 : decode cX2_fitsFast 4 = .ok (.getfield 28, 3) := by decide +kernel
theorem dX2_fitsFast_7 : decode cX2_fitsFast 7 = .ok (.ifCond .ne 31, 3) := by decide +kernel
theorem dX2_fitsFast_10 : decode cX2_fitsFast 10 = .ok (.aload_n 0, 1) := by decide +kernel
theorem dX2_fitsFast_11 : decode cX2_fitsFast 11 = .ok (.getfield 9, 3) := by decide +kernel
theorem dX2_fitsFast_14 : decode cX2_fitsFast 14 = .ok (.iconst 0, 1) := by decide +kernel
theorem dX2_fitsFast_15 : decode cX2_fitsFast 15 = .ok (.iload_n 1, 1) := by decide +kernel
theorem dX2_fitsFast_16 : decode cX2_fitsFast 16 = .ok (.invokestatic 68, 3) := by decide +kernel
theorem dX2_fitsFast_19 : decode cX2_fitsFast 19 = .ok (.ifCond .eq 19, 3) := by decide +kernel
theorem dX2_fitsFast_22 : decode cX2_fitsFast 22 = .ok (.aload_n 0, 1) := by decide +kernel
theorem dX2_fitsFast_23 : decode cX2_fitsFast 23 = .ok (.getfield 9, 3) := by decide +kernel
theorem dX2_fitsFast_26 : decode cX2_fitsFast 26 = .ok (.iload_n 1, 1) := by decide +kernel
theorem dX2_fitsFast_27 : decode cX2_fitsFast 27 = .ok (.bipush 19, 2) := by decide +kernel
theorem dX2_fitsFast_29 : decode cX2_fitsFast 29 = .ok (.iadd, 1) := by decide +kernel
theorem dX2_fitsFast_30 : decode cX2_fitsFast 30 = .ok (.bipush 72, 2) := by decide +kernel
theorem dX2_fitsFast_32 : decode cX2_fitsFast 32 = .ok (.invokestatic 68, 3) := by decide +kernel
theorem dX2_fitsFast_35 : decode cX2_fitsFast 35 = .ok (.ifCond .ne 5, 3) := by decide +kernel
theorem dX2_fitsFast_38 : decode cX2_fitsFast 38 = .ok (.iconst 0, 1) := by decide +kernel
theorem dX2_fitsFast_39 : decode cX2_fitsFast 39 = .ok (.ireturn, 1) := by decide +kernel
theorem dX2_fitsFast_40 : decode cX2_fitsFast 40 = .ok (.aload_n 0, 1) := by decide +kernel
theorem dX2_fitsFast_41 : decode cX2_fitsFast 41 = .ok (.getfield 9, 3) := by decide +kernel
theorem dX2_fitsFast_44 : decode cX2_fitsFast 44 = .ok (.iload_n 1, 1) := by decide +kernel
theorem dX2_fitsFast_45 : decode cX2_fitsFast 45 = .ok (.bipush 19, 2) := by decide +kernel
theorem dX2_fitsFast_47 : decode cX2_fitsFast 47 = .ok (.invokestatic 85, 3) := by decide +kernel
theorem dX2_fitsFast_50 : decode cX2_fitsFast 50 = .ok (.lstore_n 2, 1) := by decide +kernel
theorem dX2_fitsFast_51 : decode cX2_fitsFast 51 = .ok (.lload_n 2, 1) := by decide +kernel
theorem dX2_fitsFast_52 : decode cX2_fitsFast 52 = .ok (.lconst 0, 1) := by decide +kernel
theorem dX2_fitsFast_53 : decode cX2_fitsFast 53 = .ok (.lcmp, 1) := by decide +kernel
theorem dX2_fitsFast_54 : decode cX2_fitsFast 54 = .ok (.ifCond .ge 18, 3) := by decide +kernel
theorem dX2_fitsFast_57 : decode cX2_fitsFast 57 = .ok (.aload_n 0, 1) := by decide +kernel
theorem dX2_fitsFast_58 : decode cX2_fitsFast 58 = .ok (.getfield 24, 3) := by decide +kernel
theorem dX2_fitsFast_61 : decode cX2_fitsFast 61 = .ok (.ifCond .eq 15, 3) := by decide +kernel
theorem dX2_fitsFast_64 : decode cX2_fitsFast 64 = .ok (.lload_n 2, 1) := by decide +kernel
theorem dX2_fitsFast_65 : decode cX2_fitsFast 65 = .ok (.ldc2_w 89, 3) := by decide +kernel
theorem dX2_fitsFast_68 : decode cX2_fitsFast 68 = .ok (.lcmp, 1) := by decide +kernel
theorem dX2_fitsFast_69 : decode cX2_fitsFast 69 = .ok (.ifCond .ne 7, 3) := by decide +kernel
theorem dX2_fitsFast_72 : decode cX2_fitsFast 72 = .ok (.iconst 1, 1) := by decide +kernel
theorem dX2_fitsFast_73 : decode cX2_fitsFast 73 = .ok (.goto 4, 3) := by decide +kernel
theorem dX2_fitsFast_76 : decode cX2_fitsFast 76 = .ok (.iconst 0, 1) := by decide +kernel
theorem dX2_fitsFast_77 : decode cX2_fitsFast 77 = .ok (.ireturn, 1) := by decide +kernel
theorem dX2_load_0 : decode cX2_load 0 = .ok (.aload_n 0, 1) := by decide +kernel
theorem dX2_load_1 : decode cX2_load 1 = .ok (.invokevirtual 31, 3) := by decide +kernel
theorem dX2_load_4 : decode cX2_load 4 = .ok (.aload_n 1, 1) := by decide +kernel
theorem dX2_load_5 : decode cX2_load 5 = .ok (.iconst 0, 1) := by decide +kernel
theorem dX2_load_6 : decode cX2_load 6 = .ok (.aload_n 0, 1) := by decide +kernel
theorem dX2_load_7 : decode cX2_load 7 = .ok (.getfield 9, 3) := by decide +kernel
theorem dX2_load_10 : decode cX2_load 10 = .ok (.iload_n 2, 1) := by decide +kernel
theorem dX2_load_11 : decode cX2_load 11 = .ok (.aload_n 1, 1) := by decide +kernel
theorem dX2_load_12 : decode cX2_load 12 = .ok (.arraylength, 1) := by decide +kernel
theorem dX2_load_13 : decode cX2_load 13 = .ok (.invokestatic 34, 3) := by decide +kernel
theorem dX2_load_16 : decode cX2_load 16 = .ok (.aload_n 0, 1) := by decide +kernel
theorem dX2_load_17 : decode cX2_load 17 = .ok (.iload_n 3, 1) := by decide +kernel
theorem dX2_load_18 : decode cX2_load 18 = .ok (.putfield 24, 3) := by decide +kernel
theorem dX2_load_21 : decode cX2_load 21 = .ok (.return_, 1) := by decide +kernel
theorem dX2_join_0 : decode cX2_join 0 = .ok (.iconst 0, 1) := by decide +kernel
theorem dX2_join_1 : decode cX2_join 1 = .ok (.istore 4, 2) := by decide +kernel
theorem dX2_join_3 : decode cX2_join 3 = .ok (.iload 4, 2) := by decide +kernel
theorem dX2_join_5 : decode cX2_join 5 = .ok (.bipush 36, 2) := by decide +kernel
theorem dX2_join_7 : decode cX2_join 7 = .ok (.if_icmp .ge 27, 3) := by decide +kernel
theorem dX2_join_10 : decode cX2_join 10 = .ok (.aload_n 0, 1) := by decide +kernel
theorem dX2_join_11 : decode cX2_join 11 = .ok (.getfield 9, 3) := by decide +kernel
theorem dX2_join_14 : decode cX2_join 14 = .ok (.iload_n 2, 1) := by decide +kernel
theorem dX2_join_15 : decode cX2_join 15 = .ok (.iload 4, 2) := by decide +kernel
theorem dX2_join_17 : decode cX2_join 17 = .ok (.iadd, 1) := by decide +kernel
theorem dX2_join_18 : decode cX2_join 18 = .ok (.dup2, 1) := by decide +kernel
theorem dX2_join_19 : decode cX2_join 19 = .ok (.iaload, 1) := by decide +kernel
theorem dX2_join_20 : decode cX2_join 20 = .ok (.iload_n 3, 1) := by decide +kernel
theorem dX2_join_21 : decode cX2_join 21 = .ok (.aload_n 1, 1) := by decide +kernel
theorem dX2_join_22 : decode cX2_join 22 = .ok (.iload 4, 2) := by decide +kernel
theorem dX2_join_24 : decode cX2_join 24 = .ok (.iaload, 1) := by decide +kernel
theorem dX2_join_25 : decode cX2_join 25 = .ok (.imul, 1) := by decide +kernel
theorem dX2_join_26 : decode cX2_join 26 = .ok (.iadd, 1) := by decide +kernel
theorem dX2_join_27 : decode cX2_join 27 = .ok (.iastore, 1) := by decide +kernel
theorem dX2_join_28 : decode cX2_join 28 = .ok (.iinc 4 1, 3) := by decide +kernel
theorem dX2_join_31 : decode cX2_join 31 = .ok (.goto (-28), 3) := by decide +kernel
theorem dX2_join_34 : decode cX2_join 34 = .ok (.aload_n 0, 1) := by decide +kernel
theorem dX2_join_35 : decode cX2_join 35 = .ok (.invokevirtual 59, 3) := by decide +kernel
theorem dX2_join_38 : decode cX2_join 38 = .ok (.return_, 1) := by decide +kernel
theorem dX2_times_0 : decode cX2_times 0 = .ok (.lload_n 1, 1) := by decide +kernel
theorem dX2_times_1 : decode cX2_times 1 = .ok (.aload_n 0, 1) := by decide +kernel
theorem dX2_times_2 : decode cX2_times 2 = .ok (.getfield 15, 3) := by decide +kernel
theorem dX2_times_5 : decode cX2_times 5 = .ok (.iconst 0, 1) := by decide +kernel
theorem dX2_times_6 : decode cX2_times 6 = .ok (.invokestatic 40, 3) := by decide +kernel
theorem dX2_times_9 : decode cX2_times 9 = .ok (.aload_n 0, 1) := by decide +kernel
theorem dX2_times_10 : decode cX2_times 10 = .ok (.invokevirtual 62, 3) := by decide +kernel
theorem dX2_times_13 : decode cX2_times 13 = .ok (.iconst 1, 1) := by decide +kernel
theorem dX2_times_14 : decode cX2_times 14 = .ok (.isub, 1) := by decide +kernel
theorem dX2_times_15 : decode cX2_times 15 = .ok (.istore_n 3, 1) := by decide +kernel
theorem dX2_times_16 : decode cX2_times 16 = .ok (.iload_n 3, 1) := by decide +kernel
theorem dX2_times_17 : decode cX2_times 17 = .ok (.ifCond .lt 71, 3) := by decide +kernel
theorem dX2_times_20 : decode cX2_times 20 = .ok (.aload_n 0, 1) := by decide +kernel
theorem dX2_times_21 : decode cX2_times 21 = .ok (.getfield 9, 3) := by decide +kernel
theorem dX2_times_24 : decode cX2_times 24 = .ok (.iload_n 3, 1) := by decide +kernel
theorem dX2_times_25 : decode cX2_times 25 = .ok (.iaload, 1) := by decide +kernel
theorem dX2_times_26 : decode cX2_times 26 = .ok (.istore 4, 2) := by decide +kernel
theorem dX2_times_28 : decode cX2_times 28 = .ok (.aload_n 0, 1) := by decide +kernel
theorem dX2_times_29 : decode cX2_times 29 = .ok (.getfield 9, 3) := by decide +kernel
theorem dX2_times_32 : decode cX2_times 32 = .ok (.iload_n 3, 1) := by decide +kernel
theorem dX2_times_33 : decode cX2_times 33 = .ok (.iconst 0, 1) := by decide +kernel
theorem dX2_times_34 : decode cX2_times 34 = .ok (.iastore, 1) := by decide +kernel
theorem dX2_times_35 : decode cX2_times 35 = .ok (.iconst 0, 1) := by decide +kernel
theorem dX2_times_36 : decode cX2_times 36 = .ok (.istore 5, 2) := by decide +kernel
theorem dX2_times_38 : decode cX2_times 38 = .ok (.iload 5, 2) := by decide +kernel
theorem dX2_times_40 : decode cX2_times 40 = .ok (.bipush 19, 2) := by decide +kernel
theorem dX2_times_42 : decode cX2_times 42 = .ok (.if_icmp .ge 40, 3) := by decide +kernel
theorem dX2_times_45 : decode cX2_times 45 = .ok (.iload_n 3, 1) := by decide +kernel
theorem dX2_times_46 : decode cX2_times 46 = .ok (.iload 5, 2) := by decide +kernel
theorem dX2_times_48 : decode cX2_times 48 = .ok (.iadd, 1) := by decide +kernel
theorem dX2_times_49 : decode cX2_times 49 = .ok (.bipush 72, 2) := by decide +kernel
theorem dX2_times_51 : decode cX2_times 51 = .ok (.if_icmp .ge 31, 3) := by decide +kernel
theorem dX2_times_54 : decode cX2_times 54 = .ok (.aload_n 0, 1) := by decide +kernel
theorem dX2_times_55 : decode cX2_times 55 = .ok (.getfield 9, 3) := by decide +kernel
theorem dX2_times_58 : decode cX2_times 58 = .ok (.iload_n 3, 1) := by decide +kernel
theorem dX2_times_59 : decode cX2_times 59 = .ok (.iload 5, 2) := by decide +kernel
theorem dX2_times_61 : decode cX2_times 61 = .ok (.iadd, 1) := by decide +kernel
theorem dX2_times_62 : decode cX2_times 62 = .ok (.dup2, 1) := by decide +kernel
theorem dX2_times_63 : decode cX2_times 63 = .ok (.iaload, 1) := by decide +kernel
theorem dX2_times_64 : decode cX2_times 64 = .ok (.iload 4, 2) := by decide +kernel
theorem dX2_times_66 : decode cX2_times 66 = .ok (.aload_n 0, 1) := by decide +kernel
theorem dX2_times_67 : decode cX2_times 67 = .ok (.getfield 15, 3) := by decide +kernel
theorem dX2_times_70 : decode cX2_times 70 = .ok (.iload 5, 2) := by decide +kernel
theorem dX2_times_72 : decode cX2_times 72 = .ok (.iaload, 1) := by decide +kernel
theorem dX2_times_73 : decode cX2_times 73 = .ok (.imul, 1) := by decide +kernel
theorem dX2_times_74 : decode cX2_times 74 = .ok (.iadd, 1) := by decide +kernel
theorem dX2_times_75 : decode cX2_times 75 = .ok (.iastore, 1) := by decide +kernel
theorem dX2_times_76 : decode cX2_times 76 = .ok (.iinc 5 1, 3) := by decide +kernel
theorem dX2_times_79 : decode cX2_times 79 = .ok (.goto (-41), 3) := by decide +kernel
theorem dX2_times_82 : decode cX2_times 82 = .ok (.iinc 3 (-1), 3) := by decide +kernel
theorem dX2_times_85 : decode cX2_times 85 = .ok (.goto (-69), 3) := by decide +kernel
theorem dX2_times_88 : decode cX2_times 88 = .ok (.aload_n 0, 1) := by decide +kernel
theorem dX2_times_89 : decode cX2_times 89 = .ok (.invokevirtual 59, 3) := by decide +kernel
theorem dX2_times_92 : decode cX2_times 92 = .ok (.aload_n 0, 1) := by decide +kernel
theorem dX2_times_93 : decode cX2_times 93 = .ok (.aload_n 0, 1) := by decide +kernel
theorem dX2_times_94 : decode cX2_times 94 = .ok (.getfield 24, 3) := by decide +kernel
theorem dX2_times_97 : decode cX2_times 97 = .ok (.lload_n 1, 1) := by decide +kernel
theorem dX2_times_98 : decode cX2_times 98 = .ok (.lconst 0, 1) := by decide +kernel
theorem dX2_times_99 : decode cX2_times 99 = .ok (.lcmp, 1) := by decide +kernel
theorem dX2_times_100 : decode cX2_times 100 = .ok (.ifCond .ge 7, 3) := by decide +kernel
theorem dX2_times_103 : decode cX2_times 103 = .ok (.iconst 1, 1) := by decide +kernel
theorem dX2_times_104 : decode cX2_times 104 = .ok (.goto 4, 3) := by decide +kernel
theorem dX2_times_107 : decode cX2_times 107 = .ok (.iconst 0, 1) := by decide +kernel
theorem dX2_times_108 : decode cX2_times 108 = .ok (.if_icmp .eq 7, 3) := by decide +kernel
theorem dX2_times_111 : decode cX2_times 111 = .ok (.iconst 1, 1) := by decide +kernel
theorem dX2_times_112 : decode cX2_times 112 = .ok (.goto 4, 3) := by decide +kernel
theorem dX2_times_115 : decode cX2_times 115 = .ok (.iconst 0, 1) := by decide +kernel
theorem dX2_times_116 : decode cX2_times 116 = .ok (.putfield 24, 3) := by decide +kernel
theorem dX2_times_119 : decode cX2_times 119 = .ok (.return_, 1) := by decide +kernel
theorem dX2_over_0 : decode cX2_over 0 = .ok (.lload_n 1, 1) := by decide +kernel
theorem dX2_over_1 : decode cX2_over 1 = .ok (.lconst 0, 1) := by decide +kernel
theorem dX2_over_2 : decode cX2_over 2 = .ok (.lcmp, 1) := by decide +kernel
theorem dX2_over_3 : decode cX2_over 3 = .ok (.ifCond .ge 7, 3) := by decide +kernel
theorem dX2_over_6 : decode cX2_over 6 = .ok (.lload_n 1, 1) := by decide +kernel
theorem dX2_over_7 : decode cX2_over 7 = .ok (.goto 5, 3) := by decide +kernel
theorem dX2_over_10 : decode cX2_over 10 = .ok (.lload_n 1, 1) := by decide +kernel
theorem dX2_over_11 : decode cX2_over 11 = .ok (.lneg, 1) := by decide +kernel
theorem dX2_over_12 : decode cX2_over 12 = .ok (.lstore 4, 2) := by decide +kernel
theorem dX2_over_14 : decode cX2_over 14 = .ok (.lconst 0, 1) := by decide +kernel
theorem dX2_over_15 : decode cX2_over 15 = .ok (.lstore 6, 2) := by decide +kernel
theorem dX2_over_17 : decode cX2_over 17 = .ok (.aload_n 0, 1) := by decide +kernel
theorem dX2_over_18 : decode cX2_over 18 = .ok (.invokevirtual 62, 3) := by decide +kernel
theorem dX2_over_21 : decode cX2_over 21 = .ok (.iconst 1, 1) := by decide +kernel
theorem dX2_over_22 : decode cX2_over 22 = .ok (.isub, 1) := by decide +kernel
theorem dX2_over_23 : decode cX2_over 23 = .ok (.istore 8, 2) := by decide +kernel
theorem dX2_over_25 : decode cX2_over 25 = .ok (.iload 8, 2) := by decide +kernel
theorem dX2_over_27 : decode cX2_over 27 = .ok (.iload_n 3, 1) := by decide +kernel
theorem dX2_over_28 : decode cX2_over 28 = .ok (.if_icmp .lt 104, 3) := by decide +kernel
theorem dX2_over_31 : decode cX2_over 31 = .ok (.iconst 0, 1) := by decide +kernel
theorem dX2_over_32 : decode cX2_over 32 = .ok (.istore 9, 2) := by decide +kernel
theorem dX2_over_34 : decode cX2_over 34 = .ok (.lconst 0, 1) := by decide +kernel
theorem dX2_over_35 : decode cX2_over 35 = .ok (.lstore 10, 2) := by decide +kernel
theorem dX2_over_37 : decode cX2_over 37 = .ok (.iconst 0, 1) := by decide +kernel
theorem dX2_over_38 : decode cX2_over 38 = .ok (.istore 12, 2) := by decide +kernel
theorem dX2_over_40 : decode cX2_over 40 = .ok (.iload 12, 2) := by decide +kernel
theorem dX2_over_42 : decode cX2_over 42 = .ok (.bipush 10, 2) := by decide +kernel
theorem dX2_over_44 : decode cX2_over 44 = .ok (.aload_n 0, 1) := by decide +kernel
theorem dX2_over_45 : decode cX2_over 45 = .ok (.getfield 9, 3) := by decide +kernel
theorem dX2_over_48 : decode cX2_over 48 = .ok (.iload 8, 2) := by decide +kernel
theorem dX2_over_50 : decode cX2_over 50 = .ok (.iaload, 1) := by decide +kernel
theorem dX2_over_51 : decode cX2_over 51 = .ok (.iadd, 1) := by decide +kernel
theorem dX2_over_52 : decode cX2_over 52 = .ok (.if_icmp .ge 61, 3) := by decide +kernel
theorem dX2_over_55 : decode cX2_over 55 = .ok (.iload 12, 2) := by decide +kernel
theorem dX2_over_57 : decode cX2_over 57 = .ok (.bipush 10, 2) := by decide +kernel
theorem dX2_over_59 : decode cX2_over 59 = .ok (.if_icmp .ge 8, 3) := by decide +kernel
theorem dX2_over_62 : decode cX2_over 62 = .ok (.lload 6, 2) := by decide +kernel
theorem dX2_over_64 : decode cX2_over 64 = .ok (.goto 6, 3) := by decide +kernel
theorem dX2_over_67 : decode cX2_over 67 = .ok (.ldc2_w 66, 3) := by decide +kernel
theorem dX2_over_70 : decode cX2_over 70 = .ok (.lstore 13, 2) := by decide +kernel
theorem dX2_over_72 : decode cX2_over 72 = .ok (.lload 4, 2) := by decide +kernel
theorem dX2_over_74 : decode cX2_over 74 = .ok (.lload 10, 2) := by decide +kernel
theorem dX2_over_76 : decode cX2_over 76 = .ok (.lsub, 1) := by decide +kernel
theorem dX2_over_77 : decode cX2_over 77 = .ok (.lstore 15, 2) := by decide +kernel
theorem dX2_over_79 : decode cX2_over 79 = .ok (.lload 13, 2) := by decide +kernel
theorem dX2_over_81 : decode cX2_over 81 = .ok (.lload 15, 2) := by decide +kernel
theorem dX2_over_83 : decode cX2_over 83 = .ok (.lcmp, 1) := by decide +kernel
theorem dX2_over_84 : decode cX2_over 84 = .ok (.ifCond .gt 16, 3) := by decide +kernel
theorem dX2_over_87 : decode cX2_over 87 = .ok (.lload 13, 2) := by decide +kernel
theorem dX2_over_89 : decode cX2_over 89 = .ok (.lload 15, 2) := by decide +kernel
theorem dX2_over_91 : decode cX2_over 91 = .ok (.lsub, 1) := by decide +kernel
theorem dX2_over_92 : decode cX2_over 92 = .ok (.lstore 10, 2) := by decide +kernel
theorem dX2_over_94 : decode cX2_over 94 = .ok (.iinc 9 1, 3) := by decide +kernel
theorem dX2_over_97 : decode cX2_over 97 = .ok (.goto 10, 3) := by decide +kernel
theorem dX2_over_100 : decode cX2_over 100 = .ok (.lload 10, 2) := by decide +kernel
theorem dX2_over_102 : decode cX2_over 102 = .ok (.lload 13, 2) := by decide +kernel
theorem dX2_over_104 : decode cX2_over 104 = .ok (.ladd, 1) := by decide +kernel
theorem dX2_over_105 : decode cX2_over 105 = .ok (.lstore 10, 2) := by decide +kernel
theorem dX2_over_107 : decode cX2_over 107 = .ok (.iinc 12 1, 3) := by decide +kernel
theorem dX2_over_110 : decode cX2_over 110 = .ok (.goto (-70), 3) := by decide +kernel
theorem dX2_over_113 : decode cX2_over 113 = .ok (.aload_n 0, 1) := by decide +kernel
theorem dX2_over_114 : decode cX2_over 114 = .ok (.getfield 9, 3) := by decide +kernel
theorem dX2_over_117 : decode cX2_over 117 = .ok (.iload 8, 2) := by decide +kernel
theorem dX2_over_119 : decode cX2_over 119 = .ok (.iload 9, 2) := by decide +kernel
theorem dX2_over_121 : decode cX2_over 121 = .ok (.iastore, 1) := by decide +kernel
theorem dX2_over_122 : decode cX2_over 122 = .ok (.lload 10, 2) := by decide +kernel
theorem dX2_over_124 : decode cX2_over 124 = .ok (.lstore 6, 2) := by decide +kernel
theorem dX2_over_126 : decode cX2_over 126 = .ok (.iinc 8 (-1), 3) := by decide +kernel
theorem dX2_over_129 : decode cX2_over 129 = .ok (.goto (-104), 3) := by decide +kernel
theorem dX2_over_132 : decode cX2_over 132 = .ok (.aload_n 0, 1) := by decide +kernel
theorem dX2_over_133 : decode cX2_over 133 = .ok (.lload 6, 2) := by decide +kernel
theorem dX2_over_135 : decode cX2_over 135 = .ok (.lconst 0, 1) := by decide +kernel
theorem dX2_over_136 : decode cX2_over 136 = .ok (.lcmp, 1) := by decide +kernel
theorem dX2_over_137 : decode cX2_over 137 = .ok (.ifCond .eq 7, 3) := by decide +kernel
theorem dX2_over_140 : decode cX2_over 140 = .ok (.iconst 1, 1) := by decide +kernel
theorem dX2_over_141 : decode cX2_over 141 = .ok (.goto 4, 3) := by decide +kernel
theorem dX2_over_144 : decode cX2_over 144 = .ok (.iconst 0, 1) := by decide +kernel
theorem dX2_over_145 : decode cX2_over 145 = .ok (.putfield 28, 3) := by decide +kernel
theorem dX2_over_148 : decode cX2_over 148 = .ok (.aload_n 0, 1) := by decide +kernel
theorem dX2_over_149 : decode cX2_over 149 = .ok (.aload_n 0, 1) := by decide +kernel
theorem dX2_over_150 : decode cX2_over 150 = .ok (.getfield 24, 3) := by decide +kernel
theorem dX2_over_153 : decode cX2_over 153 = .ok (.lload_n 1, 1) := by decide +kernel
theorem dX2_over_154 : decode cX2_over 154 = .ok (.lconst 0, 1) := by decide +kernel
theorem dX2_over_155 : decode cX2_over 155 = .ok (.lcmp, 1) := by decide +kernel
theorem dX2_over_156 : decode cX2_over 156 = .ok (.ifCond .ge 7, 3) := by decide +kernel
theorem dX2_over_159 : decode cX2_over 159 = .ok (.iconst 1, 1) := by decide +kernel
theorem dX2_over_160 : decode cX2_over 160 = .ok (.goto 4, 3) := by decide +kernel
theorem dX2_over_163 : decode cX2_over 163 = .ok (.iconst 0, 1) := by decide +kernel
theorem dX2_over_164 : decode cX2_over 164 = .ok (.if_icmp .eq 7, 3) := by decide +kernel
theorem dX2_over_167 : decode cX2_over 167 = .ok (.iconst 1, 1) := by decide +kernel
theorem dX2_over_168 : decode cX2_over 168 = .ok (.goto 4, 3) := by decide +kernel
theorem dX2_over_171 : decode cX2_over 171 = .ok (.iconst 0, 1) := by decide +kernel
theorem dX2_over_172 : decode cX2_over 172 = .ok (.putfield 24, 3) := by decide +kernel
theorem dX2_over_175 : decode cX2_over 175 = .ok (.lload 6, 2) := by decide +kernel
theorem dX2_over_177 : decode cX2_over 177 = .ok (.lneg, 1) := by decide +kernel
theorem dX2_over_178 : decode cX2_over 178 = .ok (.lreturn, 1) := by decide +kernel
theorem dX1_init_0 : decode cX1_init 0 = .ok (.aload_n 0, 1) := by decide +kernel
theorem dX1_init_1 : decode cX1_init 1 = .ok (.invokespecial 3, 3) := by decide +kernel
theorem dX1_init_4 : decode cX1_init 4 = .ok (.aload_n 0, 1) := by decide +kernel
theorem dX1_init_5 : decode cX1_init 5 = .ok (.bipush 48, 2) := by decide +kernel
theorem dX1_init_7 : decode cX1_init 7 = .ok (.newarray .int, 2) := by decide +kernel
theorem dX1_init_9 : decode cX1_init 9 = .ok (.putfield 9, 3) := by decide +kernel
theorem dX1_init_12 : decode cX1_init 12 = .ok (.return_, 1) := by decide +kernel
theorem dX1_append_0 : decode cX1_append 0 = .ok (.aload_n 0, 1) := by decide +kernel
theorem dX1_append_1 : decode cX1_append 1 = .ok (.getfield 15, 3) := by decide +kernel
theorem dX1_append_4 : decode cX1_append 4 = .ok (.bipush 48, 2) := by decide +kernel
theorem dX1_append_6 : decode cX1_append 6 = .ok (.if_icmp .ge 23, 3) := by decide +kernel
theorem dX1_append_9 : decode cX1_append 9 = .ok (.aload_n 0, 1) := by decide +kernel
theorem dX1_append_10 : decode cX1_append 10 = .ok (.getfield 9, 3) := by decide +kernel
theorem dX1_append_13 : decode cX1_append 13 = .ok (.aload_n 0, 1) := by decide +kernel
theorem dX1_append_14 : decode cX1_append 14 = .ok (.getfield 15, 3) := by decide +kernel
theorem dX1_append_17 : decode cX1_append 17 = .ok (.iload_n 1, 1) := by decide +kernel
theorem dX1_append_18 : decode cX1_append 18 = .ok (.iastore, 1) := by decide +kernel
theorem dX1_append_19 : decode cX1_append 19 = .ok (.aload_n 0, 1) := by decide +kernel
theorem dX1_append_20 : decode cX1_append 20 = .ok (.dup, 1) := by decide +kernel
theorem dX1_append_21 : decode cX1_append 21 = .ok (.getfield 15, 3) := by decide +kernel
theorem dX1_append_24 : decode cX1_append 24 = .ok (.iconst 1, 1) := by decide +kernel
theorem dX1_append_25 : decode cX1_append 25 = .ok (.iadd, 1) := by decide +kernel
theorem dX1_append_26 : decode cX1_append 26 = .ok (.putfield 15, 3) := by decide +kernel
theorem dX1_append_29 : decode cX1_append 29 = .ok (.return_, 1) := by decide +kernel
theorem dX1_appendCode_0 : decode cX1_appendCode 0 = .ok (.iconst 0, 1) := by decide +kernel
theorem dX1_appendCode_1 : decode cX1_appendCode 1 = .ok (.istore_n 2, 1) := by decide +kernel
theorem dX1_appendCode_2 : decode cX1_appendCode 2 = .ok (.iload_n 2, 1) := by decide +kernel
theorem dX1_appendCode_3 : decode cX1_appendCode 3 = .ok (.iconst 3, 1) := by decide +kernel
theorem dX1_appendCode_4 : decode cX1_appendCode 4 = .ok (.if_icmp .ge 17, 3) := by decide +kernel
theorem dX1_appendCode_7 : decode cX1_appendCode 7 = .ok (.aload_n 0, 1) := by decide +kernel
theorem dX1_appendCode_8 : decode cX1_appendCode 8 = .ok (.bipush 65, 2) := by decide +kernel
theorem dX1_appendCode_10 : decode cX1_appendCode 10 = .ok (.iload_n 1, 1) := by decide +kernel
theorem dX1_appendCode_11 : decode cX1_appendCode 11 = .ok (.iadd, 1) := by decide +kernel
theorem dX1_appendCode_12 : decode cX1_appendCode 12 = .ok (.invokevirtual 19, 3) := by decide +kernel
theorem dX1_appendCode_15 : decode cX1_appendCode 15 = .ok (.iinc 2 1, 3) := by decide +kernel
theorem dX1_appendCode_18 : decode cX1_appendCode 18 = .ok (.goto (-16), 3) := by decide +kernel
theorem dX1_appendCode_21 : decode cX1_appendCode 21 = .ok (.return_, 1) := by decide +kernel
theorem dX1_skip_0 : decode cX1_skip 0 = .ok (.aload_n 0, 1) := by decide +kernel
theorem dX1_skip_1 : decode cX1_skip 1 = .ok (.getfield 23, 3) := by decide +kernel
theorem dX1_skip_4 : decode cX1_skip 4 = .ok (.aload_n 0, 1) := by decide +kernel
theorem dX1_skip_5 : decode cX1_skip 5 = .ok (.getfield 15, 3) := by decide +kernel
theorem dX1_skip_8 : decode cX1_skip 8 = .ok (.if_icmp .ge 16, 3) := by decide +kernel
theorem dX1_skip_11 : decode cX1_skip 11 = .ok (.aload_n 0, 1) := by decide +kernel
theorem dX1_skip_12 : decode cX1_skip 12 = .ok (.getfield 9, 3) := by decide +kernel
theorem dX1_skip_15 : decode cX1_skip 15 = .ok (.aload_n 0, 1) := by decide +kernel
theorem dX1_skip_16 : decode cX1_skip 16 = .ok (.getfield 23, 3) := by decide +kernel
theorem dX1_skip_19 : decode cX1_skip 19 = .ok (.iaload, 1) := by decide +kernel
theorem dX1_skip_20 : decode cX1_skip 20 = .ok (.iload_n 1, 1) := by decide +kernel
theorem dX1_skip_21 : decode cX1_skip 21 = .ok (.if_icmp .eq 5, 3) := by decide +kernel
theorem dX1_skip_24 : decode cX1_skip 24 = .ok (.iconst 0, 1) := by decide +kernel
theorem dX1_skip_25 : decode cX1_skip 25 = .ok (.ireturn, 1) := by decide +kernel
theorem dX1_skip_26 : decode cX1_skip 26 = .ok (.aload_n 0, 1) := by decide +kernel
theorem dX1_skip_27 : decode cX1_skip 27 = .ok (.dup, 1) := by decide +kernel
theorem dX1_skip_28 : decode cX1_skip 28 = .ok (.getfield 23, 3) := by decide +kernel
theorem dX1_skip_31 : decode cX1_skip 31 = .ok (.iconst 1, 1) := by decide +kernel
theorem dX1_skip_32 : decode cX1_skip 32 = .ok (.iadd, 1) := by decide +kernel
theorem dX1_skip_33 : decode cX1_skip 33 = .ok (.putfield 23, 3) := by decide +kernel
theorem dX1_skip_36 : decode cX1_skip 36 = .ok (.iconst 1, 1) := by decide +kernel
theorem dX1_skip_37 : decode cX1_skip 37 = .ok (.ireturn, 1) := by decide +kernel
theorem dX1_skipWhole_0 : decode cX1_skipWhole 0 = .ok (.iload_n 1, 1) := by decide +kernel
theorem dX1_skipWhole_1 : decode cX1_skipWhole 1 = .ok (.ifCond .ne 18, 3) := by decide +kernel
theorem dX1_skipWhole_4 : decode cX1_skipWhole 4 = .ok (.aload_n 0, 1) := by decide +kernel
theorem dX1_skipWhole_5 : decode cX1_skipWhole 5 = .ok (.bipush 48, 2) := by decide +kernel
theorem dX1_skipWhole_7 : decode cX1_skipWhole 7 = .ok (.invokevirtual 33, 3) := by decide +kernel
theorem dX1_skipWhole_10 : decode cX1_skipWhole 10 = .ok (.ifCond .le 7, 3) := by decide +kernel
theorem dX1_skipWhole_13 : decode cX1_skipWhole 13 = .ok (.iconst 1, 1) := by decide +kernel
theorem dX1_skipWhole_14 : decode cX1_skipWhole 14 = .ok (.goto 4, 3) := by decide +kernel
theorem dX1_skipWhole_17 : decode cX1_skipWhole 17 = .ok (.iconst 0, 1) := by decide +kernel
theorem dX1_skipWhole_18 : decode cX1_skipWhole 18 = .ok (.ireturn, 1) := by decide +kernel
theorem dX1_skipWhole_19 : decode cX1_skipWhole 19 = .ok (.aload_n 0, 1) := by decide +kernel
theorem dX1_skipWhole_20 : decode cX1_skipWhole 20 = .ok (.iconst 3, 1) := by decide +kernel
theorem dX1_skipWhole_21 : decode cX1_skipWhole 21 = .ok (.invokevirtual 33, 3) := by decide +kernel
theorem dX1_skipWhole_24 : decode cX1_skipWhole 24 = .ok (.ifCond .ne 5, 3) := by decide +kernel
theorem dX1_skipWhole_27 : decode cX1_skipWhole 27 = .ok (.iconst 0, 1) := by decide +kernel
theorem dX1_skipWhole_28 : decode cX1_skipWhole 28 = .ok (.ireturn, 1) := by decide +kernel
theorem dX1_skipWhole_29 : decode cX1_skipWhole 29 = .ok (.iconst 0, 1) := by decide +kernel
theorem dX1_skipWhole_30 : decode cX1_skipWhole 30 = .ok (.istore_n 2, 1) := by decide +kernel
theorem dX1_skipWhole_31 : decode cX1_skipWhole 31 = .ok (.iload_n 2, 1) := by decide +kernel
theorem dX1_skipWhole_32 : decode cX1_skipWhole 32 = .ok (.bipush 48, 2) := by decide +kernel
theorem dX1_skipWhole_34 : decode cX1_skipWhole 34 = .ok (.if_icmp .ge 29, 3) := by decide +kernel
theorem dX1_skipWhole_37 : decode cX1_skipWhole 37 = .ok (.aload_n 0, 1) := by decide +kernel
theorem dX1_skipWhole_38 : decode cX1_skipWhole 38 = .ok (.bipush 44, 2) := by decide +kernel
theorem dX1_skipWhole_40 : decode cX1_skipWhole 40 = .ok (.invokevirtual 29, 3) := by decide +kernel
theorem dX1_skipWhole_43 : decode cX1_skipWhole 43 = .ok (.ifCond .eq 20, 3) := by decide +kernel
theorem dX1_skipWhole_46 : decode cX1_skipWhole 46 = .ok (.aload_n 0, 1) := by decide +kernel
theorem dX1_skipWhole_47 : decode cX1_skipWhole 47 = .ok (.iconst 3, 1) := by decide +kernel
theorem dX1_skipWhole_48 : decode cX1_skipWhole 48 = .ok (.invokevirtual 33, 3) := by decide +kernel
theorem dX1_skipWhole_51 : decode cX1_skipWhole 51 = .ok (.iconst 3, 1) := by decide +kernel
theorem dX1_skipWhole_52 : decode cX1_skipWhole 52 = .ok (.if_icmp .ge 5, 3) := by decide +kernel
theorem dX1_skipWhole_55 : decode cX1_skipWhole 55 = .ok (.iconst 0, 1) := by decide +kernel
theorem dX1_skipWhole_56 : decode cX1_skipWhole 56 = .ok (.ireturn, 1) := by decide +kernel
theorem dX1_skipWhole_57 : decode cX1_skipWhole 57 = .ok (.iinc 2 1, 3) := by decide +kernel
theorem dX1_skipWhole_60 : decode cX1_skipWhole 60 = .ok (.goto (-29), 3) := by decide +kernel
theorem dX1_skipWhole_63 : decode cX1_skipWhole 63 = .ok (.iconst 1, 1) := by decide +kernel
theorem dX1_skipWhole_64 : decode cX1_skipWhole 64 = .ok (.ireturn, 1) := by decide +kernel
theorem dX1_skipDigits_0 : decode cX1_skipDigits 0 = .ok (.iconst 0, 1) := by decide +kernel
theorem dX1_skipDigits_1 : decode cX1_skipDigits 1 = .ok (.istore_n 2, 1) := by decide +kernel
theorem dX1_skipDigits_2 : decode cX1_skipDigits 2 = .ok (.iload_n 2, 1) := by decide +kernel
theorem dX1_skipDigits_3 : decode cX1_skipDigits 3 = .ok (.iload_n 1, 1) := by decide +kernel
theorem dX1_skipDigits_4 : decode cX1_skipDigits 4 = .ok (.if_icmp .ge 58, 3) := by decide +kernel
theorem dX1_skipDigits_7 : decode cX1_skipDigits 7 = .ok (.aload_n 0, 1) := by decide +kernel
theorem dX1_skipDigits_8 : decode cX1_skipDigits 8 = .ok (.getfield 23, 3) := by decide +kernel
theorem dX1_skipDigits_11 : decode cX1_skipDigits 11 = .ok (.aload_n 0, 1) := by decide +kernel
theorem dX1_skipDigits_12 : decode cX1_skipDigits 12 = .ok (.getfield 15, 3) := by decide +kernel
theorem dX1_skipDigits_15 : decode cX1_skipDigits 15 = .ok (.if_icmp .ge 47, 3) := by decide +kernel
theorem dX1_skipDigits_18 : decode cX1_skipDigits 18 = .ok (.aload_n 0, 1) := by decide +kernel
theorem dX1_skipDigits_19 : decode cX1_skipDigits 19 = .ok (.getfield 9, 3) := by decide +kernel
theorem dX1_skipDigits_22 : decode cX1_skipDigits 22 = .ok (.aload_n 0, 1) := by decide +kernel
theorem dX1_skipDigits_23 : decode cX1_skipDigits 23 = .ok (.getfield 23, 3) := by decide +kernel
theorem dX1_skipDigits_26 : decode cX1_skipDigits 26 = .ok (.iaload, 1) := by decide +kernel
theorem dX1_skipDigits_27 : decode cX1_skipDigits 27 = .ok (.bipush 48, 2) := by decide +kernel
theorem dX1_skipDigits_29 : decode cX1_skipDigits 29 = .ok (.if_icmp .lt 33, 3) := by decide +kernel
theorem dX1_skipDigits_32 : decode cX1_skipDigits 32 = .ok (.aload_n 0, 1) := by decide +kernel
theorem dX1_skipDigits_33 : decode cX1_skipDigits 33 = .ok (.getfield 9, 3) := by decide +kernel
theorem dX1_skipDigits_36 : decode cX1_skipDigits 36 = .ok (.aload_n 0, 1) := by decide +kernel
theorem dX1_skipDigits_37 : decode cX1_skipDigits 37 = .ok (.getfield 23, 3) := by decide +kernel
theorem dX1_skipDigits_40 : decode cX1_skipDigits 40 = .ok (.iaload, 1) := by decide +kernel
theorem dX1_skipDigits_41 : decode cX1_skipDigits 41 = .ok (.bipush 57, 2) := by decide +kernel
theorem dX1_skipDigits_43 : decode cX1_skipDigits 43 = .ok (.if_icmp .gt 19, 3) := by decide +kernel
theorem dX1_skipDigits_46 : decode cX1_skipDigits 46 = .ok (.aload_n 0, 1) := by decide +kernel
theorem dX1_skipDigits_47 : decode cX1_skipDigits 47 = .ok (.dup, 1) := by decide +kernel
theorem dX1_skipDigits_48 : decode cX1_skipDigits 48 = .ok (.getfield 23, 3) := by decide +kernel
theorem dX1_skipDigits_51 : decode cX1_skipDigits 51 = .ok (.iconst 1, 1) := by decide +kernel
theorem dX1_skipDigits_52 : decode cX1_skipDigits 52 = .ok (.iadd, 1) := by decide +kernel
theorem dX1_skipDigits_53 : decode cX1_skipDigits 53 = .ok (.putfield 23, 3) := by decide +kernel
theorem dX1_skipDigits_56 : decode cX1_skipDigits 56 = .ok (.iinc 2 1, 3) := by decide +kernel
theorem dX1_skipDigits_59 : decode cX1_skipDigits 59 = .ok (.goto (-57), 3) := by decide +kernel
theorem dX1_skipDigits_62 : decode cX1_skipDigits 62 = .ok (.iload_n 2, 1) := by decide +kernel
theorem dX1_skipDigits_63 : decode cX1_skipDigits 63 = .ok (.ireturn, 1) := by decide +kernel
theorem dX1_skipCode_0 : decode cX1_skipCode 0 = .ok (.aload_n 0, 1) := by decide +kernel
theorem dX1_skipCode_1 : decode cX1_skipCode 1 = .ok (.aload_n 0, 1) := by decide +kernel
theorem dX1_skipCode_2 : decode cX1_skipCode 2 = .ok (.getfield 23, 3) := by decide +kernel
theorem dX1_skipCode_5 : decode cX1_skipCode 5 = .ok (.aload_n 0, 1) := by decide +kernel
theorem dX1_skipCode_6 : decode cX1_skipCode 6 = .ok (.getfield 15, 3) := by decide +kernel
theorem dX1_skipCode_9 : decode cX1_skipCode 9 = .ok (.if_icmp .ge 18, 3) := by decide +kernel
theorem dX1_skipCode_12 : decode cX1_skipCode 12 = .ok (.aload_n 0, 1) := by decide +kernel
theorem dX1_skipCode_13 : decode cX1_skipCode 13 = .ok (.getfield 9, 3) := by decide +kernel
theorem dX1_skipCode_16 : decode cX1_skipCode 16 = .ok (.aload_n 0, 1) := by decide +kernel
theorem dX1_skipCode_17 : decode cX1_skipCode 17 = .ok (.getfield 23, 3) := by decide +kernel
theorem dX1_skipCode_20 : decode cX1_skipCode 20 = .ok (.iaload, 1) := by decide +kernel
theorem dX1_skipCode_21 : decode cX1_skipCode 21 = .ok (.bipush 65, 2) := by decide +kernel
theorem dX1_skipCode_23 : decode cX1_skipCode 23 = .ok (.isub, 1) := by decide +kernel
theorem dX1_skipCode_24 : decode cX1_skipCode 24 = .ok (.goto 4, 3) := by decide +kernel
theorem dX1_skipCode_27 : decode cX1_skipCode 27 = .ok (.iconst (-1), 1) := by decide +kernel
theorem dX1_skipCode_28 : decode cX1_skipCode 28 = .ok (.putfield 26, 3) := by decide +kernel
theorem dX1_skipCode_31 : decode cX1_skipCode 31 = .ok (.aload_n 0, 1) := by decide +kernel
theorem dX1_skipCode_32 : decode cX1_skipCode 32 = .ok (.getfield 26, 3) := by decide +kernel
theorem dX1_skipCode_35 : decode cX1_skipCode 35 = .ok (.ifCond .lt 12, 3) := by decide +kernel
theorem dX1_skipCode_38 : decode cX1_skipCode 38 = .ok (.aload_n 0, 1) := by decide +kernel
theorem dX1_skipCode_39 : decode cX1_skipCode 39 = .ok (.getfield 26, 3) := by decide +kernel
theorem dX1_skipCode_42 : decode cX1_skipCode 42 = .ok (.bipush 6, 2) := by decide +kernel
theorem dX1_skipCode_44 : decode cX1_skipCode 44 = .ok (.if_icmp .lt 5, 3) := by decide +kernel
theorem dX1_skipCode_47 : decode cX1_skipCode 47 = .ok (.iconst 0, 1) := by decide +kernel
theorem dX1_skipCode_48 : decode cX1_skipCode 48 = .ok (.ireturn, 1) := by decide +kernel
theorem dX1_skipCode_49 : decode cX1_skipCode 49 = .ok (.iconst 0, 1) := by decide +kernel
theorem dX1_skipCode_50 : decode cX1_skipCode 50 = .ok (.istore_n 1, 1) := by decide +kernel
theorem dX1_skipCode_51 : decode cX1_skipCode 51 = .ok (.iload_n 1, 1) := by decide +kernel
theorem dX1_skipCode_52 : decode cX1_skipCode 52 = .ok (.iconst 3, 1) := by decide +kernel
theorem dX1_skipCode_53 : decode cX1_skipCode 53 = .ok (.if_icmp .ge 25, 3) := by decide +kernel
theorem dX1_skipCode_56 : decode cX1_skipCode 56 = .ok (.aload_n 0, 1) := by decide +kernel
theorem dX1_skipCode_57 : decode cX1_skipCode 57 = .ok (.bipush 65, 2) := by decide +kernel
theorem dX1_skipCode_59 : decode cX1_skipCode 59 = .ok (.aload_n 0, 1) := by decide +kernel
theorem dX1_skipCode_60 : decode cX1_skipCode 60 = .ok (.getfield 26, 3) := by decide +kernel
theorem dX1_skipCode_63 : decode cX1_skipCode 63 = .ok (.iadd, 1) := by decide +kernel
theorem dX1_skipCode_64 : decode cX1_skipCode 64 = .ok (.invokevirtual 29, 3) := by decide +kernel
theorem dX1_skipCode_67 : decode cX1_skipCode 67 = .ok (.ifCond .ne 5, 3) := by decide +kernel
theorem dX1_skipCode_70 : decode cX1_skipCode 70 = .ok (.iconst 0, 1) := by decide +kernel
theorem dX1_skipCode_71 : decode cX1_skipCode 71 = .ok (.ireturn, 1) := by decide +kernel
theorem dX1_skipCode_72 : decode cX1_skipCode 72 = .ok (.iinc 1 1, 3) := by decide +kernel
theorem dX1_skipCode_75 : decode cX1_skipCode 75 = .ok (.goto (-24), 3) := by decide +kernel
theorem dX1_skipCode_78 : decode cX1_skipCode 78 = .ok (.iconst 1, 1) := by decide +kernel
theorem dX1_skipCode_79 : decode cX1_skipCode 79 = .ok (.ireturn, 1) := by decide +kernel
theorem dJ7_fill_0 : decode cJ7_fill 0 = .ok (.iconst 0, 1) := by decide +kernel
theorem dJ7_fill_1 : decode cJ7_fill 1 = .ok (.istore_n 2, 1) := by decide +kernel
theorem dJ7_fill_2 : decode cJ7_fill 2 = .ok (.aload_n 0, 1) := by decide +kernel
theorem dJ7_fill_3 : decode cJ7_fill 3 = .ok (.arraylength, 1) := by decide +kernel
theorem dJ7_fill_4 : decode cJ7_fill 4 = .ok (.istore_n 3, 1) := by decide +kernel
theorem dJ7_fill_5 : decode cJ7_fill 5 = .ok (.iload_n 2, 1) := by decide +kernel
theorem dJ7_fill_6 : decode cJ7_fill 6 = .ok (.iload_n 3, 1) := by decide +kernel
theorem dJ7_fill_7 : decode cJ7_fill 7 = .ok (.if_icmp .ge 13, 3) := by decide +kernel
theorem dJ7_fill_10 : decode cJ7_fill 10 = .ok (.aload_n 0, 1) := by decide +kernel
theorem dJ7_fill_11 : decode cJ7_fill 11 = .ok (.iload_n 2, 1) := by decide +kernel
theorem dJ7_fill_12 : decode cJ7_fill 12 = .ok (.iload_n 1, 1) := by decide +kernel
theorem dJ7_fill_13 : decode cJ7_fill 13 = .ok (.iastore, 1) := by decide +kernel
theorem dJ7_fill_14 : decode cJ7_fill 14 = .ok (.iinc 2 1, 3) := by decide +kernel
theorem dJ7_fill_17 : decode cJ7_fill 17 = .ok (.goto (-12), 3) := by decide +kernel
theorem dJ7_fill_20 : decode cJ7_fill 20 = .ok (.return_, 1) := by decide +kernel
theorem dJ6_compare_0 : decode cJ6_compare 0 = .ok (.iload_n 0, 1) := by decide +kernel
theorem dJ6_compare_1 : decode cJ6_compare 1 = .ok (.iload_n 1, 1) := by decide +kernel
theorem dJ6_compare_2 : decode cJ6_compare 2 = .ok (.if_icmp .ge 7, 3) := by decide +kernel
theorem dJ6_compare_5 : decode cJ6_compare 5 = .ok (.iconst (-1), 1) := by decide +kernel
theorem dJ6_compare_6 : decode cJ6_compare 6 = .ok (.goto 13, 3) := by decide +kernel
theorem dJ6_compare_9 : decode cJ6_compare 9 = .ok (.iload_n 0, 1) := by decide +kernel
theorem dJ6_compare_10 : decode cJ6_compare 10 = .ok (.iload_n 1, 1) := by decide +kernel
theorem dJ6_compare_11 : decode cJ6_compare 11 = .ok (.if_icmp .ne 7, 3) := by decide +kernel
theorem dJ6_compare_14 : decode cJ6_compare 14 = .ok (.iconst 0, 1) := by decide +kernel
theorem dJ6_compare_15 : decode cJ6_compare 15 = .ok (.goto 4, 3) := by decide +kernel
theorem dJ6_compare_18 : decode cJ6_compare 18 = .ok (.iconst 1, 1) := by decide +kernel
theorem dJ6_compare_19 : decode cJ6_compare 19 = .ok (.ireturn, 1) := by decide +kernel
theorem dL_cell_0 : decode cL_cell 0 = .ok (.iload_n 1, 1) := by decide +kernel
theorem dL_cell_1 : decode cL_cell 1 = .ok (.aload_n 0, 1) := by decide +kernel
theorem dL_cell_2 : decode cL_cell 2 = .ok (.arraylength, 1) := by decide +kernel
theorem dL_cell_3 : decode cL_cell 3 = .ok (.if_icmp .ge 9, 3) := by decide +kernel
theorem dL_cell_6 : decode cL_cell 6 = .ok (.aload_n 0, 1) := by decide +kernel
theorem dL_cell_7 : decode cL_cell 7 = .ok (.iload_n 1, 1) := by decide +kernel
theorem dL_cell_8 : decode cL_cell 8 = .ok (.iaload, 1) := by decide +kernel
theorem dL_cell_9 : decode cL_cell 9 = .ok (.goto 4, 3) := by decide +kernel
theorem dL_cell_12 : decode cL_cell 12 = .ok (.iconst 0, 1) := by decide +kernel
theorem dL_cell_13 : decode cL_cell 13 = .ok (.ireturn, 1) := by decide +kernel
