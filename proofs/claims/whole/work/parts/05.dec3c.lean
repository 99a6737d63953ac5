theorem dX3_parse_11 : decode cX3_parse 11 = .ok (.iload_n 3, 1) := by decide +kernel
theorem dX3_parse_12 : decode cX3_parse 12 = .ok (.bipush 8, 2) := by decide +kernel
theorem dX3_parse_14 : decode cX3_parse 14 = .ok (.if_icmp .lt 6, 3) := by decide +kernel
theorem dX3_parse_17 : decode cX3_parse 17 = .ok (.bipush (-15), 2) := by decide +kernel
theorem dX3_parse_19 : decode cX3_parse 19 = .ok (.ireturn, 1) := by decide +kernel
theorem dX3_parse_20 : decode cX3_parse 20 = .ok (.aload_n 0, 1) := by decide +kernel
theorem dX3_parse_21 : decode cX3_parse 21 = .ok (.getfield 56, 3) := by decide +kernel
theorem dX3_parse_24 : decode cX3_parse 24 = .ok (.iconst 0, 1) := by decide +kernel
theorem dX3_parse_25 : decode cX3_parse 25 = .ok (.putfield 178, 3) := by decide +kernel
theorem dX3_parse_28 : decode cX3_parse 28 = .ok (.aload_n 0, 1) := by decide +kernel
theorem dX3_parse_29 : decode cX3_parse 29 = .ok (.getfield 46, 3) := by decide +kernel
theorem dX3_parse_32 : decode cX3_parse 32 = .ok (.invokevirtual 181, 3) := by decide +kernel
theorem dX3_parse_35 : decode cX3_parse 35 = .ok (.aload_n 0, 1) := by decide +kernel
theorem dX3_parse_36 : decode cX3_parse 36 = .ok (.iload_n 3, 1) := by decide +kernel
theorem dX3_parse_37 : decode cX3_parse 37 = .ok (.invokevirtual 184, 3) := by decide +kernel
theorem dX3_parse_40 : decode cX3_parse 40 = .ok (.ifCond .eq 20, 3) := by decide +kernel
theorem dX3_parse_43 : decode cX3_parse 43 = .ok (.aload_n 0, 1) := by decide +kernel
theorem dX3_parse_44 : decode cX3_parse 44 = .ok (.getfield 56, 3) := by decide +kernel
theorem dX3_parse_47 : decode cX3_parse 47 = .ok (.getfield 178, 3) := by decide +kernel
theorem dX3_parse_50 : decode cX3_parse 50 = .ok (.aload_n 0, 1) := by decide +kernel
theorem dX3_parse_51 : decode cX3_parse 51 = .ok (.getfield 56, 3) := by decide +kernel
theorem dX3_parse_54 : decode cX3_parse 54 = .ok (.getfield 162, 3) := by decide +kernel
theorem dX3_parse_57 : decode cX3_parse 57 = .ok (.if_icmp .ge 14, 3) := by decide +kernel
theorem dX3_parse_60 : decode cX3_parse 60 = .ok (.bipush (-100), 2) := by decide +kernel
theorem dX3_parse_62 : decode cX3_parse 62 = .ok (.aload_n 0, 1) := by decide +kernel
theorem dX3_parse_63 : decode cX3_parse 63 = .ok (.getfield 56, 3) := by decide +kernel
theorem dX3_parse_66 : decode cX3_parse 66 = .ok (.getfield 178, 3) := by decide +kernel
theorem dX3_parse_69 : decode cX3_parse 69 = .ok (.isub, 1) := by decide +kernel
theorem dX3_parse_70 : decode cX3_parse 70 = .ok (.ireturn, 1) := by decide +kernel
theorem dX3_parse_71 : decode cX3_parse 71 = .ok (.aload_n 0, 1) := by decide +kernel
theorem dX3_parse_72 : decode cX3_parse 72 = .ok (.iload_n 1, 1) := by decide +kernel
theorem dX3_parse_73 : decode cX3_parse 73 = .ok (.iload_n 2, 1) := by decide +kernel
theorem dX3_parse_74 : decode cX3_parse 74 = .ok (.aload_n 0, 1) := by decide +kernel
theorem dX3_parse_75 : decode cX3_parse 75 = .ok (.getfield 56, 3) := by decide +kernel
theorem dX3_parse_78 : decode cX3_parse 78 = .ok (.getfield 187, 3) := by decide +kernel
theorem dX3_parse_81 : decode cX3_parse 81 = .ok (.invokevirtual 71, 3) := by decide +kernel
theorem dX3_parse_84 : decode cX3_parse 84 = .ok (.ireturn, 1) := by decide +kernel
theorem dX3_readStyle_0 : decode cX3_readStyle 0 = .ok (.iload_n 1, 1) := by decide +kernel
theorem dX3_readStyle_1 : decode cX3_readStyle 1 = .ok (.iconst 2, 1) := by decide +kernel
theorem dX3_readStyle_2 : decode cX3_readStyle 2 = .ok (.iand, 1) := by decide +kernel
theorem dX3_readStyle_3 : decode cX3_readStyle 3 = .ok (.ifCond .eq 39, 3) := by decide +kernel
theorem dX3_readStyle_6 : decode cX3_readStyle 6 = .ok (.aload_n 0, 1) := by decide +kernel
theorem dX3_readStyle_7 : decode cX3_readStyle 7 = .ok (.iload_n 1, 1) := by decide +kernel
theorem dX3_readStyle_8 : decode cX3_readStyle 8 = .ok (.invokevirtual 210, 3) := by decide +kernel
theorem dX3_readStyle_11 : decode cX3_readStyle 11 = .ok (.ifCond .eq 29, 3) := by decide +kernel
theorem dX3_readStyle_14 : decode cX3_readStyle 14 = .ok (.aload_n 0, 1) := by decide +kernel
theorem dX3_readStyle_15 : decode cX3_readStyle 15 = .ok (.getfield 56, 3) := by decide +kernel
theorem dX3_readStyle_18 : decode cX3_readStyle 18 = .ok (.bipush 32, 2) := by decide +kernel
theorem dX3_readStyle_20 : decode cX3_readStyle 20 = .ok (.invokevirtual 213, 3) := by decide +kernel
theorem dX3_readStyle_23 : decode cX3_readStyle 23 = .ok (.ifCond .eq 17, 3) := by decide +kernel
theorem dX3_readStyle_26 : decode cX3_readStyle 26 = .ok (.aload_n 0, 1) := by decide +kernel
theorem dX3_readStyle_27 : decode cX3_readStyle 27 = .ok (.getfield 56, 3) := by decide +kernel
theorem dX3_readStyle_30 : decode cX3_readStyle 30 = .ok (.invokevirtual 216, 3) := by decide +kernel
theorem dX3_readStyle_33 : decode cX3_readStyle 33 = .ok (.ifCond .eq 7, 3) := by decide +kernel
theorem dX3_readStyle_36 : decode cX3_readStyle 36 = .ok (.iconst 1, 1) := by decide +kernel
theorem dX3_readStyle_37 : decode cX3_readStyle 37 = .ok (.goto 4, 3) := by decide +kernel
theorem dX3_readStyle_40 : decode cX3_readStyle 40 = .ok (.iconst 0, 1) := by decide +kernel
theorem dX3_readStyle_41 : decode cX3_readStyle 41 = .ok (.ireturn, 1) := by decide +kernel
theorem dX3_readStyle_42 : decode cX3_readStyle 42 = .ok (.aload_n 0, 1) := by decide +kernel
theorem dX3_readStyle_43 : decode cX3_readStyle 43 = .ok (.getfield 56, 3) := by decide +kernel
theorem dX3_readStyle_46 : decode cX3_readStyle 46 = .ok (.invokevirtual 216, 3) := by decide +kernel
theorem dX3_readStyle_49 : decode cX3_readStyle 49 = .ok (.ifCond .eq 27, 3) := by decide +kernel
theorem dX3_readStyle_52 : decode cX3_readStyle 52 = .ok (.aload_n 0, 1) := by decide +kernel
theorem dX3_readStyle_53 : decode cX3_readStyle 53 = .ok (.getfield 56, 3) := by decide +kernel
theorem dX3_readStyle_56 : decode cX3_readStyle 56 = .ok (.bipush 32, 2) := by decide +kernel
theorem dX3_readStyle_58 : decode cX3_readStyle 58 = .ok (.invokevirtual 213, 3) := by decide +kernel
theorem dX3_readStyle_61 : decode cX3_readStyle 61 = .ok (.ifCond .eq 15, 3) := by decide +kernel
theorem dX3_readStyle_64 : decode cX3_readStyle 64 = .ok (.aload_n 0, 1) := by decide +kernel
theorem dX3_readStyle_65 : decode cX3_readStyle 65 = .ok (.iload_n 1, 1) := by decide +kernel
theorem dX3_readStyle_66 : decode cX3_readStyle 66 = .ok (.invokevirtual 210, 3) := by decide +kernel
theorem dX3_readStyle_69 : decode cX3_readStyle 69 = .ok (.ifCond .eq 7, 3) := by decide +kernel
theorem dX3_readStyle_72 : decode cX3_readStyle 72 = .ok (.iconst 1, 1) := by decide +kernel
theorem dX3_readStyle_73 : decode cX3_readStyle 73 = .ok (.goto 4, 3) := by decide +kernel
theorem dX3_readStyle_76 : decode cX3_readStyle 76 = .ok (.iconst 0, 1) := by decide +kernel
theorem dX3_readStyle_77 : decode cX3_readStyle 77 = .ok (.ireturn, 1) := by decide +kernel
theorem dX3_readNumber_0 : decode cX3_readNumber 0 = .ok (.iload_n 1, 1) := by decide +kernel
theorem dX3_readNumber_1 : decode cX3_readNumber 1 = .ok (.iconst 4, 1) := by decide +kernel
theorem dX3_readNumber_2 : decode cX3_readNumber 2 = .ok (.iand, 1) := by decide +kernel
theorem dX3_readNumber_3 : decode cX3_readNumber 3 = .ok (.ifCond .eq 7, 3) := by decide +kernel
theorem dX3_readNumber_6 : decode cX3_readNumber 6 = .ok (.iconst 1, 1) := by decide +kernel
theorem dX3_readNumber_7 : decode cX3_readNumber 7 = .ok (.goto 4, 3) := by decide +kernel
theorem dX3_readNumber_10 : decode cX3_readNumber 10 = .ok (.iconst 0, 1) := by decide +kernel
theorem dX3_readNumber_11 : decode cX3_readNumber 11 = .ok (.istore_n 2, 1) := by decide +kernel
theorem dX3_readNumber_12 : decode cX3_readNumber 12 = .ok (.aload_n 0, 1) := by decide +kernel
theorem dX3_readNumber_13 : decode cX3_readNumber 13 = .ok (.getfield 46, 3) := by decide +kernel
theorem dX3_readNumber_16 : decode cX3_readNumber 16 = .ok (.aload_n 0, 1) := by decide +kernel
theorem dX3_readNumber_17 : decode cX3_readNumber 17 = .ok (.getfield 56, 3) := by decide +kernel
theorem dX3_readNumber_20 : decode cX3_readNumber 20 = .ok (.iload_n 2, 1) := by decide +kernel
theorem dX3_readNumber_21 : decode cX3_readNumber 21 = .ok (.ifCond .eq 8, 3) := by decide +kernel
theorem dX3_readNumber_24 : decode cX3_readNumber 24 = .ok (.bipush 40, 2) := by decide +kernel
theorem dX3_readNumber_26 : decode cX3_readNumber 26 = .ok (.goto 5, 3) := by decide +kernel
theorem dX3_readNumber_29 : decode cX3_readNumber 29 = .ok (.bipush 45, 2) := by decide +kernel
theorem dX3_readNumber_31 : decode cX3_readNumber 31 = .ok (.invokevirtual 213, 3) := by decide +kernel
theorem dX3_readNumber_34 : decode cX3_readNumber 34 = .ok (.putfield 205, 3) := by decide +kernel
theorem dX3_readNumber_37 : decode cX3_readNumber 37 = .ok (.aload_n 0, 1) := by decide +kernel
theorem dX3_readNumber_38 : decode cX3_readNumber 38 = .ok (.iload_n 1, 1) := by decide +kernel
theorem dX3_readNumber_39 : decode cX3_readNumber 39 = .ok (.iconst 1, 1) := by decide +kernel
theorem dX3_readNumber_40 : decode cX3_readNumber 40 = .ok (.iand, 1) := by decide +kernel
theorem dX3_readNumber_41 : decode cX3_readNumber 41 = .ok (.ifCond .eq 7, 3) := by decide +kernel
theorem dX3_readNumber_44 : decode cX3_readNumber 44 = .ok (.iconst 1, 1) := by decide +kernel
theorem dX3_readNumber_45 : decode cX3_readNumber 45 = .ok (.goto 4, 3) := by decide +kernel
theorem dX3_readNumber_48 : decode cX3_readNumber 48 = .ok (.iconst 0, 1) := by decide +kernel
theorem dX3_readNumber_49 : decode cX3_readNumber 49 = .ok (.invokevirtual 219, 3) := by decide +kernel
theorem dX3_readNumber_52 : decode cX3_readNumber 52 = .ok (.ifCond .ne 5, 3) := by decide +kernel
theorem dX3_readNumber_55 : decode cX3_readNumber 55 = .ok (.iconst 0, 1) := by decide +kernel
theorem dX3_readNumber_56 : decode cX3_readNumber 56 = .ok (.ireturn, 1) := by decide +kernel
theorem dX3_readNumber_57 : decode cX3_readNumber 57 = .ok (.iload_n 2, 1) := by decide +kernel
theorem dX3_readNumber_58 : decode cX3_readNumber 58 = .ok (.ifCond .eq 25, 3) := by decide +kernel
theorem dX3_readNumber_61 : decode cX3_readNumber 61 = .ok (.aload_n 0, 1) := by decide +kernel
theorem dX3_readNumber_62 : decode cX3_readNumber 62 = .ok (.getfield 46, 3) := by decide +kernel
theorem dX3_readNumber_65 : decode cX3_readNumber 65 = .ok (.getfield 205, 3) := by decide +kernel
theorem dX3_readNumber_68 : decode cX3_readNumber 68 = .ok (.ifCond .eq 15, 3) := by decide +kernel
theorem dX3_readNumber_71 : decode cX3_readNumber 71 = .ok (.aload_n 0, 1) := by decide +kernel
theorem dX3_readNumber_72 : decode cX3_readNumber 72 = .ok (.getfield 56, 3) := by decide +kernel
theorem dX3_readNumber_75 : decode cX3_readNumber 75 = .ok (.bipush 41, 2) := by decide +kernel
theorem dX3_readNumber_77 : decode cX3_readNumber 77 = .ok (.invokevirtual 213, 3) := by decide +kernel
theorem dX3_readNumber_80 : decode cX3_readNumber 80 = .ok (.ifCond .eq 7, 3) := by decide +kernel
theorem dX3_readNumber_83 : decode cX3_readNumber 83 = .ok (.iconst 1, 1) := by decide +kernel
theorem dX3_readNumber_84 : decode cX3_readNumber 84 = .ok (.goto 4, 3) := by decide +kernel
theorem dX3_readNumber_87 : decode cX3_readNumber 87 = .ok (.iconst 0, 1) := by decide +kernel
theorem dX3_readNumber_88 : decode cX3_readNumber 88 = .ok (.ireturn, 1) := by decide +kernel
theorem dX3_readBody_0 : decode cX3_readBody 0 = .ok (.aload_n 0, 1) := by decide +kernel
theorem dX3_readBody_1 : decode cX3_readBody 1 = .ok (.getfield 56, 3) := by decide +kernel
theorem dX3_readBody_4 : decode cX3_readBody 4 = .ok (.getfield 178, 3) := by decide +kernel
theorem dX3_readBody_7 : decode cX3_readBody 7 = .ok (.istore_n 2, 1) := by decide +kernel
theorem dX3_readBody_8 : decode cX3_readBody 8 = .ok (.aload_n 0, 1) := by decide +kernel
theorem dX3_readBody_9 : decode cX3_readBody 9 = .ok (.getfield 56, 3) := by decide +kernel
theorem dX3_readBody_12 : decode cX3_readBody 12 = .ok (.iload_n 1, 1) := by decide +kernel
theorem dX3_readBody_13 : decode cX3_readBody 13 = .ok (.invokevirtual 223, 3) := by decide +kernel
theorem dX3_readBody_16 : decode cX3_readBody 16 = .ok (.ifCond .ne 5, 3) := by decide +kernel
theorem dX3_readBody_19 : decode cX3_readBody 19 = .ok (.iconst 0, 1) := by decide +kernel
theorem dX3_readBody_20 : decode cX3_readBody 20 = .ok (.ireturn, 1) := by decide +kernel
theorem dX3_readBody_21 : decode cX3_readBody 21 = .ok (.aload_n 0, 1) := by decide +kernel
theorem dX3_readBody_22 : decode cX3_readBody 22 = .ok (.iload_n 2, 1) := by decide +kernel
theorem dX3_readBody_23 : decode cX3_readBody 23 = .ok (.aload_n 0, 1) := by decide +kernel
theorem dX3_readBody_24 : decode cX3_readBody 24 = .ok (.getfield 56, 3) := by decide +kernel
theorem dX3_readBody_27 : decode cX3_readBody 27 = .ok (.getfield 178, 3) := by decide +kernel
theorem dX3_readBody_30 : decode cX3_readBody 30 = .ok (.invokevirtual 226, 3) := by decide +kernel
theorem dX3_readBody_33 : decode cX3_readBody 33 = .ok (.aload_n 0, 1) := by decide +kernel
theorem dX3_readBody_34 : decode cX3_readBody 34 = .ok (.getfield 56, 3) := by decide +kernel
theorem dX3_readBody_37 : decode cX3_readBody 37 = .ok (.bipush 46, 2) := by decide +kernel
theorem dX3_readBody_39 : decode cX3_readBody 39 = .ok (.invokevirtual 213, 3) := by decide +kernel
theorem dX3_readBody_42 : decode cX3_readBody 42 = .ok (.ifCond .ne 5, 3) := by decide +kernel
theorem dX3_readBody_45 : decode cX3_readBody 45 = .ok (.iconst 1, 1) := by decide +kernel
theorem dX3_readBody_46 : decode cX3_readBody 46 = .ok (.ireturn, 1) := by decide +kernel
theorem dX3_readBody_47 : decode cX3_readBody 47 = .ok (.aload_n 0, 1) := by decide +kernel
theorem dX3_readBody_48 : decode cX3_readBody 48 = .ok (.getfield 56, 3) := by decide +kernel
theorem dX3_readBody_51 : decode cX3_readBody 51 = .ok (.getfield 178, 3) := by decide +kernel
theorem dX3_readBody_54 : decode cX3_readBody 54 = .ok (.istore_n 3, 1) := by decide +kernel
theorem dX3_readBody_55 : decode cX3_readBody 55 = .ok (.aload_n 0, 1) := by decide +kernel
theorem dX3_readBody_56 : decode cX3_readBody 56 = .ok (.getfield 56, 3) := by decide +kernel
theorem dX3_readBody_59 : decode cX3_readBody 59 = .ok (.bipush 10, 2) := by decide +kernel
theorem dX3_readBody_61 : decode cX3_readBody 61 = .ok (.invokevirtual 229, 3) := by decide +kernel
theorem dX3_readBody_64 : decode cX3_readBody 64 = .ok (.istore 4, 2) := by decide +kernel
theorem dX3_readBody_66 : decode cX3_readBody 66 = .ok (.iconst 0, 1) := by decide +kernel
theorem dX3_readBody_67 : decode cX3_readBody 67 = .ok (.istore 5, 2) := by decide +kernel
theorem dX3_readBody_69 : decode cX3_readBody 69 = .ok (.iload 5, 2) := by decide +kernel
theorem dX3_readBody_71 : decode cX3_readBody 71 = .ok (.iload 4, 2) := by decide +kernel
theorem dX3_readBody_73 : decode cX3_readBody 73 = .ok (.if_icmp .ge 37, 3) := by decide +kernel
theorem dX3_readBody_76 : decode cX3_readBody 76 = .ok (.aload_n 0, 1) := by decide +kernel
theorem dX3_readBody_77 : decode cX3_readBody 77 = .ok (.getfield 46, 3) := by decide +kernel
theorem dX3_readBody_80 : decode cX3_readBody 80 = .ok (.getfield 133, 3) := by decide +kernel
theorem dX3_readBody_83 : decode cX3_readBody 83 = .ok (.bipush 19, 2) := by decide +kernel
theorem dX3_readBody_85 : decode cX3_readBody 85 = .ok (.iload 5, 2) := by decide +kernel
theorem dX3_readBody_87 : decode cX3_readBody 87 = .ok (.isub, 1) := by decide +kernel
theorem dX3_readBody_88 : decode cX3_readBody 88 = .ok (.aload_n 0, 1) := by decide +kernel
theorem dX3_readBody_89 : decode cX3_readBody 89 = .ok (.getfield 56, 3) := by decide +kernel
theorem dX3_readBody_92 : decode cX3_readBody 92 = .ok (.getfield 175, 3) := by decide +kernel
theorem dX3_readBody_95 : decode cX3_readBody 95 = .ok (.iload_n 3, 1) := by decide +kernel
theorem dX3_readBody_96 : decode cX3_readBody 96 = .ok (.iload 5, 2) := by decide +kernel
theorem dX3_readBody_98 : decode cX3_readBody 98 = .ok (.iadd, 1) := by decide +kernel
theorem dX3_readBody_99 : decode cX3_readBody 99 = .ok (.iaload, 1) := by decide +kernel
theorem dX3_readBody_100 : decode cX3_readBody 100 = .ok (.bipush 48, 2) := by decide +kernel
theorem dX3_readBody_102 : decode cX3_readBody 102 = .ok (.isub, 1) := by decide +kernel
theorem dX3_readBody_103 : decode cX3_readBody 103 = .ok (.iastore, 1) := by decide +kernel
theorem dX3_readBody_104 : decode cX3_readBody 104 = .ok (.iinc 5 1, 3) := by decide +kernel
theorem dX3_readBody_107 : decode cX3_readBody 107 = .ok (.goto (-38), 3) := by decide +kernel
theorem dX3_readBody_110 : decode cX3_readBody 110 = .ok (.iload 4, 2) := by decide +kernel
theorem dX3_readBody_112 : decode cX3_readBody 112 = .ok (.ifCond .le 7, 3) := by decide +kernel
theorem dX3_readBody_115 : decode cX3_readBody 115 = .ok (.iconst 1, 1) := by decide +kernel
theorem dX3_readBody_116 : decode cX3_readBody 116 = .ok (.goto 4, 3) := by decide +kernel
theorem dX3_readBody_119 : decode cX3_readBody 119 = .ok (.iconst 0, 1) := by decide +kernel
theorem dX3_readBody_120 : decode cX3_readBody 120 = .ok (.ireturn, 1) := by decide +kernel
theorem dX3_takeWhole_0 : decode cX3_takeWhole 0 = .ok (.bipush 20, 2) := by decide +kernel
theorem dX3_takeWhole_2 : decode cX3_takeWhole 2 = .ok (.istore_n 3, 1) := by decide +kernel
theorem dX3_takeWhole_3 : decode cX3_takeWhole 3 = .ok (.iload_n 2, 1) := by decide +kernel
theorem dX3_takeWhole_4 : decode cX3_takeWhole 4 = .ok (.iconst 1, 1) := by decide +kernel
theorem dX3_takeWhole_5 : decode cX3_takeWhole 5 = .ok (.isub, 1) := by decide +kernel
theorem dX3_takeWhole_6 : decode cX3_takeWhole 6 = .ok (.istore 4, 2) := by decide +kernel
theorem dX3_takeWhole_8 : decode cX3_takeWhole 8 = .ok (.iload 4, 2) := by decide +kernel
theorem dX3_takeWhole_10 : decode cX3_takeWhole 10 = .ok (.iload_n 1, 1) := by decide +kernel
theorem dX3_takeWhole_11 : decode cX3_takeWhole 11 = .ok (.if_icmp .lt 49, 3) := by decide +kernel
theorem dX3_takeWhole_14 : decode cX3_takeWhole 14 = .ok (.aload_n 0, 1) := by decide +kernel
theorem dX3_takeWhole_15 : decode cX3_takeWhole 15 = .ok (.getfield 56, 3) := by decide +kernel
theorem dX3_takeWhole_18 : decode cX3_takeWhole 18 = .ok (.getfield 175, 3) := by decide +kernel
theorem dX3_takeWhole_21 : decode cX3_takeWhole 21 = .ok (.iload 4, 2) := by decide +kernel
theorem dX3_takeWhole_23 : decode cX3_takeWhole 23 = .ok (.iaload, 1) := by decide +kernel
theorem dX3_takeWhole_24 : decode cX3_takeWhole 24 = .ok (.bipush 44, 2) := by decide +kernel
theorem dX3_takeWhole_26 : decode cX3_takeWhole 26 = .ok (.if_icmp .eq 28, 3) := by decide +kernel
theorem dX3_takeWhole_29 : decode cX3_takeWhole 29 = .ok (.aload_n 0, 1) := by decide +kernel
theorem dX3_takeWhole_30 : decode cX3_takeWhole 30 = .ok (.getfield 46, 3) := by decide +kernel
theorem dX3_takeWhole_33 : decode cX3_takeWhole 33 = .ok (.getfield 133, 3) := by decide +kernel
theorem dX3_takeWhole_36 : decode cX3_takeWhole 36 = .ok (.iload_n 3, 1) := by decide +kernel
theorem dX3_takeWhole_37 : decode cX3_takeWhole 37 = .ok (.aload_n 0, 1) := by decide +kernel
theorem dX3_takeWhole_38 : decode cX3_takeWhole 38 = .ok (.getfield 56, 3) := by decide +kernel
theorem dX3_takeWhole_41 : decode cX3_takeWhole 41 = .ok (.getfield 175, 3) := by decide +kernel
theorem dX3_takeWhole_44 : decode cX3_takeWhole 44 = .ok (.iload 4, 2) := by decide +kernel
theorem dX3_takeWhole_46 : decode cX3_takeWhole 46 = .ok (.iaload, 1) := by decide +kernel
theorem dX3_takeWhole_47 : decode cX3_takeWhole 47 = .ok (.bipush 48, 2) := by decide +kernel
theorem dX3_takeWhole_49 : decode cX3_takeWhole 49 = .ok (.isub, 1) := by decide +kernel
theorem dX3_takeWhole_50 : decode cX3_takeWhole 50 = .ok (.iastore, 1) := by decide +kernel
theorem dX3_takeWhole_51 : decode cX3_takeWhole 51 = .ok (.iinc 3 1, 3) := by decide +kernel
theorem dX3_takeWhole_54 : decode cX3_takeWhole 54 = .ok (.iinc 4 (-1), 3) := by decide +kernel
theorem dX3_takeWhole_57 : decode cX3_takeWhole 57 = .ok (.goto (-49), 3) := by decide +kernel
theorem dX3_takeWhole_60 : decode cX3_takeWhole 60 = .ok (.return_, 1) := by decide +kernel
theorem dJ9_min_0 : decode cJ9_min 0 = .ok (.iload_n 0, 1) := by decide +kernel
theorem dJ9_min_1 : decode cJ9_min 1 = .ok (.iload_n 1, 1) := by decide +kernel
theorem dJ9_min_2 : decode cJ9_min 2 = .ok (.if_icmp .gt 7, 3) := by decide +kernel
theorem dJ9_min_5 : decode cJ9_min 5 = .ok (.iload_n 0, 1) := by decide +kernel
theorem dJ9_min_6 : decode cJ9_min 6 = .ok (.goto 4, 3) := by decide +kernel
theorem dJ9_min_9 : decode cJ9_min 9 = .ok (.iload_n 1, 1) := by decide +kernel
theorem dJ9_min_10 : decode cJ9_min 10 = .ok (.ireturn, 1) := by decide +kernel
theorem dJ9_max_0 : decode cJ9_max 0 = .ok (.iload_n 0, 1) := by decide +kernel
theorem dJ9_max_1 : decode cJ9_max 1 = .ok (.iload_n 1, 1) := by decide +kernel
theorem dJ9_max_2 : decode cJ9_max 2 = .ok (.if_icmp .lt 7, 3) := by decide +kernel
theorem dJ9_max_5 : decode cJ9_max 5 = .ok (.iload_n 0, 1) := by decide +kernel
theorem dJ9_max_6 : decode cJ9_max 6 = .ok (.goto 4, 3) := by decide +kernel
theorem dJ9_max_9 : decode cJ9_max 9 = .ok (.iload_n 1, 1) := by decide +kernel
theorem dJ9_max_10 : decode cJ9_max 10 = .ok (.ireturn, 1) := by decide +kernel
theorem dJ9_abs_0 : decode cJ9_abs 0 = .ok (.lload_n 0, 1) := by decide +kernel
theorem dJ9_abs_1 : decode cJ9_abs 1 = .ok (.lconst 0, 1) := by decide +kernel
theorem dJ9_abs_2 : decode cJ9_abs 2 = .ok (.lcmp, 1) := by decide +kernel
theorem dJ9_abs_3 : decode cJ9_abs 3 = .ok (.ifCond .ge 8, 3) := by decide +kernel
theorem dJ9_abs_6 : decode cJ9_abs 6 = .ok (.lload_n 0, 1) := by decide +kernel
theorem dJ9_abs_7 : decode cJ9_abs 7 = .ok (.lneg, 1) := by decide +kernel
theorem dJ9_abs_8 : decode cJ9_abs 8 = .ok (.goto 4, 3) := by decide +kernel
theorem dJ9_abs_11 : decode cJ9_abs 11 = .ok (.lload_n 0, 1) := by decide +kernel
theorem dJ9_abs_12 : decode cJ9_abs 12 = .ok (.lreturn, 1) := by decide +kernel
theorem dJ9_floorMod_0 : decode cJ9_floorMod 0 = .ok (.iload_n 0, 1) := by decide +kernel
theorem dJ9_floorMod_1 : decode cJ9_floorMod 1 = .ok (.iload_n 1, 1) := by decide +kernel
theorem dJ9_floorMod_2 : decode cJ9_floorMod 2 = .ok (.irem, 1) := by decide +kernel
theorem dJ9_floorMod_3 : decode cJ9_floorMod 3 = .ok (.istore_n 2, 1) := by decide +kernel
theorem dJ9_floorMod_4 : decode cJ9_floorMod 4 = .ok (.iload_n 0, 1) := by decide +kernel
theorem dJ9_floorMod_5 : decode cJ9_floorMod 5 = .ok (.iload_n 1, 1) := by decide +kernel
theorem dJ9_floorMod_6 : decode cJ9_floorMod 6 = .ok (.ixor, 1) := by decide +kernel
theorem dJ9_floorMod_7 : decode cJ9_floorMod 7 = .ok (.ifCond .ge 11, 3) := by decide +kernel
theorem dJ9_floorMod_10 : decode cJ9_floorMod 10 = .ok (.iload_n 2, 1) := by decide +kernel
theorem dJ9_floorMod_11 : decode cJ9_floorMod 11 = .ok (.ifCond .eq 7, 3) := by decide +kernel
theorem dJ9_floorMod_14 : decode cJ9_floorMod 14 = .ok (.iload_n 2, 1) := by decide +kernel
theorem dJ9_floorMod_15 : decode cJ9_floorMod 15 = .ok (.iload_n 1, 1) := by decide +kernel
theorem dJ9_floorMod_16 : decode cJ9_floorMod 16 = .ok (.iadd, 1) := by decide +kernel
theorem dJ9_floorMod_17 : decode cJ9_floorMod 17 = .ok (.ireturn, 1) := by decide +kernel
theorem dJ9_floorMod_18 : decode cJ9_floorMod 18 = .ok (.iload_n 2, 1) := by decide +kernel
theorem dJ9_floorMod_19 : decode cJ9_floorMod 19 = .ok (.ireturn, 1) := by decide +kernel
theorem dJ9_floorDiv_0 : decode cJ9_floorDiv 0 = .ok (.iload_n 0, 1) := by decide +kernel
theorem dJ9_floorDiv_1 : decode cJ9_floorDiv 1 = .ok (.iload_n 1, 1) := by decide +kernel
theorem dJ9_floorDiv_2 : decode cJ9_floorDiv 2 = .ok (.idiv, 1) := by decide +kernel
theorem dJ9_floorDiv_3 : decode cJ9_floorDiv 3 = .ok (.istore_n 2, 1) := by decide +kernel
theorem dJ9_floorDiv_4 : decode cJ9_floorDiv 4 = .ok (.iload_n 0, 1) := by decide +kernel
theorem dJ9_floorDiv_5 : decode cJ9_floorDiv 5 = .ok (.iload_n 1, 1) := by decide +kernel
theorem dJ9_floorDiv_6 : decode cJ9_floorDiv 6 = .ok (.ixor, 1) := by decide +kernel
theorem dJ9_floorDiv_7 : decode cJ9_floorDiv 7 = .ok (.ifCond .ge 14, 3) := by decide +kernel
theorem dJ9_floorDiv_10 : decode cJ9_floorDiv 10 = .ok (.iload_n 2, 1) := by decide +kernel
theorem dJ9_floorDiv_11 : decode cJ9_floorDiv 11 = .ok (.iload_n 1, 1) := by decide +kernel
theorem dJ9_floorDiv_12 : decode cJ9_floorDiv 12 = .ok (.imul, 1) := by decide +kernel
theorem dJ9_floorDiv_13 : decode cJ9_floorDiv 13 = .ok (.iload_n 0, 1) := by decide +kernel
theorem dJ9_floorDiv_14 : decode cJ9_floorDiv 14 = .ok (.if_icmp .eq 7, 3) := by decide +kernel
theorem dJ9_floorDiv_17 : decode cJ9_floorDiv 17 = .ok (.iload_n 2, 1) := by decide +kernel
theorem dJ9_floorDiv_18 : decode cJ9_floorDiv 18 = .ok (.iconst 1, 1) := by decide +kernel
theorem dJ9_floorDiv_19 : decode cJ9_floorDiv 19 = .ok (.isub, 1) := by decide +kernel
theorem dJ9_floorDiv_20 : decode cJ9_floorDiv 20 = .ok (.ireturn, 1) := by decide +kernel
theorem dJ9_floorDiv_21 : decode cJ9_floorDiv 21 = .ok (.iload_n 2, 1) := by decide +kernel
theorem dJ9_floorDiv_22 : decode cJ9_floorDiv 22 = .ok (.ireturn, 1) := by decide +kernel
theorem dX0_init_0 : decode cX0_init 0 = .ok (.aload_n 0, 1) := by decide +kernel
theorem dX0_init_1 : decode cX0_init 1 = .ok (.invokespecial 3, 3) := by decide +kernel
theorem dX0_init_4 : decode cX0_init 4 = .ok (.aload_n 0, 1) := by decide +kernel
theorem dX0_init_5 : decode cX0_init 5 = .ok (.bipush 36, 2) := by decide +kernel
theorem dX0_init_7 : decode cX0_init 7 = .ok (.newarray .int, 2) := by decide +kernel
theorem dX0_init_9 : decode cX0_init 9 = .ok (.putfield 9, 3) := by decide +kernel
theorem dX0_init_12 : decode cX0_init 12 = .ok (.return_, 1) := by decide +kernel
theorem dX0_take_0 : decode cX0_take 0 = .ok (.aload_n 1, 1) := by decide +kernel
theorem dX0_take_1 : decode cX0_take 1 = .ok (.getfield 23, 3) := by decide +kernel
theorem dX0_take_4 : decode cX0_take 4 = .ok (.bipush 10, 2) := by decide +kernel
theorem dX0_take_6 : decode cX0_take 6 = .ok (.aload_n 0, 1) := by decide +kernel
theorem dX0_take_7 : decode cX0_take 7 = .ok (.getfield 9, 3) := by decide +kernel
theorem dX0_take_10 : decode cX0_take 10 = .ok (.iconst 0, 1) := by decide +kernel
theorem dX0_take_11 : decode cX0_take 11 = .ok (.bipush 36, 2) := by decide +kernel
theorem dX0_take_13 : decode cX0_take 13 = .ok (.invokestatic 26, 3) := by decide +kernel
theorem dX0_take_16 : decode cX0_take 16 = .ok (.aload_n 0, 1) := by decide +kernel
theorem dX0_take_17 : decode cX0_take 17 = .ok (.iconst 1, 1) := by decide +kernel
theorem dX0_take_18 : decode cX0_take 18 = .ok (.putfield 32, 3) := by decide +kernel
theorem dX0_take_21 : decode cX0_take 21 = .ok (.aload_n 0, 1) := by decide +kernel
theorem dX0_take_22 : decode cX0_take 22 = .ok (.iload_n 2, 1) := by decide +kernel
theorem dX0_take_23 : decode cX0_take 23 = .ok (.putfield 15, 3) := by decide +kernel
theorem dX0_take_26 : decode cX0_take 26 = .ok (.aload_n 0, 1) := by decide +kernel
theorem dX0_take_27 : decode cX0_take 27 = .ok (.iload_n 3, 1) := by decide +kernel
theorem dX0_take_28 : decode cX0_take 28 = .ok (.putfield 19, 3) := by decide +kernel
theorem dX0_take_31 : decode cX0_take 31 = .ok (.aload_n 0, 1) := by decide +kernel
theorem dX0_take_32 : decode cX0_take 32 = .ok (.aload_n 1, 1) := by decide +kernel
theorem dX0_take_33 : decode cX0_take 33 = .ok (.getfield 35, 3) := by decide +kernel
theorem dX0_take_36 : decode cX0_take 36 = .ok (.ifCond .eq 20, 3) := by decide +kernel
theorem dX0_take_39 : decode cX0_take 39 = .ok (.aload_n 0, 1) := by decide +kernel
theorem dX0_take_40 : decode cX0_take 40 = .ok (.getfield 9, 3) := by decide +kernel
theorem dX0_take_43 : decode cX0_take 43 = .ok (.iconst 0, 1) := by decide +kernel
theorem dX0_take_44 : decode cX0_take 44 = .ok (.bipush 36, 2) := by decide +kernel
theorem dX0_take_46 : decode cX0_take 46 = .ok (.invokestatic 38, 3) := by decide +kernel
theorem dX0_take_49 : decode cX0_take 49 = .ok (.ifCond .ne 7, 3) := by decide +kernel
theorem dX0_take_52 : decode cX0_take 52 = .ok (.iconst 1, 1) := by decide +kernel
theorem dX0_take_53 : decode cX0_take 53 = .ok (.goto 4, 3) := by decide +kernel
theorem dX0_take_56 : decode cX0_take 56 = .ok (.iconst 0, 1) := by decide +kernel
theorem dX0_take_57 : decode cX0_take 57 = .ok (.putfield 42, 3) := by decide +kernel
theorem dX0_take_60 : decode cX0_take 60 = .ok (.return_, 1) := by decide +kernel
theorem dX0_isLike_0 : decode cX0_isLike 0 = .ok (.aload_n 0, 1) := by decide +kernel
theorem dX0_isLike_1 : decode cX0_isLike 1 = .ok (.getfield 15, 3) := by decide +kernel
theorem dX0_isLike_4 : decode cX0_isLike 4 = .ok (.aload_n 1, 1) := by decide +kernel
theorem dX0_isLike_5 : decode cX0_isLike 5 = .ok (.getfield 15, 3) := by decide +kernel
theorem dX0_isLike_8 : decode cX0_isLike 8 = .ok (.if_icmp .ne 18, 3) := by decide +kernel
theorem dX0_isLike_11 : decode cX0_isLike 11 = .ok (.aload_n 0, 1) := by decide +kernel
theorem dX0_isLike_12 : decode cX0_isLike 12 = .ok (.getfield 19, 3) := by decide +kernel
theorem dX0_isLike_15 : decode cX0_isLike 15 = .ok (.aload_n 1, 1) := by decide +kernel
theorem dX0_isLike_16 : decode cX0_isLike 16 = .ok (.getfield 19, 3) := by decide +kernel
theorem dX0_isLike_19 : decode cX0_isLike 19 = .ok (.if_icmp .ne 7, 3) := by decide +kernel
theorem dX0_isLike_22 : decode cX0_isLike 22 = .ok (.iconst 1, 1) := by decide +kernel
theorem dX0_isLike_23 : decode cX0_isLike 23 = .ok (.goto 4, 3) := by decide +kernel
theorem dX0_isLike_26 : decode cX0_isLike 26 = .ok (.iconst 0, 1) := by decide +kernel
theorem dX0_isLike_27 : decode cX0_isLike 27 = .ok (.ireturn, 1) := by decide +kernel
theorem dX2_init_0 : decode cX2_init 0 = .ok (.aload_n 0, 1) := by decide +kernel
theorem dX2_init_1 : decode cX2_init 1 = .ok (.invokespecial 3, 3) := by decide +kernel
theorem dX2_init_4 : decode cX2_init 4 = .ok (.aload_n 0, 1) := by decide +kernel
theorem dX2_init_5 : decode cX2_init 5 = .ok (.bipush 72, 2) := by decide +kernel
theorem dX2_init_7 : decode cX2_init 7 = .ok (.newarray .int, 2) := by decide +kernel
theorem dX2_init_9 : decode cX2_init 9 = .ok (.putfield 9, 3) := by decide +kernel
theorem dX2_init_12 : decode cX2_init 12 = .ok (.aload_n 0, 1) := by decide +kernel
theorem dX2_init_13 : decode cX2_init 13 = .ok (.bipush 19, 2) := by decide +kernel
theorem dX2_init_15 : decode cX2_init 15 = .ok (.newarray .int, 2) := by decide +kernel
theorem dX2_init_17 : decode cX2_init 17 = .ok (.putfield 15, 3) := by decide +kernel
theorem dX2_init_20 : decode cX2_init 20 = .ok (.return_, 1) := by decide +kernel
theorem dX2_loadNumber_0 : decode cX2_loadNumber 0 = .ok (.aload_n 0, 1) := by decide +kernel
theorem dX2_loadNumber_1 : decode cX2_loadNumber 1 = .ok (.invokevirtual 31, 3) := by decide +kernel
theorem dX2_loadNumber_4 : decode cX2_loadNumber 4 = .ok (.lload_n 1, 1) := by decide +kernel
theorem dX2_loadNumber_5 : decode cX2_loadNumber 5 = .ok (.aload_n 0, 1) := by decide +kernel
theorem dX2_loadNumber_6 : decode cX2_loadNumber 6 = .ok (.getfield 9, 3) := by decide +kernel
theorem dX2_loadNumber_9 : decode cX2_loadNumber 9 = .ok (.iload_n 3, 1) := by decide +kernel
theorem dX2_loadNumber_10 : decode cX2_loadNumber 10 = .ok (.invokestatic 40, 3) := by decide +kernel
theorem dX2_loadNumber_13 : decode cX2_loadNumber 13 = .ok (.aload_n 0, 1) := by decide +kernel
theorem dX2_loadNumber_14 : decode cX2_loadNumber 14 = .ok (.lload_n 1, 1) := by decide +kernel
theorem dX2_loadNumber_15 : decode cX2_loadNumber 15 = .ok (.lconst 0, 1) := by decide +kernel
theorem dX2_loadNumber_16 : decode cX2_loadNumber 16 = .ok (.lcmp, 1) := by decide +kernel
theorem dX2_loadNumber_17 : decode cX2_loadNumber 17 = .ok (.ifCond .ge 7, 3) := by decide +kernel
theorem dX2_loadNumber_20 : decode cX2_loadNumber 20 = .ok (.iconst 1, 1) := by decide +kernel
theorem dX2_loadNumber_21 : decode cX2_loadNumber 21 = .ok (.goto 4, 3) := by decide +kernel
theorem dX2_loadNumber_24 : decode cX2_loadNumber 24 = .ok (.iconst 0, 1) := by decide +kernel
theorem dX2_loadNumber_25 : decode cX2_loadNumber 25 = .ok (.putfield 24, 3) := by decide +kernel
theorem dX2_loadNumber_28 : decode cX2_loadNumber 28 = .ok (.return_, 1) := by decide +kernel
theorem dX2_clear_0 : decode cX2_clear 0 = .ok (.aload_n 0, 1) := by decide +kernel
theorem dX2_clear_1 : decode cX2_clear 1 = .ok (.getfield 9, 3) := by decide +kernel
theorem dX2_clear_4 : decode cX2_clear 4 = .ok (.iconst 0, 1) := by decide +kernel
theorem dX2_clear_5 : decode cX2_clear 5 = .ok (.invokestatic 18, 3) := by decide +kernel
theorem dX2_clear_8 : decode cX2_clear 8 = .ok (.aload_n 0, 1) := by decide +kernel
theorem dX2_clear_9 : decode cX2_clear 9 = .ok (.iconst 0, 1) := by decide +kernel
theorem dX2_clear_10 : decode cX2_clear 10 = .ok (.putfield 24, 3) := by decide +kernel
theorem dX2_clear_13 : decode cX2_clear 13 = .ok (.aload_n 0, 1) := by decide +kernel
theorem dX2_clear_14 : decode cX2_clear 14 = .ok (.iconst 0, 1) := by decide +kernel
theorem dX2_clear_15 : decode cX2_clear 15 = .ok (.putfield 28, 3) := by decide +kernel
theorem dX2_clear_18 : decode cX2_clear 18 = .ok (.return_, 1) := by decide +kernel
theorem dX2_spell_0 : decode cX2_spell 0 = .ok (.lload_n 0, 1) := by decide +kernel
theorem dX2_spell_1 : decode cX2_spell 1 = .ok (.lstore 4, 2) := by decide +kernel
theorem dX2_spell_3 : decode cX2_spell 3 = .ok (.iconst 0, 1) := by decide +kernel
theorem dX2_spell_4 : decode cX2_spell 4 = .ok (.istore 6, 2) := by decide +kernel
theorem dX2_spell_6 : decode cX2_spell 6 = .ok (.iload 6, 2) := by decide +kernel
theorem dX2_spell_8 : decode cX2_spell 8 = .ok (.bipush 19, 2) := by decide +kernel
theorem dX2_spell_10 : decode cX2_spell 10 = .ok (.if_icmp .ge 33, 3) := by decide +kernel
theorem dX2_spell_13 : decode cX2_spell 13 = .ok (.aload_n 2, 1) := by decide +kernel
theorem dX2_spell_14 : decode cX2_spell 14 = .ok (.iload_n 3, 1) := by decide +kernel
theorem dX2_spell_15 : decode cX2_spell 15 = .ok (.iload 6, 2) := by decide +kernel
theorem dX2_spell_17 : decode cX2_spell 17 = .ok (.iadd, 1) := by decide +kernel
theorem dX2_spell_18 : decode cX2_spell 18 = .ok (.lload 4, 2) := by decide +kernel
theorem dX2_spell_20 : decode cX2_spell 20 = .ok (.ldc2_w 44, 3) := by decide +kernel
theorem dX2_spell_23 : decode cX2_spell 23 = .ok (.lrem, 1) := by decide +kernel
theorem dX2_spell_24 : decode cX2_spell 24 = .ok (.invokestatic 46, 3) := by decide +kernel
theorem dX2_spell_27 : decode cX2_spell 27 = .ok (.l2i, 1) := by decide +kernel
theorem dX2_spell_28 : decode cX2_spell 28 = .ok (.iastore, 1) := by decide +kernel
theorem dX2_spell_29 : decode cX2_spell 29 = .ok (.lload 4, 2) := by decide +kernel
theorem dX2_spell_31 : decode cX2_spell 31 = .ok (.ldc2_w 44, 3) := by decide +kernel
theorem dX2_spell_34 : decode cX2_spell 34 = .ok (.ldiv, 1) := by decide +kernel
theorem dX2_spell_35 : decode cX2_spell 35 = .ok (.lstore 4, 2) := by decide +kernel
theorem dX2_spell_37 : decode cX2_spell 37 = .ok (.iinc 6 1, 3) := by decide +kernel
theorem dX2_spell_40 : decode cX2_spell 40 = .ok (.goto (-34), 3) := by decide +kernel
theorem dX2_spell_43 : decode cX2_spell 43 = .ok (.return_, 1) := by decide +kernel
theorem dX2_size_0 : decode cX2_size 0 = .ok (.bipush 72, 2) := by decide +kernel
theorem dX2_size_2 : decode cX2_size 2 = .ok (.istore_n 1, 1) := by decide +kernel
theorem dX2_size_3 : decode cX2_size 3 = .ok (.iload_n 1, 1) := by decide +kernel
theorem dX2_size_4 : decode cX2_size 4 = .ok (.ifCond .le 22, 3) := by decide +kernel
theorem dX2_size_7 : decode cX2_size 7 = .ok (.aload_n 0, 1) := by decide +kernel
theorem dX2_size_8 : decode cX2_size 8 = .ok (.getfield 9, 3) := by decide +kernel
theorem dX2_size_11 : decode cX2_size 11 = .ok (.iload_n 1, 1) := by decide +kernel
theorem dX2_size_12 : decode cX2_size 12 = .ok (.iconst 1, 1) := by decide +kernel
theorem dX2_size_13 : decode cX2_size 13 = .ok (.isub, 1) := by decide +kernel
theorem dX2_size_14 : decode cX2_size 14 = .ok (.iaload, 1) := by decide +kernel
theorem dX2_size_15 : decode cX2_size 15 = .ok (.ifCond .eq 5, 3) := by decide +kernel
theorem dX2_size_18 : decode cX2_size 18 = .ok (.iload_n 1, 1) := by decide +kernel
theorem dX2_size_19 : decode cX2_size 19 = .ok (.ireturn, 1) := by decide +kernel
theorem dX2_size_20 : decode cX2_size 20 = .ok (.iinc 1 (-1), 3) := by decide +kernel
theorem dX2_size_23 : decode cX2_size 23 = .ok (.goto (-20), 3) := by decide +kernel
theorem dX2_size_26 : decode cX2_size 26 = .ok (.iconst 0, 1) := by decide +kernel
theorem dX2_size_27 : decode cX2_size 27 = .ok (.ireturn, 1) := by decide +kernel
theorem dX2_toMultiple_0 : decode cX2_toMultiple 0 = .ok (.aload_n 0, 1) := by decide +kernel
theorem dX2_toMultiple_1 : decode cX2_toMultiple 1 = .ok (.getfield 9, 3) := by decide +kernel
theorem dX2_toMultiple_4 : decode cX2_toMultiple 4 = .ok (.iload_n 1, 1) := by decide +kernel
theorem dX2_toMultiple_5 : decode cX2_toMultiple 5 = .ok (.iconst 1, 1) := by decide +kernel
theorem dX2_toMultiple_6 : decode cX2_toMultiple 6 = .ok (.iadd, 1) := by decide +kernel
theorem dX2_toMultiple_7 : decode cX2_toMultiple 7 = .ok (.iaload, 1) := by decide +kernel
theorem dX2_toMultiple_8 : decode cX2_toMultiple 8 = .ok (.bipush 10, 2) := by decide +kernel
theorem dX2_toMultiple_10 : decode cX2_toMultiple 10 = .ok (.imul, 1) := by decide +kernel
theorem dX2_toMultiple_11 : decode cX2_toMultiple 11 = .ok (.aload_n 0, 1) := by decide +kernel
theorem dX2_toMultiple_12 : decode cX2_toMultiple 12 = .ok (.getfield 9, 3) := by decide +kernel
theorem dX2_toMultiple_15 : decode cX2_toMultiple 15 = .ok (.iload_n 1, 1) := by decide +kernel
theorem dX2_toMultiple_16 : decode cX2_toMultiple 16 = .ok (.iaload, 1) := by decide +kernel
theorem dX2_toMultiple_17 : decode cX2_toMultiple 17 = .ok (.iadd, 1) := by decide +kernel
theorem dX2_toMultiple_18 : decode cX2_toMultiple 18 = .ok (.istore 4, 2) := by decide +kernel
theorem dX2_toMultiple_20 : decode cX2_toMultiple 20 = .ok (.iload 4, 2) := by decide +kernel
theorem dX2_toMultiple_22 : decode cX2_toMultiple 22 = .ok (.iload_n 2, 1) := by decide +kernel
theorem dX2_toMultiple_23 : decode cX2_toMultiple 23 = .ok (.irem, 1) := by decide +kernel
theorem dX2_toMultiple_24 : decode cX2_toMultiple 24 = .ok (.bipush 10, 2) := by decide +kernel
theorem dX2_toMultiple_26 : decode cX2_toMultiple 26 = .ok (.imul, 1) := by decide +kernel
theorem dX2_toMultiple_27 : decode cX2_toMultiple 27 = .ok (.aload_n 0, 1) := by decide +kernel
theorem dX2_toMultiple_28 : decode cX2_toMultiple 28 = .ok (.getfield 9, 3) := by decide +kernel
theorem dX2_toMultiple_31 : decode cX2_toMultiple 31 = .ok (.iload_n 1, 1) := by decide +kernel
theorem dX2_toMultiple_32 : decode cX2_toMultiple 32 = .ok (.iconst 1, 1) := by decide +kernel
theorem dX2_toMultiple_33 : decode cX2_toMultiple 33 = .ok (.isub, 1) := by decide +kernel
theorem dX2_toMultiple_34 : decode cX2_toMultiple 34 = .ok (.iaload, 1) := by decide +kernel
theorem dX2_toMultiple_35 : decode cX2_toMultiple 35 = .ok (.iadd, 1) := by decide +kernel
theorem dX2_toMultiple_36 : decode cX2_toMultiple 36 = .ok (.istore 5, 2) := by decide +kernel
theorem dX2_toMultiple_38 : decode cX2_toMultiple 38 = .ok (.aload_n 0, 1) := by decide +kernel
theorem dX2_toMultiple_39 : decode cX2_toMultiple 39 = .ok (.getfield 28, 3) := by decide +kernel
theorem dX2_toMultiple_42 : decode cX2_toMultiple 42 = .ok (.ifCond .ne 17, 3) := by decide +kernel
theorem dX2_toMultiple_45 : decode cX2_toMultiple 45 = .ok (.aload_n 0, 1) := by decide +kernel
theorem dX2_toMultiple_46 : decode cX2_toMultiple 46 = .ok (.getfield 9, 3) := by decide +kernel
theorem dX2_toMultiple_49 : decode cX2_toMultiple 49 = .ok (.iconst 0, 1) := by decide +kernel
theorem dX2_toMultiple_50 : decode cX2_toMultiple 50 = .ok (.iload_n 1, 1) := by decide +kernel
theorem dX2_toMultiple_51 : decode cX2_toMultiple 51 = .ok (.iconst 1, 1) := by decide +kernel
theorem dX2_toMultiple_52 : decode cX2_toMultiple 52 = .ok (.isub, 1) := by decide +kernel
theorem dX2_toMultiple_53 : decode cX2_toMultiple 53 = .ok (.invokestatic 68, 3) := by decide +kernel
theorem dX2_toMultiple_56 : decode cX2_toMultiple 56 = .ok (.ifCond .ne 7, 3) := by decide +kernel
theorem dX2_toMultiple_59 : decode cX2_toMultiple 59 = .ok (.iconst 1, 1) := by decide +kernel
theorem dX2_toMultiple_60 : decode cX2_toMultiple 60 = .ok (.goto 4, 3) := by decide +kernel
theorem dX2_toMultiple_63 : decode cX2_toMultiple 63 = .ok (.iconst 0, 1) := by decide +kernel
theorem dX2_toMultiple_64 : decode cX2_toMultiple 64 = .ok (.istore 6, 2) := by decide +kernel
theorem dX2_toMultiple_66 : decode cX2_toMultiple 66 = .ok (.iload 5, 2) := by decide +kernel
theorem dX2_toMultiple_68 : decode cX2_toMultiple 68 = .ok (.ifCond .ne 10, 3) := by decide +kernel
theorem dX2_toMultiple_71 : decode cX2_toMultiple 71 = .ok (.iload 6, 2) := by decide +kernel
theorem dX2_toMultiple_73 : decode cX2_toMultiple 73 = .ok (.ifCond .ne 5, 3) := by decide +kernel
theorem dX2_toMultiple_76 : decode cX2_toMultiple 76 = .ok (.iconst 1, 1) := by decide +kernel
theorem dX2_toMultiple_77 : decode cX2_toMultiple 77 = .ok (.ireturn, 1) := by decide +kernel
theorem dX2_toMultiple_78 : decode cX2_toMultiple 78 = .ok (.iload_n 3, 1) := by decide +kernel
theorem dX2_toMultiple_79 : decode cX2_toMultiple 79 = .ok (.bipush 7, 2) := by decide +kernel
theorem dX2_toMultiple_81 : decode cX2_toMultiple 81 = .ok (.if_icmp .ne 5, 3) := by decide +kernel
theorem dX2_toMultiple_84 : decode cX2_toMultiple 84 = .ok (.iconst 0, 1) := by decide +kernel
theorem dX2_toMultiple_85 : decode cX2_toMultiple 85 = .ok (.ireturn, 1) := by decide +kernel
theorem dX2_toMultiple_86 : decode cX2_toMultiple 86 = .ok (.iload 5, 2) := by decide +kernel
theorem dX2_toMultiple_88 : decode cX2_toMultiple 88 = .ok (.iload_n 2, 1) := by decide +kernel
theorem dX2_toMultiple_89 : decode cX2_toMultiple 89 = .ok (.iconst 5, 1) := by decide +kernel
theorem dX2_toMultiple_90 : decode cX2_toMultiple 90 = .ok (.imul, 1) := by decide +kernel
theorem dX2_toMultiple_91 : decode cX2_toMultiple 91 = .ok (.invokestatic 72, 3) := by decide +kernel
theorem dX2_toMultiple_94 : decode cX2_toMultiple 94 = .ok (.istore 7, 2) := by decide +kernel
theorem dX2_toMultiple_96 : decode cX2_toMultiple 96 = .ok (.iload 7, 2) := by decide +kernel
theorem dX2_toMultiple_98 : decode cX2_toMultiple 98 = .ok (.ifCond .ne 11, 3) := by decide +kernel
theorem dX2_toMultiple_101 : decode cX2_toMultiple 101 = .ok (.iload 6, 2) := by decide +kernel
theorem dX2_toMultiple_103 : decode cX2_toMultiple 103 = .ok (.ifCond .eq 6, 3) := by decide +kernel
theorem dX2_toMultiple_106 : decode cX2_toMultiple 106 = .ok (.iconst 1, 1) := by decide +kernel
theorem dX2_toMultiple_107 : decode cX2_toMultiple 107 = .ok (.istore 7, 2) := by decide +kernel
theorem dX2_toMultiple_109 : decode cX2_toMultiple 109 = .ok (.aload_n 0, 1) := by decide +kernel
theorem dX2_toMultiple_110 : decode cX2_toMultiple 110 = .ok (.iload_n 3, 1) := by decide +kernel
theorem dX2_toMultiple_111 : decode cX2_toMultiple 111 = .ok (.iload 7, 2) := by decide +kernel
theorem dX2_toMultiple_113 : decode cX2_toMultiple 113 = .ok (.iload 4, 2) := by decide +kernel
theorem dX2_toMultiple_115 : decode cX2_toMultiple 115 = .ok (.iload_n 2, 1) := by decide +kernel
theorem dX2_toMultiple_116 : decode cX2_toMultiple 116 = .ok (.idiv, 1) := by decide +kernel
theorem dX2_toMultiple_117 : decode cX2_toMultiple 117 = .ok (.iconst 2, 1) := by decide +kernel
theorem dX2_toMultiple_118 : decode cX2_toMultiple 118 = .ok (.irem, 1) := by decide +kernel
theorem dX2_toMultiple_119 : decode cX2_toMultiple 119 = .ok (.ifCond .eq 7, 3) := by decide +kernel
theorem dX2_toMultiple_122 : decode cX2_toMultiple 122 = .ok (.iconst 1, 1) := by decide +kernel
theorem dX2_toMultiple_123 : decode cX2_toMultiple 123 = .ok (.goto 4, 3) := by decide +kernel
theorem dX2_toMultiple_126 : decode cX2_toMultiple 126 = .ok (.iconst 0, 1) := by decide +kernel
theorem dX2_toMultiple_127 : decode cX2_toMultiple 127 = .ok (.invokevirtual 77, 3) := by decide +kernel
theorem dX2_toMultiple_130 : decode cX2_toMultiple 130 = .ok (.istore 8, 2) := by decide +kernel
theorem dX2_toMultiple_132 : decode cX2_toMultiple 132 = .ok (.iconst 0, 1) := by decide +kernel
theorem dX2_toMultiple_133 : decode cX2_toMultiple 133 = .ok (.istore 9, 2) := by decide +kernel
theorem dX2_toMultiple_135 : decode cX2_toMultiple 135 = .ok (.iload 9, 2) := by decide +kernel
theorem dX2_toMultiple_137 : decode cX2_toMultiple 137 = .ok (.iload_n 1, 1) := by decide +kernel
theorem dX2_toMultiple_138 : decode cX2_toMultiple 138 = .ok (.if_icmp .ge 17, 3) := by decide +kernel
theorem dX2_toMultiple_141 : decode cX2_toMultiple 141 = .ok (.aload_n 0, 1) := by decide +kernel
theorem dX2_toMultiple_142 : decode cX2_toMultiple 142 = .ok (.getfield 9, 3) := by decide +kernel
theorem dX2_toMultiple_145 : decode cX2_toMultiple 145 = .ok (.iload 9, 2) := by decide +kernel
theorem dX2_toMultiple_147 : decode cX2_toMultiple 147 = .ok (.iconst 0, 1) := by decide +kernel
theorem dX2_toMultiple_148 : decode cX2_toMultiple 148 = .ok (.iastore, 1) := by decide +kernel
theorem dX2_toMultiple_149 : decode cX2_toMultiple 149 = .ok (.iinc 9 1, 3) := by decide +kernel
theorem dX2_toMultiple_152 : decode cX2_toMultiple 152 = .ok (.goto (-17), 3) := by decide +kernel
theorem dX2_toMultiple_155 : decode cX2_toMultiple 155 = .ok (.aload_n 0, 1) := by decide +kernel
theorem dX2_toMultiple_156 : decode cX2_toMultiple 156 = .ok (.iconst 0, 1) := by decide +kernel
theorem dX2_toMultiple_157 : decode cX2_toMultiple 157 = .ok (.putfield 28, 3) := by decide +kernel
theorem dX2_toMultiple_160 : decode cX2_toMultiple 160 = .ok (.aload_n 0, 1) := by decide +kernel
theorem dX2_toMultiple_161 : decode cX2_toMultiple 161 = .ok (.iload_n 1, 1) := by decide +kernel
theorem dX2_toMultiple_162 : decode cX2_toMultiple 162 = .ok (.iload 8, 2) := by decide +kernel
theorem dX2_toMultiple_164 : decode cX2_toMultiple 164 = .ok (.ifCond .eq 7, 3) := by decide +kernel
theorem dX2_toMultiple_167 : decode cX2_toMultiple 167 = .ok (.iload_n 2, 1) := by decide +kernel
theorem dX2_toMultiple_168 : decode cX2_toMultiple 168 = .ok (.goto 4, 3) := by decide +kernel
theorem dX2_toMultiple_171 : decode cX2_toMultiple 171 = .ok (.iconst 0, 1) := by decide +kernel
theorem dX2_toMultiple_172 : decode cX2_toMultiple 172 = .ok (.iload 4, 2) := by decide +kernel
theorem dX2_toMultiple_174 : decode cX2_toMultiple 174 = .ok (.iload_n 2, 1) := by decide +kernel
theorem dX2_toMultiple_175 : decode cX2_toMultiple 175 = .ok (.irem, 1) := by decide +kernel
theorem dX2_toMultiple_176 : decode cX2_toMultiple 176 = .ok (.isub, 1) := by decide +kernel
theorem dX2_toMultiple_177 : decode cX2_toMultiple 177 = .ok (.invokevirtual 81, 3) := by decide +kernel
theorem dX2_toMultiple_180 : decode cX2_toMultiple 180 = .ok (.iconst 1, 1) := by decide +kernel
theorem dX2_toMultiple_181 : decode cX2_toMultiple 181 = .ok (.ireturn, 1) := by decide +kernel
theorem dX2_goesAway_0 : decode cX2_goesAway 0 = .ok (.iload_n 1, 1) := by decide +kernel
theorem dX2_goesAway_1 : decode cX2_goesAway 1 = .ok (.tableswitch 81 0 5 #[39, 41, 43, 56, 61, 71], 39) := by decide +kernel
theorem dX2_goesAway_40 : decode cX2_goesAway 40 = .ok (.iconst 1, 1) := by decide +kernel
theorem dX2_goesAway_41 : decode cX2_goesAway 41 = .ok (.ireturn, 1) := by decide +kernel
theorem dX2_goesAway_42 : decode cX2_goesAway 42 = .ok (.iconst 0, 1) := by decide +kernel
theorem dX2_goesAway_43 : decode cX2_goesAway 43 = .ok (.ireturn, 1) := by decide +kernel
theorem dX2_goesAway_44 : decode cX2_goesAway 44 = .ok (.aload_n 0, 1) := by decide +kernel
theorem dX2_goesAway_45 : decode cX2_goesAway 45 = .ok (.getfield 24, 3) := by decide +kernel
theorem dX2_goesAway_48 : decode cX2_goesAway 48 = .ok (.ifCond .ne 7, 3) := by decide +kernel
theorem dX2_goesAway_51 : decode cX2_goesAway 51 = .ok (.iconst 1, 1) := by decide +kernel
theorem dX2_goesAway_52 : decode cX2_goesAway 52 = .ok (.goto 4, 3) := by decide +kernel
theorem dX2_goesAway_55 : decode cX2_goesAway 55 = .ok (.iconst 0, 1) := by decide +kernel
theorem dX2_goesAway_56 : decode cX2_goesAway 56 = .ok (.ireturn, 1) := by decide +kernel
theorem dX2_goesAway_57 : decode cX2_goesAway 57 = .ok (.aload_n 0, 1) := by decide +kernel
theorem dX2_goesAway_58 : decode cX2_goesAway 58 = .ok (.getfield 24, 3) := by decide +kernel
theorem dX2_goesAway_61 : decode cX2_goesAway 61 = .ok (.ireturn, 1) := by decide +kernel
theorem dX2_goesAway_62 : decode cX2_goesAway 62 = .ok (.iload_n 2, 1) := by decide +kernel
theorem dX2_goesAway_63 : decode cX2_goesAway 63 = .ok (.ifCond .lt 7, 3) := by decide +kernel
theorem dX2_goesAway_66 : decode cX2_goesAway 66 = .ok (.iconst 1, 1) := by decide +kernel
theorem dX2_goesAway_67 : decode cX2_goesAway 67 = .ok (.goto 4, 3) := by decide +kernel
theorem dX2_goesAway_70 : decode cX2_goesAway 70 = .ok (.iconst 0, 1) := by decide +kernel
theorem dX2_goesAway_71 : decode cX2_goesAway 71 = .ok (.ireturn, 1) := by decide +kernel
theorem dX2_goesAway_72 : decode cX2_goesAway 72 = .ok (.iload_n 2, 1) := by decide +kernel
theorem dX2_goesAway_73 : decode cX2_goesAway 73 = .ok (.ifCond .le 7, 3) := by decide +kernel
theorem dX2_goesAway_76 : decode cX2_goesAway 76 = .ok (.iconst 1, 1) := by decide +kernel
theorem dX2_goesAway_77 : decode cX2_goesAway 77 = .ok (.goto 4, 3) := by decide +kernel
theorem dX2_goesAway_80 : decode cX2_goesAway 80 = .ok (.iconst 0, 1) := by decide +kernel
theorem dX2_goesAway_81 : decode cX2_goesAway 81 = .ok (.ireturn, 1) := by decide +kernel
theorem dX2_goesAway_82 : decode cX2_goesAway 82 = .ok (.iload_n 2, 1) := by decide +kernel
theorem dX2_goesAway_83 : decode cX2_goesAway 83 = .ok (.ifCond .gt 11, 3) := by decide +kernel
theorem dX2_goesAway_86 : decode cX2_goesAway 86 = .ok (.iload_n 2, 1) := by decide +kernel
theorem dX2_goesAway_87 : decode cX2_goesAway 87 = .ok (.ifCond .ne 11, 3) := by decide +kernel
theorem dX2_goesAway_90 : decode cX2_goesAway 90 = .ok (.iload_n 3, 1) := by decide +kernel
theorem dX2_goesAway_91 : decode cX2_goesAway 91 = .ok (.ifCond .eq 7, 3) := by decide +kernel
theorem dX2_goesAway_94 : decode cX2_goesAway 94 = .ok (.iconst 1, 1) := by decide +kernel
theorem dX2_goesAway_95 : decode cX2_goesAway 95 = .ok (.goto 4, 3) := by decide +kernel
theorem dX2_goesAway_98 : decode cX2_goesAway 98 = .ok (.iconst 0, 1) := by decide +kernel
theorem dX2_goesAway_99 : decode cX2_goesAway 99 = .ok (.ireturn, 1) := by decide +kernel
theorem dX2_increase_0 : decode cX2_increase 0 = .ok (.aload_n 0, 1) := by decide +kernel
theorem dX2_increase_1 : decode cX2_increase 1 = .ok (.getfield 9, 3) := by decide +kernel
theorem dX2_increase_4 : decode cX2_increase 4 = .ok (.iload_n 1, 1) := by decide +kernel
theorem dX2_increase_5 : decode cX2_increase 5 = .ok (.dup2, 1) := by decide +kernel
theorem dX2_increase_6 : decode cX2_increase 6 = .ok (.iaload, 1) := by decide +kernel
theorem dX2_increase_7 : decode cX2_increase 7 = .ok (.iload_n 2, 1) := by decide +kernel
theorem dX2_increase_8 : decode cX2_increase 8 = .ok (.iadd, 1) := by decide +kernel
theorem dX2_increase_9 : decode cX2_increase 9 = .ok (.iastore, 1) := by decide +kernel
theorem dX2_increase_10 : decode cX2_increase 10 = .ok (.aload_n 0, 1) := by decide +kernel
theorem dX2_increase_11 : decode cX2_increase 11 = .ok (.invokevirtual 59, 3) := by decide +kernel
theorem dX2_increase_14 : decode cX2_increase 14 = .ok (.return_, 1) := by decide +kernel
theorem dX2_carry_0 : decode cX2_carry 0 = .ok (.iconst 0, 1) := by decide +kernel
theorem dX2_carry_1 : decode cX2_carry 1 = .ok (.istore_n 1, 1) := by decide +kernel
theorem dX2_carry_2 : decode cX2_carry 2 = .ok (.iconst 0, 1) := by decide +kernel
theorem dX2_carry_3 : decode cX2_carry 3 = .ok (.istore_n 2, 1) := by decide +kernel
theorem dX2_carry_4 : decode cX2_carry 4 = .ok (.iload_n 2, 1) := by decide +kernel
theorem dX2_carry_5 : decode cX2_carry 5 = .ok (.bipush 72, 2) := by decide +kernel
theorem dX2_carry_7 : decode cX2_carry 7 = .ok (.if_icmp .ge 37, 3) := by decide +kernel
theorem dX2_carry_10 : decode cX2_carry 10 = .ok (.aload_n 0, 1) := by decide +kernel
theorem dX2_carry_11 : decode cX2_carry 11 = .ok (.getfield 9, 3) := by decide +kernel
theorem dX2_carry_14 : decode cX2_carry 14 = .ok (.iload_n 2, 1) := by decide +kernel
theorem dX2_carry_15 : decode cX2_carry 15 = .ok (.iaload, 1) := by decide +kernel
theorem dX2_carry_16 : decode cX2_carry 16 = .ok (.iload_n 1, 1) := by decide +kernel
theorem dX2_carry_17 : decode cX2_carry 17 = .ok (.iadd, 1) := by decide +kernel
theorem dX2_carry_18 : decode cX2_carry 18 = .ok (.istore_n 3, 1) := by decide +kernel
theorem dX2_carry_19 : decode cX2_carry 19 = .ok (.aload_n 0, 1) := by decide +kernel
theorem dX2_carry_20 : decode cX2_carry 20 = .ok (.getfield 9, 3) := by decide +kernel
theorem dX2_carry_23 : decode cX2_carry 23 = .ok (.iload_n 2, 1) := by decide +kernel
theorem dX2_carry_24 : decode cX2_carry 24 = .ok (.iload_n 3, 1) := by decide +kernel
theorem dX2_carry_25 : decode cX2_carry 25 = .ok (.bipush 10, 2) := by decide +kernel
theorem dX2_carry_27 : decode cX2_carry 27 = .ok (.invokestatic 52, 3) := by decide +kernel
theorem dX2_carry_30 : decode cX2_carry 30 = .ok (.iastore, 1) := by decide +kernel
theorem dX2_carry_31 : decode cX2_carry 31 = .ok (.iload_n 3, 1) := by decide +kernel
theorem dX2_carry_32 : decode cX2_carry 32 = .ok (.bipush 10, 2) := by decide +kernel
theorem dX2_carry_34 : decode cX2_carry 34 = .ok (.invokestatic 56, 3) := by decide +kernel
theorem dX2_carry_37 : decode cX2_carry 37 = .ok (.istore_n 1, 1) := by decide +kernel
theorem dX2_carry_38 : decode cX2_carry 38 = .ok (.iinc 2 1, 3) := by decide +kernel
theorem dX2_carry_41 : decode cX2_carry 41 = .ok (.goto (-37), 3) := by decide +kernel
theorem dX2_carry_44 : decode cX2_carry 44 = .ok (.return_, 1) := by decide +kernel
theorem dX2_fitsWide_0 : decode cX2_fitsWide 0 = .ok (.aload_n 0, 1) := by decide +kernel
theorem dX2_fitsWide_1 : decode cX2_fitsWide 1 = .ok (.getfield 9, 3) := by decide +kernel
theorem dX2_fitsWide_4 : decode cX2_fitsWide 4 = .ok (.bipush 46, 2) := by decide +kernel
theorem dX2_fitsWide_6 : decode cX2_fitsWide 6 = .ok (.bipush 72, 2) := by decide +kernel
theorem dX2_fitsWide_8 : decode cX2_fitsWide 8 = .ok (.invokestatic 68, 3) := by decide +kernel
theorem dX2_fitsWide_11 : decode cX2_fitsWide 11 = .ok (.ireturn, 1) := by decide +kernel
theorem dX2_fitsFast_0 : decode cX2_fitsFast 0 = .ok (.bipush 15, 2) := by decide +kernel
theorem dX2_fitsFast_2 : decode cX2_fitsFast 2 = .ok (.istore_n 1, 1) := by decide +kernel
theorem dX2_fitsFast_3 : decode cX2_fitsFast 3 = .ok (.aload_n 0, 1) := by decide +kernel
