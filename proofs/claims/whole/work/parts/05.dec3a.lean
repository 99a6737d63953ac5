theorem dX3_init_0 : decode cX3_init 0 = .ok (.aload_n 0, 1) := by decide +kernel
theorem dX3_init_1 : decode cX3_init 1 = .ok (.invokespecial 3, 3) := by decide +kernel
theorem dX3_init_4 : decode cX3_init 4 = .ok (.aload_n 0, 1) := by decide +kernel
theorem dX3_init_5 : decode cX3_init 5 = .ok (.bipush 19, 2) := by decide +kernel
theorem dX3_init_7 : decode cX3_init 7 = .ok (.bipush 30, 2) := by decide +kernel
theorem dX3_init_9 : decode cX3_init 9 = .ok (.iload_n 1, 1) := by decide +kernel
theorem dX3_init_10 : decode cX3_init 10 = .ok (.invokestatic 9, 3) := by decide +kernel
theorem dX3_init_13 : decode cX3_init 13 = .ok (.invokestatic 15, 3) := by decide +kernel
theorem dX3_init_16 : decode cX3_init 16 = .ok (.putfield 18, 3) := by decide +kernel
theorem dX3_init_19 : decode cX3_init 19 = .ok (.aload_n 0, 1) := by decide +kernel
theorem dX3_init_20 : decode cX3_init 20 = .ok (.iconst 5, 1) := by decide +kernel
theorem dX3_init_21 : decode cX3_init 21 = .ok (.bipush 10, 2) := by decide +kernel
theorem dX3_init_23 : decode cX3_init 23 = .ok (.iload_n 2, 1) := by decide +kernel
theorem dX3_init_24 : decode cX3_init 24 = .ok (.invokestatic 9, 3) := by decide +kernel
theorem dX3_init_27 : decode cX3_init 27 = .ok (.invokestatic 15, 3) := by decide +kernel
theorem dX3_init_30 : decode cX3_init 30 = .ok (.putfield 22, 3) := by decide +kernel
theorem dX3_init_33 : decode cX3_init 33 = .ok (.aload_n 0, 1) := by decide +kernel
theorem dX3_init_34 : decode cX3_init 34 = .ok (.iconst 0, 1) := by decide +kernel
theorem dX3_init_35 : decode cX3_init 35 = .ok (.bipush 6, 2) := by decide +kernel
theorem dX3_init_37 : decode cX3_init 37 = .ok (.iload_n 3, 1) := by decide +kernel
theorem dX3_init_38 : decode cX3_init 38 = .ok (.invokestatic 9, 3) := by decide +kernel
theorem dX3_init_41 : decode cX3_init 41 = .ok (.invokestatic 15, 3) := by decide +kernel
theorem dX3_init_44 : decode cX3_init 44 = .ok (.putfield 25, 3) := by decide +kernel
theorem dX3_init_47 : decode cX3_init 47 = .ok (.aload_n 0, 1) := by decide +kernel
theorem dX3_init_48 : decode cX3_init 48 = .ok (.bipush 8, 2) := by decide +kernel
theorem dX3_init_50 : decode cX3_init 50 = .ok (.anewarray 28, 3) := by decide +kernel
theorem dX3_init_53 : decode cX3_init 53 = .ok (.putfield 30, 3) := by decide +kernel
theorem dX3_init_56 : decode cX3_init 56 = .ok (.iconst 0, 1) := by decide +kernel
theorem dX3_init_57 : decode cX3_init 57 = .ok (.istore 4, 2) := by decide +kernel
theorem dX3_init_59 : decode cX3_init 59 = .ok (.iload 4, 2) := by decide +kernel
theorem dX3_init_61 : decode cX3_init 61 = .ok (.bipush 8, 2) := by decide +kernel
theorem dX3_init_63 : decode cX3_init 63 = .ok (.if_icmp .ge 23, 3) := by decide +kernel
theorem dX3_init_66 : decode cX3_init 66 = .ok (.aload_n 0, 1) := by decide +kernel
theorem dX3_init_67 : decode cX3_init 67 = .ok (.getfield 30, 3) := by decide +kernel
theorem dX3_init_70 : decode cX3_init 70 = .ok (.iload 4, 2) := by decide +kernel
theorem dX3_init_72 : decode cX3_init 72 = .ok (.new 28, 3) := by decide +kernel
theorem dX3_init_75 : decode cX3_init 75 = .ok (.dup, 1) := by decide +kernel
theorem dX3_init_76 : decode cX3_init 76 = .ok (.invokespecial 34, 3) := by decide +kernel
theorem dX3_init_79 : decode cX3_init 79 = .ok (.aastore, 1) := by decide +kernel
theorem dX3_init_80 : decode cX3_init 80 = .ok (.iinc 4 1, 3) := by decide +kernel
theorem dX3_init_83 : decode cX3_init 83 = .ok (.goto (-24), 3) := by decide +kernel
theorem dX3_init_86 : decode cX3_init 86 = .ok (.aload_n 0, 1) := by decide +kernel
theorem dX3_init_87 : decode cX3_init 87 = .ok (.bipush 8, 2) := by decide +kernel
theorem dX3_init_89 : decode cX3_init 89 = .ok (.newarray .int, 2) := by decide +kernel
theorem dX3_init_91 : decode cX3_init 91 = .ok (.putfield 35, 3) := by decide +kernel
theorem dX3_init_94 : decode cX3_init 94 = .ok (.aload_n 0, 1) := by decide +kernel
theorem dX3_init_95 : decode cX3_init 95 = .ok (.bipush 8, 2) := by decide +kernel
theorem dX3_init_97 : decode cX3_init 97 = .ok (.newarray .long, 2) := by decide +kernel
theorem dX3_init_99 : decode cX3_init 99 = .ok (.putfield 39, 3) := by decide +kernel
theorem dX3_init_102 : decode cX3_init 102 = .ok (.aload_n 0, 1) := by decide +kernel
theorem dX3_init_103 : decode cX3_init 103 = .ok (.new 43, 3) := by decide +kernel
theorem dX3_init_106 : decode cX3_init 106 = .ok (.dup, 1) := by decide +kernel
theorem dX3_init_107 : decode cX3_init 107 = .ok (.invokespecial 45, 3) := by decide +kernel
theorem dX3_init_110 : decode cX3_init 110 = .ok (.putfield 46, 3) := by decide +kernel
theorem dX3_init_113 : decode cX3_init 113 = .ok (.aload_n 0, 1) := by decide +kernel
theorem dX3_init_114 : decode cX3_init 114 = .ok (.new 43, 3) := by decide +kernel
theorem dX3_init_117 : decode cX3_init 117 = .ok (.dup, 1) := by decide +kernel
theorem dX3_init_118 : decode cX3_init 118 = .ok (.invokespecial 45, 3) := by decide +kernel
theorem dX3_init_121 : decode cX3_init 121 = .ok (.putfield 50, 3) := by decide +kernel
theorem dX3_init_124 : decode cX3_init 124 = .ok (.aload_n 0, 1) := by decide +kernel
theorem dX3_init_125 : decode cX3_init 125 = .ok (.new 53, 3) := by decide +kernel
theorem dX3_init_128 : decode cX3_init 128 = .ok (.dup, 1) := by decide +kernel
theorem dX3_init_129 : decode cX3_init 129 = .ok (.invokespecial 55, 3) := by decide +kernel
theorem dX3_init_132 : decode cX3_init 132 = .ok (.putfield 56, 3) := by decide +kernel
theorem dX3_init_135 : decode cX3_init 135 = .ok (.return_, 1) := by decide +kernel
theorem dX3_set_0 : decode cX3_set 0 = .ok (.iload_n 1, 1) := by decide +kernel
theorem dX3_set_1 : decode cX3_set 1 = .ok (.invokestatic 60, 3) := by decide +kernel
theorem dX3_set_4 : decode cX3_set 4 = .ok (.ifCond .eq 21, 3) := by decide +kernel
theorem dX3_set_7 : decode cX3_set 7 = .ok (.iload_n 3, 1) := by decide +kernel
theorem dX3_set_8 : decode cX3_set 8 = .ok (.ifCond .lt 17, 3) := by decide +kernel
theorem dX3_set_11 : decode cX3_set 11 = .ok (.iload_n 3, 1) := by decide +kernel
theorem dX3_set_12 : decode cX3_set 12 = .ok (.bipush 6, 2) := by decide +kernel
theorem dX3_set_14 : decode cX3_set 14 = .ok (.if_icmp .ge 11, 3) := by decide +kernel
theorem dX3_set_17 : decode cX3_set 17 = .ok (.iload 6, 2) := by decide +kernel
theorem dX3_set_19 : decode cX3_set 19 = .ok (.invokestatic 64, 3) := by decide +kernel
theorem dX3_set_22 : decode cX3_set 22 = .ok (.ifCond .ne 6, 3) := by decide +kernel
theorem dX3_set_25 : decode cX3_set 25 = .ok (.bipush (-15), 2) := by decide +kernel
theorem dX3_set_27 : decode cX3_set 27 = .ok (.ireturn, 1) := by decide +kernel
theorem dX3_set_28 : decode cX3_set 28 = .ok (.aload_n 0, 1) := by decide +kernel
theorem dX3_set_29 : decode cX3_set 29 = .ok (.getfield 46, 3) := by decide +kernel
theorem dX3_set_32 : decode cX3_set 32 = .ok (.lload 4, 2) := by decide +kernel
theorem dX3_set_34 : decode cX3_set 34 = .ok (.bipush 20, 2) := by decide +kernel
theorem dX3_set_36 : decode cX3_set 36 = .ok (.iload 6, 2) := by decide +kernel
theorem dX3_set_38 : decode cX3_set 38 = .ok (.isub, 1) := by decide +kernel
theorem dX3_set_39 : decode cX3_set 39 = .ok (.invokevirtual 67, 3) := by decide +kernel
theorem dX3_set_42 : decode cX3_set 42 = .ok (.aload_n 0, 1) := by decide +kernel
theorem dX3_set_43 : decode cX3_set 43 = .ok (.iload_n 1, 1) := by decide +kernel
theorem dX3_set_44 : decode cX3_set 44 = .ok (.iload_n 2, 1) := by decide +kernel
theorem dX3_set_45 : decode cX3_set 45 = .ok (.iload_n 3, 1) := by decide +kernel
theorem dX3_set_46 : decode cX3_set 46 = .ok (.invokevirtual 71, 3) := by decide +kernel
theorem dX3_set_49 : decode cX3_set 49 = .ok (.ireturn, 1) := by decide +kernel
theorem dX3_isRegister_0 : decode cX3_isRegister 0 = .ok (.iload_n 0, 1) := by decide +kernel
theorem dX3_isRegister_1 : decode cX3_isRegister 1 = .ok (.ifCond .lt 13, 3) := by decide +kernel
theorem dX3_isRegister_4 : decode cX3_isRegister 4 = .ok (.iload_n 0, 1) := by decide +kernel
theorem dX3_isRegister_5 : decode cX3_isRegister 5 = .ok (.bipush 8, 2) := by decide +kernel
theorem dX3_isRegister_7 : decode cX3_isRegister 7 = .ok (.if_icmp .ge 7, 3) := by decide +kernel
theorem dX3_isRegister_10 : decode cX3_isRegister 10 = .ok (.iconst 1, 1) := by decide +kernel
theorem dX3_isRegister_11 : decode cX3_isRegister 11 = .ok (.goto 4, 3) := by decide +kernel
theorem dX3_isRegister_14 : decode cX3_isRegister 14 = .ok (.iconst 0, 1) := by decide +kernel
theorem dX3_isRegister_15 : decode cX3_isRegister 15 = .ok (.ireturn, 1) := by decide +kernel
theorem dX3_isPower_0 : decode cX3_isPower 0 = .ok (.iload_n 0, 1) := by decide +kernel
theorem dX3_isPower_1 : decode cX3_isPower 1 = .ok (.ifCond .lt 13, 3) := by decide +kernel
theorem dX3_isPower_4 : decode cX3_isPower 4 = .ok (.iload_n 0, 1) := by decide +kernel
theorem dX3_isPower_5 : decode cX3_isPower 5 = .ok (.bipush 9, 2) := by decide +kernel
theorem dX3_isPower_7 : decode cX3_isPower 7 = .ok (.if_icmp .gt 7, 3) := by decide +kernel
theorem dX3_isPower_10 : decode cX3_isPower 10 = .ok (.iconst 1, 1) := by decide +kernel
theorem dX3_isPower_11 : decode cX3_isPower 11 = .ok (.goto 4, 3) := by decide +kernel
theorem dX3_isPower_14 : decode cX3_isPower 14 = .ok (.iconst 0, 1) := by decide +kernel
theorem dX3_isPower_15 : decode cX3_isPower 15 = .ok (.ireturn, 1) := by decide +kernel
theorem dX3_keep_0 : decode cX3_keep 0 = .ok (.iload_n 2, 1) := by decide +kernel
theorem dX3_keep_1 : decode cX3_keep 1 = .ok (.ifCond .eq 53, 3) := by decide +kernel
theorem dX3_keep_4 : decode cX3_keep 4 = .ok (.iconst 0, 1) := by decide +kernel
theorem dX3_keep_5 : decode cX3_keep 5 = .ok (.aload_n 0, 1) := by decide +kernel
theorem dX3_keep_6 : decode cX3_keep 6 = .ok (.getfield 46, 3) := by decide +kernel
theorem dX3_keep_9 : decode cX3_keep 9 = .ok (.invokevirtual 195, 3) := by decide +kernel
theorem dX3_keep_12 : decode cX3_keep 12 = .ok (.bipush 20, 2) := by decide +kernel
theorem dX3_keep_14 : decode cX3_keep 14 = .ok (.isub, 1) := by decide +kernel
theorem dX3_keep_15 : decode cX3_keep 15 = .ok (.invokestatic 15, 3) := by decide +kernel
theorem dX3_keep_18 : decode cX3_keep 18 = .ok (.istore 4, 2) := by decide +kernel
theorem dX3_keep_20 : decode cX3_keep 20 = .ok (.aload_n 0, 1) := by decide +kernel
theorem dX3_keep_21 : decode cX3_keep 21 = .ok (.getfield 22, 3) := by decide +kernel
theorem dX3_keep_24 : decode cX3_keep 24 = .ok (.aload_n 0, 1) := by decide +kernel
theorem dX3_keep_25 : decode cX3_keep 25 = .ok (.getfield 18, 3) := by decide +kernel
theorem dX3_keep_28 : decode cX3_keep 28 = .ok (.iload 4, 2) := by decide +kernel
theorem dX3_keep_30 : decode cX3_keep 30 = .ok (.isub, 1) := by decide +kernel
theorem dX3_keep_31 : decode cX3_keep 31 = .ok (.invokestatic 9, 3) := by decide +kernel
theorem dX3_keep_34 : decode cX3_keep 34 = .ok (.istore 5, 2) := by decide +kernel
theorem dX3_keep_36 : decode cX3_keep 36 = .ok (.aload_n 0, 1) := by decide +kernel
theorem dX3_keep_37 : decode cX3_keep 37 = .ok (.getfield 46, 3) := by decide +kernel
theorem dX3_keep_40 : decode cX3_keep 40 = .ok (.bipush 20, 2) := by decide +kernel
theorem dX3_keep_42 : decode cX3_keep 42 = .ok (.iload 5, 2) := by decide +kernel
theorem dX3_keep_44 : decode cX3_keep 44 = .ok (.isub, 1) := by decide +kernel
theorem dX3_keep_45 : decode cX3_keep 45 = .ok (.iconst 1, 1) := by decide +kernel
theorem dX3_keep_46 : decode cX3_keep 46 = .ok (.aload_n 0, 1) := by decide +kernel
theorem dX3_keep_47 : decode cX3_keep 47 = .ok (.getfield 25, 3) := by decide +kernel
theorem dX3_keep_50 : decode cX3_keep 50 = .ok (.invokevirtual 117, 3) := by decide +kernel
theorem dX3_keep_53 : decode cX3_keep 53 = .ok (.pop, 1) := by decide +kernel
theorem dX3_keep_54 : decode cX3_keep 54 = .ok (.aload_n 0, 1) := by decide +kernel
theorem dX3_keep_55 : decode cX3_keep 55 = .ok (.iload_n 1, 1) := by decide +kernel
theorem dX3_keep_56 : decode cX3_keep 56 = .ok (.iload_n 2, 1) := by decide +kernel
theorem dX3_keep_57 : decode cX3_keep 57 = .ok (.iload_n 3, 1) := by decide +kernel
theorem dX3_keep_58 : decode cX3_keep 58 = .ok (.invokevirtual 107, 3) := by decide +kernel
theorem dX3_keep_61 : decode cX3_keep 61 = .ok (.ireturn, 1) := by decide +kernel
theorem dX3_isZero_0 : decode cX3_isZero 0 = .ok (.iload_n 1, 1) := by decide +kernel
theorem dX3_isZero_1 : decode cX3_isZero 1 = .ok (.istore_n 3, 1) := by decide +kernel
theorem dX3_isZero_2 : decode cX3_isZero 2 = .ok (.iload_n 3, 1) := by decide +kernel
theorem dX3_isZero_3 : decode cX3_isZero 3 = .ok (.iload_n 2, 1) := by decide +kernel
theorem dX3_isZero_4 : decode cX3_isZero 4 = .ok (.if_icmp .ge 17, 3) := by decide +kernel
theorem dX3_isZero_7 : decode cX3_isZero 7 = .ok (.aload_n 0, 1) := by decide +kernel
theorem dX3_isZero_8 : decode cX3_isZero 8 = .ok (.iload_n 3, 1) := by decide +kernel
theorem dX3_isZero_9 : decode cX3_isZero 9 = .ok (.iaload, 1) := by decide +kernel
theorem dX3_isZero_10 : decode cX3_isZero 10 = .ok (.ifCond .eq 5, 3) := by decide +kernel
theorem dX3_isZero_13 : decode cX3_isZero 13 = .ok (.iconst 0, 1) := by decide +kernel
theorem dX3_isZero_14 : decode cX3_isZero 14 = .ok (.ireturn, 1) := by decide +kernel
theorem dX3_isZero_15 : decode cX3_isZero 15 = .ok (.iinc 3 1, 3) := by decide +kernel
theorem dX3_isZero_18 : decode cX3_isZero 18 = .ok (.goto (-16), 3) := by decide +kernel
theorem dX3_isZero_21 : decode cX3_isZero 21 = .ok (.iconst 1, 1) := by decide +kernel
theorem dX3_isZero_22 : decode cX3_isZero 22 = .ok (.ireturn, 1) := by decide +kernel
theorem dX3_store_0 : decode cX3_store 0 = .ok (.iload_n 2, 1) := by decide +kernel
theorem dX3_store_1 : decode cX3_store 1 = .ok (.ifCond .eq 16, 3) := by decide +kernel
theorem dX3_store_4 : decode cX3_store 4 = .ok (.aload_n 0, 1) := by decide +kernel
theorem dX3_store_5 : decode cX3_store 5 = .ok (.getfield 46, 3) := by decide +kernel
theorem dX3_store_8 : decode cX3_store 8 = .ok (.invokevirtual 198, 3) := by decide +kernel
theorem dX3_store_11 : decode cX3_store 11 = .ok (.ifCond .eq 16, 3) := by decide +kernel
theorem dX3_store_14 : decode cX3_store 14 = .ok (.goto 16, 3) := by decide +kernel
theorem dX3_store_17 : decode cX3_store 17 = .ok (.aload_n 0, 1) := by decide +kernel
theorem dX3_store_18 : decode cX3_store 18 = .ok (.getfield 46, 3) := by decide +kernel
theorem dX3_store_21 : decode cX3_store 21 = .ok (.invokevirtual 202, 3) := by decide +kernel
theorem dX3_store_24 : decode cX3_store 24 = .ok (.ifCond .ne 6, 3) := by decide +kernel
theorem dX3_store_27 : decode cX3_store 27 = .ok (.bipush (-13), 2) := by decide +kernel
theorem dX3_store_29 : decode cX3_store 29 = .ok (.ireturn, 1) := by decide +kernel
theorem dX3_store_30 : decode cX3_store 30 = .ok (.aload_n 0, 1) := by decide +kernel
theorem dX3_store_31 : decode cX3_store 31 = .ok (.getfield 30, 3) := by decide +kernel
theorem dX3_store_34 : decode cX3_store 34 = .ok (.iload_n 1, 1) := by decide +kernel
theorem dX3_store_35 : decode cX3_store 35 = .ok (.aaload, 1) := by decide +kernel
theorem dX3_store_36 : decode cX3_store 36 = .ok (.aload_n 0, 1) := by decide +kernel
theorem dX3_store_37 : decode cX3_store 37 = .ok (.getfield 46, 3) := by decide +kernel
theorem dX3_store_40 : decode cX3_store 40 = .ok (.iload_n 2, 1) := by decide +kernel
theorem dX3_store_41 : decode cX3_store 41 = .ok (.iload_n 3, 1) := by decide +kernel
theorem dX3_store_42 : decode cX3_store 42 = .ok (.invokevirtual 138, 3) := by decide +kernel
theorem dX3_store_45 : decode cX3_store 45 = .ok (.iconst 0, 1) := by decide +kernel
theorem dX3_store_46 : decode cX3_store 46 = .ok (.ireturn, 1) := by decide +kernel
theorem dX3_asLong_0 : decode cX3_asLong 0 = .ok (.lconst 0, 1) := by decide +kernel
theorem dX3_asLong_1 : decode cX3_asLong 1 = .ok (.lstore_n 3, 1) := by decide +kernel
theorem dX3_asLong_2 : decode cX3_asLong 2 = .ok (.iload_n 1, 1) := by decide +kernel
theorem dX3_asLong_3 : decode cX3_asLong 3 = .ok (.iload_n 2, 1) := by decide +kernel
theorem dX3_asLong_4 : decode cX3_asLong 4 = .ok (.iadd, 1) := by decide +kernel
theorem dX3_asLong_5 : decode cX3_asLong 5 = .ok (.iconst 1, 1) := by decide +kernel
theorem dX3_asLong_6 : decode cX3_asLong 6 = .ok (.isub, 1) := by decide +kernel
theorem dX3_asLong_7 : decode cX3_asLong 7 = .ok (.istore 5, 2) := by decide +kernel
theorem dX3_asLong_9 : decode cX3_asLong 9 = .ok (.iload 5, 2) := by decide +kernel
theorem dX3_asLong_11 : decode cX3_asLong 11 = .ok (.iload_n 1, 1) := by decide +kernel
theorem dX3_asLong_12 : decode cX3_asLong 12 = .ok (.if_icmp .lt 21, 3) := by decide +kernel
theorem dX3_asLong_15 : decode cX3_asLong 15 = .ok (.lload_n 3, 1) := by decide +kernel
theorem dX3_asLong_16 : decode cX3_asLong 16 = .ok (.ldc2_w 232, 3) := by decide +kernel
theorem dX3_asLong_19 : decode cX3_asLong 19 = .ok (.lmul, 1) := by decide +kernel
theorem dX3_asLong_20 : decode cX3_asLong 20 = .ok (.aload_n 0, 1) := by decide +kernel
theorem dX3_asLong_21 : decode cX3_asLong 21 = .ok (.iload 5, 2) := by decide +kernel
theorem dX3_asLong_23 : decode cX3_asLong 23 = .ok (.iaload, 1) := by decide +kernel
theorem dX3_asLong_24 : decode cX3_asLong 24 = .ok (.i2l, 1) := by decide +kernel
theorem dX3_asLong_25 : decode cX3_asLong 25 = .ok (.ladd, 1) := by decide +kernel
theorem dX3_asLong_26 : decode cX3_asLong 26 = .ok (.lstore_n 3, 1) := by decide +kernel
theorem dX3_asLong_27 : decode cX3_asLong 27 = .ok (.iinc 5 (-1), 3) := by decide +kernel
theorem dX3_asLong_30 : decode cX3_asLong 30 = .ok (.goto (-21), 3) := by decide +kernel
theorem dX3_asLong_33 : decode cX3_asLong 33 = .ok (.lload_n 3, 1) := by decide +kernel
theorem dX3_asLong_34 : decode cX3_asLong 34 = .ok (.lreturn, 1) := by decide +kernel
theorem dX3_add_0 : decode cX3_add 0 = .ok (.aload_n 0, 1) := by decide +kernel
theorem dX3_add_1 : decode cX3_add 1 = .ok (.iload_n 1, 1) := by decide +kernel
theorem dX3_add_2 : decode cX3_add 2 = .ok (.iload_n 2, 1) := by decide +kernel
theorem dX3_add_3 : decode cX3_add 3 = .ok (.iload_n 3, 1) := by decide +kernel
theorem dX3_add_4 : decode cX3_add 4 = .ok (.iconst 0, 1) := by decide +kernel
theorem dX3_add_5 : decode cX3_add 5 = .ok (.invokevirtual 75, 3) := by decide +kernel
theorem dX3_add_8 : decode cX3_add 8 = .ok (.ireturn, 1) := by decide +kernel
theorem dX3_combine_0 : decode cX3_combine 0 = .ok (.iload_n 1, 1) := by decide +kernel
theorem dX3_combine_1 : decode cX3_combine 1 = .ok (.invokestatic 60, 3) := by decide +kernel
theorem dX3_combine_4 : decode cX3_combine 4 = .ok (.ifCond .eq 17, 3) := by decide +kernel
theorem dX3_combine_7 : decode cX3_combine 7 = .ok (.iload_n 2, 1) := by decide +kernel
theorem dX3_combine_8 : decode cX3_combine 8 = .ok (.invokestatic 60, 3) := by decide +kernel
theorem dX3_combine_11 : decode cX3_combine 11 = .ok (.ifCond .eq 10, 3) := by decide +kernel
theorem dX3_combine_14 : decode cX3_combine 14 = .ok (.iload_n 3, 1) := by decide +kernel
theorem dX3_combine_15 : decode cX3_combine 15 = .ok (.invokestatic 60, 3) := by decide +kernel
theorem dX3_combine_18 : decode cX3_combine 18 = .ok (.ifCond .ne 6, 3) := by decide +kernel
theorem dX3_combine_21 : decode cX3_combine 21 = .ok (.bipush (-15), 2) := by decide +kernel
theorem dX3_combine_23 : decode cX3_combine 23 = .ok (.ireturn, 1) := by decide +kernel
theorem dX3_combine_24 : decode cX3_combine 24 = .ok (.aload_n 0, 1) := by decide +kernel
theorem dX3_combine_25 : decode cX3_combine 25 = .ok (.getfield 30, 3) := by decide +kernel
theorem dX3_combine_28 : decode cX3_combine 28 = .ok (.iload_n 2, 1) := by decide +kernel
theorem dX3_combine_29 : decode cX3_combine 29 = .ok (.aaload, 1) := by decide +kernel
theorem dX3_combine_30 : decode cX3_combine 30 = .ok (.astore 5, 2) := by decide +kernel
theorem dX3_combine_32 : decode cX3_combine 32 = .ok (.aload_n 0, 1) := by decide +kernel
theorem dX3_combine_33 : decode cX3_combine 33 = .ok (.getfield 30, 3) := by decide +kernel
theorem dX3_combine_36 : decode cX3_combine 36 = .ok (.iload_n 3, 1) := by decide +kernel
theorem dX3_combine_37 : decode cX3_combine 37 = .ok (.aaload, 1) := by decide +kernel
theorem dX3_combine_38 : decode cX3_combine 38 = .ok (.astore 6, 2) := by decide +kernel
theorem dX3_combine_40 : decode cX3_combine 40 = .ok (.aload 5, 2) := by decide +kernel
theorem dX3_combine_42 : decode cX3_combine 42 = .ok (.getfield 79, 3) := by decide +kernel
theorem dX3_combine_45 : decode cX3_combine 45 = .ok (.ifCond .eq 11, 3) := by decide +kernel
theorem dX3_combine_48 : decode cX3_combine 48 = .ok (.aload 6, 2) := by decide +kernel
theorem dX3_combine_50 : decode cX3_combine 50 = .ok (.getfield 79, 3) := by decide +kernel
theorem dX3_combine_53 : decode cX3_combine 53 = .ok (.ifCond .ne 6, 3) := by decide +kernel
theorem dX3_combine_56 : decode cX3_combine 56 = .ok (.bipush (-11), 2) := by decide +kernel
theorem dX3_combine_58 : decode cX3_combine 58 = .ok (.ireturn, 1) := by decide +kernel
theorem dX3_combine_59 : decode cX3_combine 59 = .ok (.aload 5, 2) := by decide +kernel
theorem dX3_combine_61 : decode cX3_combine 61 = .ok (.aload 6, 2) := by decide +kernel
theorem dX3_combine_63 : decode cX3_combine 63 = .ok (.invokevirtual 142, 3) := by decide +kernel
theorem dX3_combine_66 : decode cX3_combine 66 = .ok (.ifCond .ne 6, 3) := by decide +kernel
theorem dX3_combine_69 : decode cX3_combine 69 = .ok (.bipush (-12), 2) := by decide +kernel
theorem dX3_combine_71 : decode cX3_combine 71 = .ok (.ireturn, 1) := by decide +kernel
theorem dX3_combine_72 : decode cX3_combine 72 = .ok (.aload 6, 2) := by decide +kernel
theorem dX3_combine_74 : decode cX3_combine 74 = .ok (.getfield 86, 3) := by decide +kernel
theorem dX3_combine_77 : decode cX3_combine 77 = .ok (.iload 4, 2) := by decide +kernel
theorem dX3_combine_79 : decode cX3_combine 79 = .ok (.if_icmp .eq 7, 3) := by decide +kernel
theorem dX3_combine_82 : decode cX3_combine 82 = .ok (.iconst 1, 1) := by decide +kernel
theorem dX3_combine_83 : decode cX3_combine 83 = .ok (.goto 4, 3) := by decide +kernel
theorem dX3_combine_86 : decode cX3_combine 86 = .ok (.iconst 0, 1) := by decide +kernel
theorem dX3_combine_87 : decode cX3_combine 87 = .ok (.istore 7, 2) := by decide +kernel
theorem dX3_combine_89 : decode cX3_combine 89 = .ok (.aload 5, 2) := by decide +kernel
theorem dX3_combine_91 : decode cX3_combine 91 = .ok (.getfield 86, 3) := by decide +kernel
theorem dX3_combine_94 : decode cX3_combine 94 = .ok (.iload 7, 2) := by decide +kernel
theorem dX3_combine_96 : decode cX3_combine 96 = .ok (.if_icmp .ne 40, 3) := by decide +kernel
theorem dX3_combine_99 : decode cX3_combine 99 = .ok (.aload_n 0, 1) := by decide +kernel
theorem dX3_combine_100 : decode cX3_combine 100 = .ok (.getfield 46, 3) := by decide +kernel
theorem dX3_combine_103 : decode cX3_combine 103 = .ok (.aload 5, 2) := by decide +kernel
theorem dX3_combine_105 : decode cX3_combine 105 = .ok (.getfield 83, 3) := by decide +kernel
theorem dX3_combine_108 : decode cX3_combine 108 = .ok (.bipush 10, 2) := by decide +kernel
theorem dX3_combine_110 : decode cX3_combine 110 = .ok (.aload 5, 2) := by decide +kernel
theorem dX3_combine_112 : decode cX3_combine 112 = .ok (.getfield 86, 3) := by decide +kernel
theorem dX3_combine_115 : decode cX3_combine 115 = .ok (.invokevirtual 89, 3) := by decide +kernel
theorem dX3_combine_118 : decode cX3_combine 118 = .ok (.aload_n 0, 1) := by decide +kernel
theorem dX3_combine_119 : decode cX3_combine 119 = .ok (.getfield 46, 3) := by decide +kernel
theorem dX3_combine_122 : decode cX3_combine 122 = .ok (.aload 6, 2) := by decide +kernel
theorem dX3_combine_124 : decode cX3_combine 124 = .ok (.getfield 83, 3) := by decide +kernel
theorem dX3_combine_127 : decode cX3_combine 127 = .ok (.bipush 10, 2) := by decide +kernel
theorem dX3_combine_129 : decode cX3_combine 129 = .ok (.iconst 1, 1) := by decide +kernel
theorem dX3_combine_130 : decode cX3_combine 130 = .ok (.invokevirtual 191, 3) := by decide +kernel
theorem dX3_combine_133 : decode cX3_combine 133 = .ok (.goto 87, 3) := by decide +kernel
theorem dX3_combine_136 : decode cX3_combine 136 = .ok (.aload 5, 2) := by decide +kernel
theorem dX3_combine_138 : decode cX3_combine 138 = .ok (.getfield 83, 3) := by decide +kernel
theorem dX3_combine_141 : decode cX3_combine 141 = .ok (.aload 6, 2) := by decide +kernel
theorem dX3_combine_143 : decode cX3_combine 143 = .ok (.getfield 83, 3) := by decide +kernel
theorem dX3_combine_146 : decode cX3_combine 146 = .ok (.invokestatic 146, 3) := by decide +kernel
theorem dX3_combine_149 : decode cX3_combine 149 = .ok (.ifCond .lt 40, 3) := by decide +kernel
theorem dX3_combine_152 : decode cX3_combine 152 = .ok (.aload_n 0, 1) := by decide +kernel
theorem dX3_combine_153 : decode cX3_combine 153 = .ok (.getfield 46, 3) := by decide +kernel
theorem dX3_combine_156 : decode cX3_combine 156 = .ok (.aload 5, 2) := by decide +kernel
theorem dX3_combine_158 : decode cX3_combine 158 = .ok (.getfield 83, 3) := by decide +kernel
theorem dX3_combine_161 : decode cX3_combine 161 = .ok (.bipush 10, 2) := by decide +kernel
theorem dX3_combine_163 : decode cX3_combine 163 = .ok (.aload 5, 2) := by decide +kernel
theorem dX3_combine_165 : decode cX3_combine 165 = .ok (.getfield 86, 3) := by decide +kernel
theorem dX3_combine_168 : decode cX3_combine 168 = .ok (.invokevirtual 89, 3) := by decide +kernel
theorem dX3_combine_171 : decode cX3_combine 171 = .ok (.aload_n 0, 1) := by decide +kernel
theorem dX3_combine_172 : decode cX3_combine 172 = .ok (.getfield 46, 3) := by decide +kernel
theorem dX3_combine_175 : decode cX3_combine 175 = .ok (.aload 6, 2) := by decide +kernel
theorem dX3_combine_177 : decode cX3_combine 177 = .ok (.getfield 83, 3) := by decide +kernel
theorem dX3_combine_180 : decode cX3_combine 180 = .ok (.bipush 10, 2) := by decide +kernel
theorem dX3_combine_182 : decode cX3_combine 182 = .ok (.iconst (-1), 1) := by decide +kernel
theorem dX3_combine_183 : decode cX3_combine 183 = .ok (.invokevirtual 191, 3) := by decide +kernel
theorem dX3_combine_186 : decode cX3_combine 186 = .ok (.goto 34, 3) := by decide +kernel
theorem dX3_combine_189 : decode cX3_combine 189 = .ok (.aload_n 0, 1) := by decide +kernel
theorem dX3_combine_190 : decode cX3_combine 190 = .ok (.getfield 46, 3) := by decide +kernel
theorem dX3_combine_193 : decode cX3_combine 193 = .ok (.aload 6, 2) := by decide +kernel
theorem dX3_combine_195 : decode cX3_combine 195 = .ok (.getfield 83, 3) := by decide +kernel
theorem dX3_combine_198 : decode cX3_combine 198 = .ok (.bipush 10, 2) := by decide +kernel
theorem dX3_combine_200 : decode cX3_combine 200 = .ok (.iload 7, 2) := by decide +kernel
theorem dX3_combine_202 : decode cX3_combine 202 = .ok (.invokevirtual 89, 3) := by decide +kernel
theorem dX3_combine_205 : decode cX3_combine 205 = .ok (.aload_n 0, 1) := by decide +kernel
theorem dX3_combine_206 : decode cX3_combine 206 = .ok (.getfield 46, 3) := by decide +kernel
theorem dX3_combine_209 : decode cX3_combine 209 = .ok (.aload 5, 2) := by decide +kernel
theorem dX3_combine_211 : decode cX3_combine 211 = .ok (.getfield 83, 3) := by decide +kernel
theorem dX3_combine_214 : decode cX3_combine 214 = .ok (.bipush 10, 2) := by decide +kernel
theorem dX3_combine_216 : decode cX3_combine 216 = .ok (.iconst (-1), 1) := by decide +kernel
theorem dX3_combine_217 : decode cX3_combine 217 = .ok (.invokevirtual 191, 3) := by decide +kernel
theorem dX3_combine_220 : decode cX3_combine 220 = .ok (.aload_n 0, 1) := by decide +kernel
theorem dX3_combine_221 : decode cX3_combine 221 = .ok (.iload_n 1, 1) := by decide +kernel
theorem dX3_combine_222 : decode cX3_combine 222 = .ok (.aload 5, 2) := by decide +kernel
theorem dX3_combine_224 : decode cX3_combine 224 = .ok (.getfield 97, 3) := by decide +kernel
theorem dX3_combine_227 : decode cX3_combine 227 = .ok (.aload 5, 2) := by decide +kernel
theorem dX3_combine_229 : decode cX3_combine 229 = .ok (.getfield 100, 3) := by decide +kernel
theorem dX3_combine_232 : decode cX3_combine 232 = .ok (.invokevirtual 71, 3) := by decide +kernel
theorem dX3_combine_235 : decode cX3_combine 235 = .ok (.ireturn, 1) := by decide +kernel
theorem dX3_compareRows_0 : decode cX3_compareRows 0 = .ok (.bipush 35, 2) := by decide +kernel
theorem dX3_compareRows_2 : decode cX3_compareRows 2 = .ok (.istore_n 2, 1) := by decide +kernel
theorem dX3_compareRows_3 : decode cX3_compareRows 3 = .ok (.iload_n 2, 1) := by decide +kernel
theorem dX3_compareRows_4 : decode cX3_compareRows 4 = .ok (.ifCond .lt 33, 3) := by decide +kernel
theorem dX3_compareRows_7 : decode cX3_compareRows 7 = .ok (.aload_n 0, 1) := by decide +kernel
theorem dX3_compareRows_8 : decode cX3_compareRows 8 = .ok (.iload_n 2, 1) := by decide +kernel
theorem dX3_compareRows_9 : decode cX3_compareRows 9 = .ok (.iaload, 1) := by decide +kernel
theorem dX3_compareRows_10 : decode cX3_compareRows 10 = .ok (.aload_n 1, 1) := by decide +kernel
theorem dX3_compareRows_11 : decode cX3_compareRows 11 = .ok (.iload_n 2, 1) := by decide +kernel
theorem dX3_compareRows_12 : decode cX3_compareRows 12 = .ok (.iaload, 1) := by decide +kernel
theorem dX3_compareRows_13 : decode cX3_compareRows 13 = .ok (.if_icmp .eq 18, 3) := by decide +kernel
theorem dX3_compareRows_16 : decode cX3_compareRows 16 = .ok (.aload_n 0, 1) := by decide +kernel
theorem dX3_compareRows_17 : decode cX3_compareRows 17 = .ok (.iload_n 2, 1) := by decide +kernel
theorem dX3_compareRows_18 : decode cX3_compareRows 18 = .ok (.iaload, 1) := by decide +kernel
theorem dX3_compareRows_19 : decode cX3_compareRows 19 = .ok (.aload_n 1, 1) := by decide +kernel
theorem dX3_compareRows_20 : decode cX3_compareRows 20 = .ok (.iload_n 2, 1) := by decide +kernel
theorem dX3_compareRows_21 : decode cX3_compareRows 21 = .ok (.iaload, 1) := by decide +kernel
theorem dX3_compareRows_22 : decode cX3_compareRows 22 = .ok (.if_icmp .ge 7, 3) := by decide +kernel
theorem dX3_compareRows_25 : decode cX3_compareRows 25 = .ok (.iconst (-1), 1) := by decide +kernel
theorem dX3_compareRows_26 : decode cX3_compareRows 26 = .ok (.goto 4, 3) := by decide +kernel
theorem dX3_compareRows_29 : decode cX3_compareRows 29 = .ok (.iconst 1, 1) := by decide +kernel
theorem dX3_compareRows_30 : decode cX3_compareRows 30 = .ok (.ireturn, 1) := by decide +kernel
theorem dX3_compareRows_31 : decode cX3_compareRows 31 = .ok (.iinc 2 (-1), 3) := by decide +kernel
theorem dX3_compareRows_34 : decode cX3_compareRows 34 = .ok (.goto (-31), 3) := by decide +kernel
theorem dX3_compareRows_37 : decode cX3_compareRows 37 = .ok (.iconst 0, 1) := by decide +kernel
theorem dX3_compareRows_38 : decode cX3_compareRows 38 = .ok (.ireturn, 1) := by decide +kernel
theorem dX3_subtract_0 : decode cX3_subtract 0 = .ok (.aload_n 0, 1) := by decide +kernel
theorem dX3_subtract_1 : decode cX3_subtract 1 = .ok (.iload_n 1, 1) := by decide +kernel
theorem dX3_subtract_2 : decode cX3_subtract 2 = .ok (.iload_n 2, 1) := by decide +kernel
theorem dX3_subtract_3 : decode cX3_subtract 3 = .ok (.iload_n 3, 1) := by decide +kernel
theorem dX3_subtract_4 : decode cX3_subtract 4 = .ok (.iconst 1, 1) := by decide +kernel
theorem dX3_subtract_5 : decode cX3_subtract 5 = .ok (.invokevirtual 75, 3) := by decide +kernel
theorem dX3_subtract_8 : decode cX3_subtract 8 = .ok (.ireturn, 1) := by decide +kernel
theorem dX3_multiply_0 : decode cX3_multiply 0 = .ok (.iload_n 1, 1) := by decide +kernel
theorem dX3_multiply_1 : decode cX3_multiply 1 = .ok (.invokestatic 60, 3) := by decide +kernel
theorem dX3_multiply_4 : decode cX3_multiply 4 = .ok (.ifCond .eq 18, 3) := by decide +kernel
theorem dX3_multiply_7 : decode cX3_multiply 7 = .ok (.iload_n 2, 1) := by decide +kernel
theorem dX3_multiply_8 : decode cX3_multiply 8 = .ok (.invokestatic 60, 3) := by decide +kernel
theorem dX3_multiply_11 : decode cX3_multiply 11 = .ok (.ifCond .eq 11, 3) := by decide +kernel
theorem dX3_multiply_14 : decode cX3_multiply 14 = .ok (.iload 5, 2) := by decide +kernel
theorem dX3_multiply_16 : decode cX3_multiply 16 = .ok (.invokestatic 64, 3) := by decide +kernel
theorem dX3_multiply_19 : decode cX3_multiply 19 = .ok (.ifCond .ne 6, 3) := by decide +kernel
theorem dX3_multiply_22 : decode cX3_multiply 22 = .ok (.bipush (-15), 2) := by decide +kernel
theorem dX3_multiply_24 : decode cX3_multiply 24 = .ok (.ireturn, 1) := by decide +kernel
theorem dX3_multiply_25 : decode cX3_multiply 25 = .ok (.aload_n 0, 1) := by decide +kernel
theorem dX3_multiply_26 : decode cX3_multiply 26 = .ok (.getfield 30, 3) := by decide +kernel
theorem dX3_multiply_29 : decode cX3_multiply 29 = .ok (.iload_n 2, 1) := by decide +kernel
theorem dX3_multiply_30 : decode cX3_multiply 30 = .ok (.aaload, 1) := by decide +kernel
theorem dX3_multiply_31 : decode cX3_multiply 31 = .ok (.astore 6, 2) := by decide +kernel
theorem dX3_multiply_33 : decode cX3_multiply 33 = .ok (.aload 6, 2) := by decide +kernel
theorem dX3_multiply_35 : decode cX3_multiply 35 = .ok (.getfield 79, 3) := by decide +kernel
theorem dX3_multiply_38 : decode cX3_multiply 38 = .ok (.ifCond .ne 6, 3) := by decide +kernel
theorem dX3_multiply_41 : decode cX3_multiply 41 = .ok (.bipush (-11), 2) := by decide +kernel
theorem dX3_multiply_43 : decode cX3_multiply 43 = .ok (.ireturn, 1) := by decide +kernel
theorem dX3_multiply_44 : decode cX3_multiply 44 = .ok (.aload_n 0, 1) := by decide +kernel
theorem dX3_multiply_45 : decode cX3_multiply 45 = .ok (.getfield 46, 3) := by decide +kernel
theorem dX3_multiply_48 : decode cX3_multiply 48 = .ok (.aload 6, 2) := by decide +kernel
theorem dX3_multiply_50 : decode cX3_multiply 50 = .ok (.getfield 83, 3) := by decide +kernel
theorem dX3_multiply_53 : decode cX3_multiply 53 = .ok (.bipush 10, 2) := by decide +kernel
theorem dX3_multiply_55 : decode cX3_multiply 55 = .ok (.iload 5, 2) := by decide +kernel
theorem dX3_multiply_57 : decode cX3_multiply 57 = .ok (.isub, 1) := by decide +kernel
theorem dX3_multiply_58 : decode cX3_multiply 58 = .ok (.aload 6, 2) := by decide +kernel
theorem dX3_multiply_60 : decode cX3_multiply 60 = .ok (.getfield 86, 3) := by decide +kernel
theorem dX3_multiply_63 : decode cX3_multiply 63 = .ok (.invokevirtual 89, 3) := by decide +kernel
theorem dX3_multiply_66 : decode cX3_multiply 66 = .ok (.aload_n 0, 1) := by decide +kernel
theorem dX3_multiply_67 : decode cX3_multiply 67 = .ok (.getfield 46, 3) := by decide +kernel
theorem dX3_multiply_70 : decode cX3_multiply 70 = .ok (.lload_n 3, 1) := by decide +kernel
theorem dX3_multiply_71 : decode cX3_multiply 71 = .ok (.invokevirtual 93, 3) := by decide +kernel
theorem dX3_multiply_74 : decode cX3_multiply 74 = .ok (.aload_n 0, 1) := by decide +kernel
theorem dX3_multiply_75 : decode cX3_multiply 75 = .ok (.iload_n 1, 1) := by decide +kernel
theorem dX3_multiply_76 : decode cX3_multiply 76 = .ok (.aload 6, 2) := by decide +kernel
theorem dX3_multiply_78 : decode cX3_multiply 78 = .ok (.getfield 97, 3) := by decide +kernel
theorem dX3_multiply_81 : decode cX3_multiply 81 = .ok (.aload 6, 2) := by decide +kernel
theorem dX3_multiply_83 : decode cX3_multiply 83 = .ok (.getfield 100, 3) := by decide +kernel
theorem dX3_multiply_86 : decode cX3_multiply 86 = .ok (.invokevirtual 71, 3) := by decide +kernel
theorem dX3_multiply_89 : decode cX3_multiply 89 = .ok (.ireturn, 1) := by decide +kernel
theorem dX3_divide_0 : decode cX3_divide 0 = .ok (.iload_n 1, 1) := by decide +kernel
theorem dX3_divide_1 : decode cX3_divide 1 = .ok (.invokestatic 60, 3) := by decide +kernel
theorem dX3_divide_4 : decode cX3_divide 4 = .ok (.ifCond .eq 18, 3) := by decide +kernel
theorem dX3_divide_7 : decode cX3_divide 7 = .ok (.iload_n 2, 1) := by decide +kernel
theorem dX3_divide_8 : decode cX3_divide 8 = .ok (.invokestatic 60, 3) := by decide +kernel
theorem dX3_divide_11 : decode cX3_divide 11 = .ok (.ifCond .eq 11, 3) := by decide +kernel
theorem dX3_divide_14 : decode cX3_divide 14 = .ok (.iload 5, 2) := by decide +kernel
theorem dX3_divide_16 : decode cX3_divide 16 = .ok (.invokestatic 64, 3) := by decide +kernel
theorem dX3_divide_19 : decode cX3_divide 19 = .ok (.ifCond .ne 6, 3) := by decide +kernel
theorem dX3_divide_22 : decode cX3_divide 22 = .ok (.bipush (-15), 2) := by decide +kernel
theorem dX3_divide_24 : decode cX3_divide 24 = .ok (.ireturn, 1) := by decide +kernel
theorem dX3_divide_25 : decode cX3_divide 25 = .ok (.aload_n 0, 1) := by decide +kernel
theorem dX3_divide_26 : decode cX3_divide 26 = .ok (.getfield 30, 3) := by decide +kernel
theorem dX3_divide_29 : decode cX3_divide 29 = .ok (.iload_n 2, 1) := by decide +kernel
theorem dX3_divide_30 : decode cX3_divide 30 = .ok (.aaload, 1) := by decide +kernel
theorem dX3_divide_31 : decode cX3_divide 31 = .ok (.astore 6, 2) := by decide +kernel
theorem dX3_divide_33 : decode cX3_divide 33 = .ok (.aload 6, 2) := by decide +kernel
theorem dX3_divide_35 : decode cX3_divide 35 = .ok (.getfield 79, 3) := by decide +kernel
theorem dX3_divide_38 : decode cX3_divide 38 = .ok (.ifCond .ne 6, 3) := by decide +kernel
theorem dX3_divide_41 : decode cX3_divide 41 = .ok (.bipush (-11), 2) := by decide +kernel
theorem dX3_divide_43 : decode cX3_divide 43 = .ok (.ireturn, 1) := by decide +kernel
theorem dX3_divide_44 : decode cX3_divide 44 = .ok (.lload_n 3, 1) := by decide +kernel
theorem dX3_divide_45 : decode cX3_divide 45 = .ok (.lconst 0, 1) := by decide +kernel
theorem dX3_divide_46 : decode cX3_divide 46 = .ok (.lcmp, 1) := by decide +kernel
theorem dX3_divide_47 : decode cX3_divide 47 = .ok (.ifCond .ne 6, 3) := by decide +kernel
theorem dX3_divide_50 : decode cX3_divide 50 = .ok (.bipush (-14), 2) := by decide +kernel
theorem dX3_divide_52 : decode cX3_divide 52 = .ok (.ireturn, 1) := by decide +kernel
theorem dX3_divide_53 : decode cX3_divide 53 = .ok (.aload_n 0, 1) := by decide +kernel
theorem dX3_divide_54 : decode cX3_divide 54 = .ok (.getfield 46, 3) := by decide +kernel
theorem dX3_divide_57 : decode cX3_divide 57 = .ok (.aload 6, 2) := by decide +kernel
theorem dX3_divide_59 : decode cX3_divide 59 = .ok (.getfield 83, 3) := by decide +kernel
theorem dX3_divide_62 : decode cX3_divide 62 = .ok (.bipush 10, 2) := by decide +kernel
theorem dX3_divide_64 : decode cX3_divide 64 = .ok (.iload 5, 2) := by decide +kernel
theorem dX3_divide_66 : decode cX3_divide 66 = .ok (.iadd, 1) := by decide +kernel
theorem dX3_divide_67 : decode cX3_divide 67 = .ok (.aload 6, 2) := by decide +kernel
theorem dX3_divide_69 : decode cX3_divide 69 = .ok (.getfield 86, 3) := by decide +kernel
theorem dX3_divide_72 : decode cX3_divide 72 = .ok (.invokevirtual 89, 3) := by decide +kernel
theorem dX3_divide_75 : decode cX3_divide 75 = .ok (.aload_n 0, 1) := by decide +kernel
theorem dX3_divide_76 : decode cX3_divide 76 = .ok (.getfield 46, 3) := by decide +kernel
theorem dX3_divide_79 : decode cX3_divide 79 = .ok (.lload_n 3, 1) := by decide +kernel
theorem dX3_divide_80 : decode cX3_divide 80 = .ok (.iconst 0, 1) := by decide +kernel
theorem dX3_divide_81 : decode cX3_divide 81 = .ok (.invokevirtual 103, 3) := by decide +kernel
theorem dX3_divide_84 : decode cX3_divide 84 = .ok (.pop2, 1) := by decide +kernel
theorem dX3_divide_85 : decode cX3_divide 85 = .ok (.aload_n 0, 1) := by decide +kernel
theorem dX3_divide_86 : decode cX3_divide 86 = .ok (.iload_n 1, 1) := by decide +kernel
theorem dX3_divide_87 : decode cX3_divide 87 = .ok (.aload 6, 2) := by decide +kernel
theorem dX3_divide_89 : decode cX3_divide 89 = .ok (.getfield 97, 3) := by decide +kernel
theorem dX3_divide_92 : decode cX3_divide 92 = .ok (.aload 6, 2) := by decide +kernel
theorem dX3_divide_94 : decode cX3_divide 94 = .ok (.getfield 100, 3) := by decide +kernel
theorem dX3_divide_97 : decode cX3_divide 97 = .ok (.invokevirtual 71, 3) := by decide +kernel
theorem dX3_divide_100 : decode cX3_divide 100 = .ok (.ireturn, 1) := by decide +kernel
theorem dX3_negate_0 : decode cX3_negate 0 = .ok (.iload_n 1, 1) := by decide +kernel
theorem dX3_negate_1 : decode cX3_negate 1 = .ok (.invokestatic 60, 3) := by decide +kernel
theorem dX3_negate_4 : decode cX3_negate 4 = .ok (.ifCond .eq 10, 3) := by decide +kernel
theorem dX3_negate_7 : decode cX3_negate 7 = .ok (.iload_n 2, 1) := by decide +kernel
theorem dX3_negate_8 : decode cX3_negate 8 = .ok (.invokestatic 60, 3) := by decide +kernel
theorem dX3_negate_11 : decode cX3_negate 11 = .ok (.ifCond .ne 6, 3) := by decide +kernel
theorem dX3_negate_14 : decode cX3_negate 14 = .ok (.bipush (-15), 2) := by decide +kernel
theorem dX3_negate_16 : decode cX3_negate 16 = .ok (.ireturn, 1) := by decide +kernel
theorem dX3_negate_17 : decode cX3_negate 17 = .ok (.aload_n 0, 1) := by decide +kernel
theorem dX3_negate_18 : decode cX3_negate 18 = .ok (.getfield 30, 3) := by decide +kernel
theorem dX3_negate_21 : decode cX3_negate 21 = .ok (.iload_n 2, 1) := by decide +kernel
theorem dX3_negate_22 : decode cX3_negate 22 = .ok (.aaload, 1) := by decide +kernel
theorem dX3_negate_23 : decode cX3_negate 23 = .ok (.astore_n 3, 1) := by decide +kernel
theorem dX3_negate_24 : decode cX3_negate 24 = .ok (.aload_n 3, 1) := by decide +kernel
theorem dX3_negate_25 : decode cX3_negate 25 = .ok (.getfield 79, 3) := by decide +kernel
theorem dX3_negate_28 : decode cX3_negate 28 = .ok (.ifCond .ne 6, 3) := by decide +kernel
theorem dX3_negate_31 : decode cX3_negate 31 = .ok (.bipush (-11), 2) := by decide +kernel
theorem dX3_negate_33 : decode cX3_negate 33 = .ok (.ireturn, 1) := by decide +kernel
theorem dX3_negate_34 : decode cX3_negate 34 = .ok (.aload_n 0, 1) := by decide +kernel
theorem dX3_negate_35 : decode cX3_negate 35 = .ok (.getfield 46, 3) := by decide +kernel
theorem dX3_negate_38 : decode cX3_negate 38 = .ok (.aload_n 3, 1) := by decide +kernel
theorem dX3_negate_39 : decode cX3_negate 39 = .ok (.getfield 83, 3) := by decide +kernel
theorem dX3_negate_42 : decode cX3_negate 42 = .ok (.bipush 10, 2) := by decide +kernel
theorem dX3_negate_44 : decode cX3_negate 44 = .ok (.aload_n 3, 1) := by decide +kernel
theorem dX3_negate_45 : decode cX3_negate 45 = .ok (.getfield 86, 3) := by decide +kernel
theorem dX3_negate_48 : decode cX3_negate 48 = .ok (.ifCond .ne 7, 3) := by decide +kernel
theorem dX3_negate_51 : decode cX3_negate 51 = .ok (.iconst 1, 1) := by decide +kernel
theorem dX3_negate_52 : decode cX3_negate 52 = .ok (.goto 4, 3) := by decide +kernel
theorem dX3_negate_55 : decode cX3_negate 55 = .ok (.iconst 0, 1) := by decide +kernel
theorem dX3_negate_56 : decode cX3_negate 56 = .ok (.invokevirtual 89, 3) := by decide +kernel
theorem dX3_negate_59 : decode cX3_negate 59 = .ok (.aload_n 0, 1) := by decide +kernel
theorem dX3_negate_60 : decode cX3_negate 60 = .ok (.iload_n 1, 1) := by decide +kernel
theorem dX3_negate_61 : decode cX3_negate 61 = .ok (.aload_n 3, 1) := by decide +kernel
theorem dX3_negate_62 : decode cX3_negate 62 = .ok (.getfield 97, 3) := by decide +kernel
theorem dX3_negate_65 : decode cX3_negate 65 = .ok (.aload_n 3, 1) := by decide +kernel
theorem dX3_negate_66 : decode cX3_negate 66 = .ok (.getfield 100, 3) := by decide +kernel
theorem dX3_negate_69 : decode cX3_negate 69 = .ok (.invokevirtual 107, 3) := by decide +kernel
theorem dX3_negate_72 : decode cX3_negate 72 = .ok (.ireturn, 1) := by decide +kernel
theorem dX3_round_0 : decode cX3_round 0 = .ok (.iload_n 1, 1) := by decide +kernel
theorem dX3_round_1 : decode cX3_round 1 = .ok (.invokestatic 60, 3) := by decide +kernel
theorem dX3_round_4 : decode cX3_round 4 = .ok (.ifCond .eq 20, 3) := by decide +kernel
theorem dX3_round_7 : decode cX3_round 7 = .ok (.iload_n 2, 1) := by decide +kernel
theorem dX3_round_8 : decode cX3_round 8 = .ok (.invokestatic 60, 3) := by decide +kernel
theorem dX3_round_11 : decode cX3_round 11 = .ok (.ifCond .eq 13, 3) := by decide +kernel
theorem dX3_round_14 : decode cX3_round 14 = .ok (.iload_n 3, 1) := by decide +kernel
theorem dX3_round_15 : decode cX3_round 15 = .ok (.ifCond .lt 9, 3) := by decide +kernel
theorem dX3_round_18 : decode cX3_round 18 = .ok (.iload_n 3, 1) := by decide +kernel
theorem dX3_round_19 : decode cX3_round 19 = .ok (.bipush 8, 2) := by decide +kernel
theorem dX3_round_21 : decode cX3_round 21 = .ok (.if_icmp .lt 6, 3) := by decide +kernel
theorem dX3_round_24 : decode cX3_round 24 = .ok (.bipush (-15), 2) := by decide +kernel
theorem dX3_round_26 : decode cX3_round 26 = .ok (.ireturn, 1) := by decide +kernel
theorem dX3_round_27 : decode cX3_round 27 = .ok (.aload_n 0, 1) := by decide +kernel
theorem dX3_round_28 : decode cX3_round 28 = .ok (.getfield 30, 3) := by decide +kernel
theorem dX3_round_31 : decode cX3_round 31 = .ok (.iload_n 2, 1) := by decide +kernel
theorem dX3_round_32 : decode cX3_round 32 = .ok (.aaload, 1) := by decide +kernel
theorem dX3_round_33 : decode cX3_round 33 = .ok (.astore 5, 2) := by decide +kernel
theorem dX3_round_35 : decode cX3_round 35 = .ok (.aload 5, 2) := by decide +kernel
theorem dX3_round_37 : decode cX3_round 37 = .ok (.getfield 79, 3) := by decide +kernel
theorem dX3_round_40 : decode cX3_round 40 = .ok (.ifCond .ne 6, 3) := by decide +kernel
theorem dX3_round_43 : decode cX3_round 43 = .ok (.bipush (-11), 2) := by decide +kernel
theorem dX3_round_45 : decode cX3_round 45 = .ok (.ireturn, 1) := by decide +kernel
theorem dX3_round_46 : decode cX3_round 46 = .ok (.iload 4, 2) := by decide +kernel
theorem dX3_round_48 : decode cX3_round 48 = .ok (.ifCond .eq 15, 3) := by decide +kernel
theorem dX3_round_51 : decode cX3_round 51 = .ok (.getstatic 110, 3) := by decide +kernel
theorem dX3_round_54 : decode cX3_round 54 = .ok (.aload 5, 2) := by decide +kernel
theorem dX3_round_56 : decode cX3_round 56 = .ok (.getfield 100, 3) := by decide +kernel
theorem dX3_round_59 : decode cX3_round 59 = .ok (.iaload, 1) := by decide +kernel
theorem dX3_round_60 : decode cX3_round 60 = .ok (.goto 4, 3) := by decide +kernel
theorem dX3_round_63 : decode cX3_round 63 = .ok (.iconst 1, 1) := by decide +kernel
theorem dX3_round_64 : decode cX3_round 64 = .ok (.istore 6, 2) := by decide +kernel
theorem dX3_round_66 : decode cX3_round 66 = .ok (.aload_n 0, 1) := by decide +kernel
theorem dX3_round_67 : decode cX3_round 67 = .ok (.getfield 46, 3) := by decide +kernel
theorem dX3_round_70 : decode cX3_round 70 = .ok (.aload 5, 2) := by decide +kernel
theorem dX3_round_72 : decode cX3_round 72 = .ok (.getfield 83, 3) := by decide +kernel
theorem dX3_round_75 : decode cX3_round 75 = .ok (.bipush 10, 2) := by decide +kernel
theorem dX3_round_77 : decode cX3_round 77 = .ok (.aload 5, 2) := by decide +kernel
theorem dX3_round_79 : decode cX3_round 79 = .ok (.getfield 86, 3) := by decide +kernel
theorem dX3_round_82 : decode cX3_round 82 = .ok (.invokevirtual 89, 3) := by decide +kernel
theorem dX3_round_85 : decode cX3_round 85 = .ok (.aload_n 0, 1) := by decide +kernel
theorem dX3_round_86 : decode cX3_round 86 = .ok (.getfield 46, 3) := by decide +kernel
theorem dX3_round_89 : decode cX3_round 89 = .ok (.aload 5, 2) := by decide +kernel
theorem dX3_round_91 : decode cX3_round 91 = .ok (.getfield 100, 3) := by decide +kernel
theorem dX3_round_94 : decode cX3_round 94 = .ok (.invokestatic 113, 3) := by decide +kernel
theorem dX3_round_97 : decode cX3_round 97 = .ok (.iload 6, 2) := by decide +kernel
theorem dX3_round_99 : decode cX3_round 99 = .ok (.iload_n 3, 1) := by decide +kernel
theorem dX3_round_100 : decode cX3_round 100 = .ok (.invokevirtual 117, 3) := by decide +kernel
theorem dX3_round_103 : decode cX3_round 103 = .ok (.ifCond .ne 6, 3) := by decide +kernel
theorem dX3_round_106 : decode cX3_round 106 = .ok (.bipush (-16), 2) := by decide +kernel
theorem dX3_round_108 : decode cX3_round 108 = .ok (.ireturn, 1) := by decide +kernel
theorem dX3_round_109 : decode cX3_round 109 = .ok (.aload_n 0, 1) := by decide +kernel
theorem dX3_round_110 : decode cX3_round 110 = .ok (.iload_n 1, 1) := by decide +kernel
theorem dX3_round_111 : decode cX3_round 111 = .ok (.aload 5, 2) := by decide +kernel
theorem dX3_round_113 : decode cX3_round 113 = .ok (.getfield 97, 3) := by decide +kernel
theorem dX3_round_116 : decode cX3_round 116 = .ok (.aload 5, 2) := by decide +kernel
theorem dX3_round_118 : decode cX3_round 118 = .ok (.getfield 100, 3) := by decide +kernel
theorem dX3_round_121 : decode cX3_round 121 = .ok (.invokevirtual 107, 3) := by decide +kernel
theorem dX3_round_124 : decode cX3_round 124 = .ok (.ireturn, 1) := by decide +kernel
theorem dX3_unitPlace_0 : decode cX3_unitPlace 0 = .ok (.bipush 20, 2) := by decide +kernel
theorem dX3_unitPlace_2 : decode cX3_unitPlace 2 = .ok (.getstatic 188, 3) := by decide +kernel
theorem dX3_unitPlace_5 : decode cX3_unitPlace 5 = .ok (.iload_n 0, 1) := by decide +kernel
theorem dX3_unitPlace_6 : decode cX3_unitPlace 6 = .ok (.iaload, 1) := by decide +kernel
theorem dX3_unitPlace_7 : decode cX3_unitPlace 7 = .ok (.isub, 1) := by decide +kernel
theorem dX3_unitPlace_8 : decode cX3_unitPlace 8 = .ok (.ireturn, 1) := by decide +kernel
theorem dX3_ratio_0 : decode cX3_ratio 0 = .ok (.iload_n 1, 1) := by decide +kernel
theorem dX3_ratio_1 : decode cX3_ratio 1 = .ok (.invokestatic 60, 3) := by decide +kernel
theorem dX3_ratio_4 : decode cX3_ratio 4 = .ok (.ifCond .eq 13, 3) := by decide +kernel
theorem dX3_ratio_7 : decode cX3_ratio 7 = .ok (.iload_n 2, 1) := by decide +kernel
theorem dX3_ratio_8 : decode cX3_ratio 8 = .ok (.ifCond .lt 9, 3) := by decide +kernel
theorem dX3_ratio_11 : decode cX3_ratio 11 = .ok (.iload_n 2, 1) := by decide +kernel
theorem dX3_ratio_12 : decode cX3_ratio 12 = .ok (.ldc 121, 2) := by decide +kernel
theorem dX3_ratio_14 : decode cX3_ratio 14 = .ok (.if_icmp .le 5, 3) := by decide +kernel
theorem dX3_ratio_17 : decode cX3_ratio 17 = .ok (.iconst 0, 1) := by decide +kernel
theorem dX3_ratio_18 : decode cX3_ratio 18 = .ok (.ireturn, 1) := by decide +kernel
theorem dX3_ratio_19 : decode cX3_ratio 19 = .ok (.aload_n 0, 1) := by decide +kernel
theorem dX3_ratio_20 : decode cX3_ratio 20 = .ok (.getfield 35, 3) := by decide +kernel
theorem dX3_ratio_23 : decode cX3_ratio 23 = .ok (.iload_n 1, 1) := by decide +kernel
theorem dX3_ratio_24 : decode cX3_ratio 24 = .ok (.iload_n 2, 1) := by decide +kernel
theorem dX3_ratio_25 : decode cX3_ratio 25 = .ok (.iastore, 1) := by decide +kernel
theorem dX3_ratio_26 : decode cX3_ratio 26 = .ok (.iconst 1, 1) := by decide +kernel
theorem dX3_ratio_27 : decode cX3_ratio 27 = .ok (.ireturn, 1) := by decide +kernel
theorem dX3_allocate_0 : decode cX3_allocate 0 = .ok (.iload_n 1, 1) := by decide +kernel
theorem dX3_allocate_1 : decode cX3_allocate 1 = .ok (.invokestatic 60, 3) := by decide +kernel
theorem dX3_allocate_4 : decode cX3_allocate 4 = .ok (.ifCond .eq 23, 3) := by decide +kernel
theorem dX3_allocate_7 : decode cX3_allocate 7 = .ok (.iload_n 2, 1) := by decide +kernel
theorem dX3_allocate_8 : decode cX3_allocate 8 = .ok (.invokestatic 60, 3) := by decide +kernel
theorem dX3_allocate_11 : decode cX3_allocate 11 = .ok (.ifCond .eq 16, 3) := by decide +kernel
theorem dX3_allocate_14 : decode cX3_allocate 14 = .ok (.iload_n 3, 1) := by decide +kernel
theorem dX3_allocate_15 : decode cX3_allocate 15 = .ok (.iconst 1, 1) := by decide +kernel
theorem dX3_allocate_16 : decode cX3_allocate 16 = .ok (.if_icmp .lt 11, 3) := by decide +kernel
theorem dX3_allocate_19 : decode cX3_allocate 19 = .ok (.iload_n 3, 1) := by decide +kernel
theorem dX3_allocate_20 : decode cX3_allocate 20 = .ok (.bipush 8, 2) := by decide +kernel
theorem dX3_allocate_22 : decode cX3_allocate 22 = .ok (.iload_n 2, 1) := by decide +kernel
theorem dX3_allocate_23 : decode cX3_allocate 23 = .ok (.isub, 1) := by decide +kernel
theorem dX3_allocate_24 : decode cX3_allocate 24 = .ok (.if_icmp .le 6, 3) := by decide +kernel
theorem dX3_allocate_27 : decode cX3_allocate 27 = .ok (.bipush (-15), 2) := by decide +kernel
theorem dX3_allocate_29 : decode cX3_allocate 29 = .ok (.ireturn, 1) := by decide +kernel
theorem dX3_allocate_30 : decode cX3_allocate 30 = .ok (.aload_n 0, 1) := by decide +kernel
theorem dX3_allocate_31 : decode cX3_allocate 31 = .ok (.iload_n 3, 1) := by decide +kernel
theorem dX3_allocate_32 : decode cX3_allocate 32 = .ok (.invokevirtual 122, 3) := by decide +kernel
theorem dX3_allocate_35 : decode cX3_allocate 35 = .ok (.lstore 4, 2) := by decide +kernel
theorem dX3_allocate_37 : decode cX3_allocate 37 = .ok (.iload_n 1, 1) := by decide +kernel
theorem dX3_allocate_38 : decode cX3_allocate 38 = .ok (.iload_n 2, 1) := by decide +kernel
theorem dX3_allocate_39 : decode cX3_allocate 39 = .ok (.if_icmp .lt 10, 3) := by decide +kernel
theorem dX3_allocate_42 : decode cX3_allocate 42 = .ok (.iload_n 1, 1) := by decide +kernel
theorem dX3_allocate_43 : decode cX3_allocate 43 = .ok (.iload_n 2, 1) := by decide +kernel
theorem dX3_allocate_44 : decode cX3_allocate 44 = .ok (.iload_n 3, 1) := by decide +kernel
theorem dX3_allocate_45 : decode cX3_allocate 45 = .ok (.iadd, 1) := by decide +kernel
theorem dX3_allocate_46 : decode cX3_allocate 46 = .ok (.if_icmp .lt 10, 3) := by decide +kernel
theorem dX3_allocate_49 : decode cX3_allocate 49 = .ok (.lload 4, 2) := by decide +kernel
theorem dX3_allocate_51 : decode cX3_allocate 51 = .ok (.lconst 0, 1) := by decide +kernel
theorem dX3_allocate_52 : decode cX3_allocate 52 = .ok (.lcmp, 1) := by decide +kernel
theorem dX3_allocate_53 : decode cX3_allocate 53 = .ok (.ifCond .ne 6, 3) := by decide +kernel
theorem dX3_allocate_56 : decode cX3_allocate 56 = .ok (.bipush (-15), 2) := by decide +kernel
