theorem dX0_init_0 : decode cX0_init 0 = .ok (.aload_n 0, 1) := by decide +kernel
theorem dX0_init_1 : decode cX0_init 1 = .ok (.invokespecial 1, 3) := by decide +kernel
theorem dX0_init_4 : decode cX0_init 4 = .ok (.aload_n 0, 1) := by decide +kernel
theorem dX0_init_5 : decode cX0_init 5 = .ok (.iconst 1, 1) := by decide +kernel
theorem dX0_init_6 : decode cX0_init 6 = .ok (.putfield 7, 3) := by decide +kernel
theorem dX0_init_9 : decode cX0_init 9 = .ok (.return_, 1) := by decide +kernel
theorem dX1_init_0 : decode cX1_init 0 = .ok (.aload_n 0, 1) := by decide +kernel
theorem dX1_init_1 : decode cX1_init 1 = .ok (.invokespecial 1, 3) := by decide +kernel
theorem dX1_init_4 : decode cX1_init 4 = .ok (.aload_n 0, 1) := by decide +kernel
theorem dX1_init_5 : decode cX1_init 5 = .ok (.new 7, 3) := by decide +kernel
theorem dX1_init_8 : decode cX1_init 8 = .ok (.dup, 1) := by decide +kernel
theorem dX1_init_9 : decode cX1_init 9 = .ok (.invokespecial 9, 3) := by decide +kernel
theorem dX1_init_12 : decode cX1_init 12 = .ok (.putfield 10, 3) := by decide +kernel
theorem dX1_init_15 : decode cX1_init 15 = .ok (.aload_n 0, 1) := by decide +kernel
theorem dX1_init_16 : decode cX1_init 16 = .ok (.bipush 10, 2) := by decide +kernel
theorem dX1_init_18 : decode cX1_init 18 = .ok (.newarray .boolean, 2) := by decide +kernel
theorem dX1_init_20 : decode cX1_init 20 = .ok (.putfield 16, 3) := by decide +kernel
theorem dX1_init_23 : decode cX1_init 23 = .ok (.return_, 1) := by decide +kernel
theorem dX2_init_0 : decode cX2_init 0 = .ok (.aload_n 0, 1) := by decide +kernel
theorem dX2_init_1 : decode cX2_init 1 = .ok (.invokespecial 3, 3) := by decide +kernel
theorem dX2_init_4 : decode cX2_init 4 = .ok (.aload_n 0, 1) := by decide +kernel
theorem dX2_init_5 : decode cX2_init 5 = .ok (.bipush 64, 2) := by decide +kernel
theorem dX2_init_7 : decode cX2_init 7 = .ok (.newarray .long, 2) := by decide +kernel
theorem dX2_init_9 : decode cX2_init 9 = .ok (.putfield 9, 3) := by decide +kernel
theorem dX2_init_12 : decode cX2_init 12 = .ok (.aload_n 0, 1) := by decide +kernel
theorem dX2_init_13 : decode cX2_init 13 = .ok (.bipush 64, 2) := by decide +kernel
theorem dX2_init_15 : decode cX2_init 15 = .ok (.newarray .long, 2) := by decide +kernel
theorem dX2_init_17 : decode cX2_init 17 = .ok (.putfield 15, 3) := by decide +kernel
theorem dX2_init_20 : decode cX2_init 20 = .ok (.aload_n 0, 1) := by decide +kernel
theorem dX2_init_21 : decode cX2_init 21 = .ok (.bipush 64, 2) := by decide +kernel
theorem dX2_init_23 : decode cX2_init 23 = .ok (.newarray .int, 2) := by decide +kernel
theorem dX2_init_25 : decode cX2_init 25 = .ok (.putfield 18, 3) := by decide +kernel
theorem dX2_init_28 : decode cX2_init 28 = .ok (.aload_n 0, 1) := by decide +kernel
theorem dX2_init_29 : decode cX2_init 29 = .ok (.bipush 64, 2) := by decide +kernel
theorem dX2_init_31 : decode cX2_init 31 = .ok (.newarray .long, 2) := by decide +kernel
theorem dX2_init_33 : decode cX2_init 33 = .ok (.putfield 22, 3) := by decide +kernel
theorem dX2_init_36 : decode cX2_init 36 = .ok (.return_, 1) := by decide +kernel
theorem dX2_size_0 : decode cX2_size 0 = .ok (.aload_n 0, 1) := by decide +kernel
theorem dX2_size_1 : decode cX2_size 1 = .ok (.getfield 25, 3) := by decide +kernel
theorem dX2_size_4 : decode cX2_size 4 = .ok (.ireturn, 1) := by decide +kernel
theorem dX2_valueAt_0 : decode cX2_valueAt 0 = .ok (.aload_n 0, 1) := by decide +kernel
theorem dX2_valueAt_1 : decode cX2_valueAt 1 = .ok (.getfield 9, 3) := by decide +kernel
theorem dX2_valueAt_4 : decode cX2_valueAt 4 = .ok (.iload_n 1, 1) := by decide +kernel
theorem dX2_valueAt_5 : decode cX2_valueAt 5 = .ok (.laload, 1) := by decide +kernel
theorem dX2_valueAt_6 : decode cX2_valueAt 6 = .ok (.lreturn, 1) := by decide +kernel
theorem dX2_take_0 : decode cX2_take 0 = .ok (.aload_n 0, 1) := by decide +kernel
theorem dX2_take_1 : decode cX2_take 1 = .ok (.aload_n 1, 1) := by decide +kernel
theorem dX2_take_2 : decode cX2_take 2 = .ok (.invokevirtual 29, 3) := by decide +kernel
theorem dX2_take_5 : decode cX2_take 5 = .ok (.putfield 25, 3) := by decide +kernel
theorem dX2_take_8 : decode cX2_take 8 = .ok (.iconst 0, 1) := by decide +kernel
theorem dX2_take_9 : decode cX2_take 9 = .ok (.istore_n 2, 1) := by decide +kernel
theorem dX2_take_10 : decode cX2_take 10 = .ok (.iload_n 2, 1) := by decide +kernel
theorem dX2_take_11 : decode cX2_take 11 = .ok (.aload_n 0, 1) := by decide +kernel
theorem dX2_take_12 : decode cX2_take 12 = .ok (.getfield 25, 3) := by decide +kernel
theorem dX2_take_15 : decode cX2_take 15 = .ok (.if_icmp .ge 21, 3) := by decide +kernel
theorem dX2_take_18 : decode cX2_take 18 = .ok (.aload_n 0, 1) := by decide +kernel
theorem dX2_take_19 : decode cX2_take 19 = .ok (.getfield 9, 3) := by decide +kernel
theorem dX2_take_22 : decode cX2_take 22 = .ok (.iload_n 2, 1) := by decide +kernel
theorem dX2_take_23 : decode cX2_take 23 = .ok (.aload_n 1, 1) := by decide +kernel
theorem dX2_take_24 : decode cX2_take 24 = .ok (.iload_n 2, 1) := by decide +kernel
theorem dX2_take_25 : decode cX2_take 25 = .ok (.invokevirtual 34, 3) := by decide +kernel
theorem dX2_take_28 : decode cX2_take 28 = .ok (.i2l, 1) := by decide +kernel
theorem dX2_take_29 : decode cX2_take 29 = .ok (.lastore, 1) := by decide +kernel
theorem dX2_take_30 : decode cX2_take 30 = .ok (.iinc 2 1, 3) := by decide +kernel
theorem dX2_take_33 : decode cX2_take 33 = .ok (.goto (-23), 3) := by decide +kernel
theorem dX2_take_36 : decode cX2_take 36 = .ok (.return_, 1) := by decide +kernel
theorem dX2_change_0 : decode cX2_change 0 = .ok (.iload_n 1, 1) := by decide +kernel
theorem dX2_change_1 : decode cX2_change 1 = .ok (.iconst 1, 1) := by decide +kernel
theorem dX2_change_2 : decode cX2_change 2 = .ok (.if_icmp .eq 8, 3) := by decide +kernel
theorem dX2_change_5 : decode cX2_change 5 = .ok (.iload_n 1, 1) := by decide +kernel
theorem dX2_change_6 : decode cX2_change 6 = .ok (.iconst 2, 1) := by decide +kernel
theorem dX2_change_7 : decode cX2_change 7 = .ok (.if_icmp .ne 7, 3) := by decide +kernel
theorem dX2_change_10 : decode cX2_change 10 = .ok (.iconst 1, 1) := by decide +kernel
theorem dX2_change_11 : decode cX2_change 11 = .ok (.goto 4, 3) := by decide +kernel
theorem dX2_change_14 : decode cX2_change 14 = .ok (.iconst 0, 1) := by decide +kernel
theorem dX2_change_15 : decode cX2_change 15 = .ok (.istore_n 2, 1) := by decide +kernel
theorem dX2_change_16 : decode cX2_change 16 = .ok (.iload_n 2, 1) := by decide +kernel
theorem dX2_change_17 : decode cX2_change 17 = .ok (.ifCond .eq 11, 3) := by decide +kernel
theorem dX2_change_20 : decode cX2_change 20 = .ok (.aload_n 0, 1) := by decide +kernel
theorem dX2_change_21 : decode cX2_change 21 = .ok (.getfield 25, 3) := by decide +kernel
theorem dX2_change_24 : decode cX2_change 24 = .ok (.iconst 2, 1) := by decide +kernel
theorem dX2_change_25 : decode cX2_change 25 = .ok (.if_icmp .lt 15, 3) := by decide +kernel
theorem dX2_change_28 : decode cX2_change 28 = .ok (.iload_n 1, 1) := by decide +kernel
theorem dX2_change_29 : decode cX2_change 29 = .ok (.iconst 3, 1) := by decide +kernel
theorem dX2_change_30 : decode cX2_change 30 = .ok (.if_icmp .ne 13, 3) := by decide +kernel
theorem dX2_change_33 : decode cX2_change 33 = .ok (.aload_n 0, 1) := by decide +kernel
theorem dX2_change_34 : decode cX2_change 34 = .ok (.invokevirtual 38, 3) := by decide +kernel
theorem dX2_change_37 : decode cX2_change 37 = .ok (.ifCond .ne 6, 3) := by decide +kernel
theorem dX2_change_40 : decode cX2_change 40 = .ok (.bipush (-3), 2) := by decide +kernel
theorem dX2_change_42 : decode cX2_change 42 = .ok (.ireturn, 1) := by decide +kernel
theorem dX2_change_43 : decode cX2_change 43 = .ok (.iload_n 2, 1) := by decide +kernel
theorem dX2_change_44 : decode cX2_change 44 = .ok (.ifCond .eq 16, 3) := by decide +kernel
theorem dX2_change_47 : decode cX2_change 47 = .ok (.aload_n 0, 1) := by decide +kernel
theorem dX2_change_48 : decode cX2_change 48 = .ok (.ldc2_w 42, 3) := by decide +kernel
theorem dX2_change_51 : decode cX2_change 51 = .ok (.invokevirtual 44, 3) := by decide +kernel
theorem dX2_change_54 : decode cX2_change 54 = .ok (.ifCond .eq 6, 3) := by decide +kernel
theorem dX2_change_57 : decode cX2_change 57 = .ok (.bipush (-16), 2) := by decide +kernel
theorem dX2_change_59 : decode cX2_change 59 = .ok (.ireturn, 1) := by decide +kernel
theorem dX2_change_60 : decode cX2_change 60 = .ok (.iload_n 1, 1) := by decide +kernel
theorem dX2_change_61 : decode cX2_change 61 = .ok (.tableswitch 48 0 2 #[27, 34, 41], 27) := by decide +kernel
theorem dX2_change_88 : decode cX2_change 88 = .ok (.aload_n 0, 1) := by decide +kernel
theorem dX2_change_89 : decode cX2_change 89 = .ok (.invokevirtual 48, 3) := by decide +kernel
theorem dX2_change_92 : decode cX2_change 92 = .ok (.goto 21, 3) := by decide +kernel
theorem dX2_change_95 : decode cX2_change 95 = .ok (.aload_n 0, 1) := by decide +kernel
theorem dX2_change_96 : decode cX2_change 96 = .ok (.invokevirtual 51, 3) := by decide +kernel
theorem dX2_change_99 : decode cX2_change 99 = .ok (.goto 14, 3) := by decide +kernel
theorem dX2_change_102 : decode cX2_change 102 = .ok (.aload_n 0, 1) := by decide +kernel
theorem dX2_change_103 : decode cX2_change 103 = .ok (.invokevirtual 54, 3) := by decide +kernel
theorem dX2_change_106 : decode cX2_change 106 = .ok (.goto 7, 3) := by decide +kernel
theorem dX2_change_109 : decode cX2_change 109 = .ok (.aload_n 0, 1) := by decide +kernel
theorem dX2_change_110 : decode cX2_change 110 = .ok (.invokevirtual 57, 3) := by decide +kernel
theorem dX2_change_113 : decode cX2_change 113 = .ok (.aload_n 0, 1) := by decide +kernel
theorem dX2_change_114 : decode cX2_change 114 = .ok (.invokevirtual 60, 3) := by decide +kernel
theorem dX2_change_117 : decode cX2_change 117 = .ok (.ireturn, 1) := by decide +kernel
theorem dX2_isPowerOfTwo_0 : decode cX2_isPowerOfTwo 0 = .ok (.aload_n 0, 1) := by decide +kernel
theorem dX2_isPowerOfTwo_1 : decode cX2_isPowerOfTwo 1 = .ok (.getfield 25, 3) := by decide +kernel
theorem dX2_isPowerOfTwo_4 : decode cX2_isPowerOfTwo 4 = .ok (.ifCond .le 21, 3) := by decide +kernel
theorem dX2_isPowerOfTwo_7 : decode cX2_isPowerOfTwo 7 = .ok (.aload_n 0, 1) := by decide +kernel
theorem dX2_isPowerOfTwo_8 : decode cX2_isPowerOfTwo 8 = .ok (.getfield 25, 3) := by decide +kernel
theorem dX2_isPowerOfTwo_11 : decode cX2_isPowerOfTwo 11 = .ok (.aload_n 0, 1) := by decide +kernel
theorem dX2_isPowerOfTwo_12 : decode cX2_isPowerOfTwo 12 = .ok (.getfield 25, 3) := by decide +kernel
theorem dX2_isPowerOfTwo_15 : decode cX2_isPowerOfTwo 15 = .ok (.iconst 1, 1) := by decide +kernel
theorem dX2_isPowerOfTwo_16 : decode cX2_isPowerOfTwo 16 = .ok (.isub, 1) := by decide +kernel
theorem dX2_isPowerOfTwo_17 : decode cX2_isPowerOfTwo 17 = .ok (.iand, 1) := by decide +kernel
theorem dX2_isPowerOfTwo_18 : decode cX2_isPowerOfTwo 18 = .ok (.ifCond .ne 7, 3) := by decide +kernel
theorem dX2_isPowerOfTwo_21 : decode cX2_isPowerOfTwo 21 = .ok (.iconst 1, 1) := by decide +kernel
theorem dX2_isPowerOfTwo_22 : decode cX2_isPowerOfTwo 22 = .ok (.goto 4, 3) := by decide +kernel
theorem dX2_isPowerOfTwo_25 : decode cX2_isPowerOfTwo 25 = .ok (.iconst 0, 1) := by decide +kernel
theorem dX2_isPowerOfTwo_26 : decode cX2_isPowerOfTwo 26 = .ok (.ireturn, 1) := by decide +kernel
theorem dX2_makeLevel_0 : decode cX2_makeLevel 0 = .ok (.aload_n 0, 1) := by decide +kernel
theorem dX2_makeLevel_1 : decode cX2_makeLevel 1 = .ok (.invokevirtual 63, 3) := by decide +kernel
theorem dX2_makeLevel_4 : decode cX2_makeLevel 4 = .ok (.lstore_n 1, 1) := by decide +kernel
theorem dX2_makeLevel_5 : decode cX2_makeLevel 5 = .ok (.iconst 0, 1) := by decide +kernel
theorem dX2_makeLevel_6 : decode cX2_makeLevel 6 = .ok (.istore_n 3, 1) := by decide +kernel
theorem dX2_makeLevel_7 : decode cX2_makeLevel 7 = .ok (.iload_n 3, 1) := by decide +kernel
theorem dX2_makeLevel_8 : decode cX2_makeLevel 8 = .ok (.aload_n 0, 1) := by decide +kernel
theorem dX2_makeLevel_9 : decode cX2_makeLevel 9 = .ok (.getfield 25, 3) := by decide +kernel
theorem dX2_makeLevel_12 : decode cX2_makeLevel 12 = .ok (.if_icmp .ge 29, 3) := by decide +kernel
theorem dX2_makeLevel_15 : decode cX2_makeLevel 15 = .ok (.aload_n 0, 1) := by decide +kernel
theorem dX2_makeLevel_16 : decode cX2_makeLevel 16 = .ok (.getfield 15, 3) := by decide +kernel
theorem dX2_makeLevel_19 : decode cX2_makeLevel 19 = .ok (.iload_n 3, 1) := by decide +kernel
theorem dX2_makeLevel_20 : decode cX2_makeLevel 20 = .ok (.aload_n 0, 1) := by decide +kernel
theorem dX2_makeLevel_21 : decode cX2_makeLevel 21 = .ok (.getfield 25, 3) := by decide +kernel
theorem dX2_makeLevel_24 : decode cX2_makeLevel 24 = .ok (.i2l, 1) := by decide +kernel
theorem dX2_makeLevel_25 : decode cX2_makeLevel 25 = .ok (.aload_n 0, 1) := by decide +kernel
theorem dX2_makeLevel_26 : decode cX2_makeLevel 26 = .ok (.getfield 9, 3) := by decide +kernel
theorem dX2_makeLevel_29 : decode cX2_makeLevel 29 = .ok (.iload_n 3, 1) := by decide +kernel
theorem dX2_makeLevel_30 : decode cX2_makeLevel 30 = .ok (.laload, 1) := by decide +kernel
theorem dX2_makeLevel_31 : decode cX2_makeLevel 31 = .ok (.lmul, 1) := by decide +kernel
theorem dX2_makeLevel_32 : decode cX2_makeLevel 32 = .ok (.lload_n 1, 1) := by decide +kernel
theorem dX2_makeLevel_33 : decode cX2_makeLevel 33 = .ok (.lsub, 1) := by decide +kernel
theorem dX2_makeLevel_34 : decode cX2_makeLevel 34 = .ok (.lastore, 1) := by decide +kernel
theorem dX2_makeLevel_35 : decode cX2_makeLevel 35 = .ok (.iinc 3 1, 3) := by decide +kernel
theorem dX2_makeLevel_38 : decode cX2_makeLevel 38 = .ok (.goto (-31), 3) := by decide +kernel
theorem dX2_makeLevel_41 : decode cX2_makeLevel 41 = .ok (.return_, 1) := by decide +kernel
theorem dX2_makeFlat_0 : decode cX2_makeFlat 0 = .ok (.aload_n 0, 1) := by decide +kernel
theorem dX2_makeFlat_1 : decode cX2_makeFlat 1 = .ok (.getfield 25, 3) := by decide +kernel
theorem dX2_makeFlat_4 : decode cX2_makeFlat 4 = .ok (.i2l, 1) := by decide +kernel
theorem dX2_makeFlat_5 : decode cX2_makeFlat 5 = .ok (.lstore_n 1, 1) := by decide +kernel
theorem dX2_makeFlat_6 : decode cX2_makeFlat 6 = .ok (.lload_n 1, 1) := by decide +kernel
theorem dX2_makeFlat_7 : decode cX2_makeFlat 7 = .ok (.lload_n 1, 1) := by decide +kernel
theorem dX2_makeFlat_8 : decode cX2_makeFlat 8 = .ok (.lmul, 1) := by decide +kernel
theorem dX2_makeFlat_9 : decode cX2_makeFlat 9 = .ok (.lconst 1, 1) := by decide +kernel
theorem dX2_makeFlat_10 : decode cX2_makeFlat 10 = .ok (.lsub, 1) := by decide +kernel
theorem dX2_makeFlat_11 : decode cX2_makeFlat 11 = .ok (.lstore_n 3, 1) := by decide +kernel
theorem dX2_makeFlat_12 : decode cX2_makeFlat 12 = .ok (.aload_n 0, 1) := by decide +kernel
theorem dX2_makeFlat_13 : decode cX2_makeFlat 13 = .ok (.invokevirtual 63, 3) := by decide +kernel
theorem dX2_makeFlat_16 : decode cX2_makeFlat 16 = .ok (.lstore 5, 2) := by decide +kernel
theorem dX2_makeFlat_18 : decode cX2_makeFlat 18 = .ok (.lconst 0, 1) := by decide +kernel
theorem dX2_makeFlat_19 : decode cX2_makeFlat 19 = .ok (.lstore 7, 2) := by decide +kernel
theorem dX2_makeFlat_21 : decode cX2_makeFlat 21 = .ok (.iconst 0, 1) := by decide +kernel
theorem dX2_makeFlat_22 : decode cX2_makeFlat 22 = .ok (.istore 9, 2) := by decide +kernel
theorem dX2_makeFlat_24 : decode cX2_makeFlat 24 = .ok (.iload 9, 2) := by decide +kernel
theorem dX2_makeFlat_26 : decode cX2_makeFlat 26 = .ok (.aload_n 0, 1) := by decide +kernel
theorem dX2_makeFlat_27 : decode cX2_makeFlat 27 = .ok (.getfield 25, 3) := by decide +kernel
theorem dX2_makeFlat_30 : decode cX2_makeFlat 30 = .ok (.if_icmp .ge 31, 3) := by decide +kernel
theorem dX2_makeFlat_33 : decode cX2_makeFlat 33 = .ok (.lload 7, 2) := by decide +kernel
theorem dX2_makeFlat_35 : decode cX2_makeFlat 35 = .ok (.iconst 2, 1) := by decide +kernel
theorem dX2_makeFlat_36 : decode cX2_makeFlat 36 = .ok (.iload 9, 2) := by decide +kernel
theorem dX2_makeFlat_38 : decode cX2_makeFlat 38 = .ok (.imul, 1) := by decide +kernel
theorem dX2_makeFlat_39 : decode cX2_makeFlat 39 = .ok (.i2l, 1) := by decide +kernel
theorem dX2_makeFlat_40 : decode cX2_makeFlat 40 = .ok (.lload_n 1, 1) := by decide +kernel
theorem dX2_makeFlat_41 : decode cX2_makeFlat 41 = .ok (.lsub, 1) := by decide +kernel
theorem dX2_makeFlat_42 : decode cX2_makeFlat 42 = .ok (.lconst 1, 1) := by decide +kernel
theorem dX2_makeFlat_43 : decode cX2_makeFlat 43 = .ok (.ladd, 1) := by decide +kernel
theorem dX2_makeFlat_44 : decode cX2_makeFlat 44 = .ok (.aload_n 0, 1) := by decide +kernel
theorem dX2_makeFlat_45 : decode cX2_makeFlat 45 = .ok (.getfield 9, 3) := by decide +kernel
theorem dX2_makeFlat_48 : decode cX2_makeFlat 48 = .ok (.iload 9, 2) := by decide +kernel
theorem dX2_makeFlat_50 : decode cX2_makeFlat 50 = .ok (.laload, 1) := by decide +kernel
theorem dX2_makeFlat_51 : decode cX2_makeFlat 51 = .ok (.lmul, 1) := by decide +kernel
theorem dX2_makeFlat_52 : decode cX2_makeFlat 52 = .ok (.ladd, 1) := by decide +kernel
theorem dX2_makeFlat_53 : decode cX2_makeFlat 53 = .ok (.lstore 7, 2) := by decide +kernel
theorem dX2_makeFlat_55 : decode cX2_makeFlat 55 = .ok (.iinc 9 1, 3) := by decide +kernel
theorem dX2_makeFlat_58 : decode cX2_makeFlat 58 = .ok (.goto (-34), 3) := by decide +kernel
theorem dX2_makeFlat_61 : decode cX2_makeFlat 61 = .ok (.iconst 0, 1) := by decide +kernel
theorem dX2_makeFlat_62 : decode cX2_makeFlat 62 = .ok (.istore 9, 2) := by decide +kernel
theorem dX2_makeFlat_64 : decode cX2_makeFlat 64 = .ok (.iload 9, 2) := by decide +kernel
theorem dX2_makeFlat_66 : decode cX2_makeFlat 66 = .ok (.aload_n 0, 1) := by decide +kernel
theorem dX2_makeFlat_67 : decode cX2_makeFlat 67 = .ok (.getfield 25, 3) := by decide +kernel
theorem dX2_makeFlat_70 : decode cX2_makeFlat 70 = .ok (.if_icmp .ge 49, 3) := by decide +kernel
theorem dX2_makeFlat_73 : decode cX2_makeFlat 73 = .ok (.aload_n 0, 1) := by decide +kernel
theorem dX2_makeFlat_74 : decode cX2_makeFlat 74 = .ok (.getfield 15, 3) := by decide +kernel
theorem dX2_makeFlat_77 : decode cX2_makeFlat 77 = .ok (.iload 9, 2) := by decide +kernel
theorem dX2_makeFlat_79 : decode cX2_makeFlat 79 = .ok (.lload_n 1, 1) := by decide +kernel
theorem dX2_makeFlat_80 : decode cX2_makeFlat 80 = .ok (.lload_n 3, 1) := by decide +kernel
theorem dX2_makeFlat_81 : decode cX2_makeFlat 81 = .ok (.lmul, 1) := by decide +kernel
theorem dX2_makeFlat_82 : decode cX2_makeFlat 82 = .ok (.aload_n 0, 1) := by decide +kernel
theorem dX2_makeFlat_83 : decode cX2_makeFlat 83 = .ok (.getfield 9, 3) := by decide +kernel
theorem dX2_makeFlat_86 : decode cX2_makeFlat 86 = .ok (.iload 9, 2) := by decide +kernel
theorem dX2_makeFlat_88 : decode cX2_makeFlat 88 = .ok (.laload, 1) := by decide +kernel
theorem dX2_makeFlat_89 : decode cX2_makeFlat 89 = .ok (.lmul, 1) := by decide +kernel
theorem dX2_makeFlat_90 : decode cX2_makeFlat 90 = .ok (.lload_n 3, 1) := by decide +kernel
theorem dX2_makeFlat_91 : decode cX2_makeFlat 91 = .ok (.lload 5, 2) := by decide +kernel
theorem dX2_makeFlat_93 : decode cX2_makeFlat 93 = .ok (.lmul, 1) := by decide +kernel
theorem dX2_makeFlat_94 : decode cX2_makeFlat 94 = .ok (.lsub, 1) := by decide +kernel
theorem dX2_makeFlat_95 : decode cX2_makeFlat 95 = .ok (.ldc2_w 67, 3) := by decide +kernel
theorem dX2_makeFlat_98 : decode cX2_makeFlat 98 = .ok (.iconst 2, 1) := by decide +kernel
theorem dX2_makeFlat_99 : decode cX2_makeFlat 99 = .ok (.iload 9, 2) := by decide +kernel
theorem dX2_makeFlat_101 : decode cX2_makeFlat 101 = .ok (.imul, 1) := by decide +kernel
theorem dX2_makeFlat_102 : decode cX2_makeFlat 102 = .ok (.i2l, 1) := by decide +kernel
theorem dX2_makeFlat_103 : decode cX2_makeFlat 103 = .ok (.lload_n 1, 1) := by decide +kernel
theorem dX2_makeFlat_104 : decode cX2_makeFlat 104 = .ok (.lsub, 1) := by decide +kernel
theorem dX2_makeFlat_105 : decode cX2_makeFlat 105 = .ok (.lconst 1, 1) := by decide +kernel
theorem dX2_makeFlat_106 : decode cX2_makeFlat 106 = .ok (.ladd, 1) := by decide +kernel
theorem dX2_makeFlat_107 : decode cX2_makeFlat 107 = .ok (.lmul, 1) := by decide +kernel
theorem dX2_makeFlat_108 : decode cX2_makeFlat 108 = .ok (.lload 7, 2) := by decide +kernel
theorem dX2_makeFlat_110 : decode cX2_makeFlat 110 = .ok (.lmul, 1) := by decide +kernel
theorem dX2_makeFlat_111 : decode cX2_makeFlat 111 = .ok (.lsub, 1) := by decide +kernel
theorem dX2_makeFlat_112 : decode cX2_makeFlat 112 = .ok (.lastore, 1) := by decide +kernel
theorem dX2_makeFlat_113 : decode cX2_makeFlat 113 = .ok (.iinc 9 1, 3) := by decide +kernel
theorem dX2_makeFlat_116 : decode cX2_makeFlat 116 = .ok (.goto (-52), 3) := by decide +kernel
theorem dX2_makeFlat_119 : decode cX2_makeFlat 119 = .ok (.return_, 1) := by decide +kernel
theorem dX2_makeTwice_0 : decode cX2_makeTwice 0 = .ok (.lconst 0, 1) := by decide +kernel
theorem dX2_makeTwice_1 : decode cX2_makeTwice 1 = .ok (.lstore_n 1, 1) := by decide +kernel
theorem dX2_makeTwice_2 : decode cX2_makeTwice 2 = .ok (.lconst 0, 1) := by decide +kernel
theorem dX2_makeTwice_3 : decode cX2_makeTwice 3 = .ok (.lstore_n 3, 1) := by decide +kernel
theorem dX2_makeTwice_4 : decode cX2_makeTwice 4 = .ok (.iconst 0, 1) := by decide +kernel
theorem dX2_makeTwice_5 : decode cX2_makeTwice 5 = .ok (.istore 5, 2) := by decide +kernel
theorem dX2_makeTwice_7 : decode cX2_makeTwice 7 = .ok (.iload 5, 2) := by decide +kernel
theorem dX2_makeTwice_9 : decode cX2_makeTwice 9 = .ok (.aload_n 0, 1) := by decide +kernel
theorem dX2_makeTwice_10 : decode cX2_makeTwice 10 = .ok (.getfield 25, 3) := by decide +kernel
theorem dX2_makeTwice_13 : decode cX2_makeTwice 13 = .ok (.if_icmp .ge 31, 3) := by decide +kernel
theorem dX2_makeTwice_16 : decode cX2_makeTwice 16 = .ok (.aload_n 0, 1) := by decide +kernel
theorem dX2_makeTwice_17 : decode cX2_makeTwice 17 = .ok (.getfield 15, 3) := by decide +kernel
theorem dX2_makeTwice_20 : decode cX2_makeTwice 20 = .ok (.iload 5, 2) := by decide +kernel
theorem dX2_makeTwice_22 : decode cX2_makeTwice 22 = .ok (.lload_n 3, 1) := by decide +kernel
theorem dX2_makeTwice_23 : decode cX2_makeTwice 23 = .ok (.lastore, 1) := by decide +kernel
theorem dX2_makeTwice_24 : decode cX2_makeTwice 24 = .ok (.lload_n 1, 1) := by decide +kernel
theorem dX2_makeTwice_25 : decode cX2_makeTwice 25 = .ok (.aload_n 0, 1) := by decide +kernel
theorem dX2_makeTwice_26 : decode cX2_makeTwice 26 = .ok (.getfield 9, 3) := by decide +kernel
theorem dX2_makeTwice_29 : decode cX2_makeTwice 29 = .ok (.iload 5, 2) := by decide +kernel
theorem dX2_makeTwice_31 : decode cX2_makeTwice 31 = .ok (.laload, 1) := by decide +kernel
theorem dX2_makeTwice_32 : decode cX2_makeTwice 32 = .ok (.ladd, 1) := by decide +kernel
theorem dX2_makeTwice_33 : decode cX2_makeTwice 33 = .ok (.lstore_n 1, 1) := by decide +kernel
theorem dX2_makeTwice_34 : decode cX2_makeTwice 34 = .ok (.lload_n 3, 1) := by decide +kernel
theorem dX2_makeTwice_35 : decode cX2_makeTwice 35 = .ok (.lload_n 1, 1) := by decide +kernel
theorem dX2_makeTwice_36 : decode cX2_makeTwice 36 = .ok (.ladd, 1) := by decide +kernel
theorem dX2_makeTwice_37 : decode cX2_makeTwice 37 = .ok (.lstore_n 3, 1) := by decide +kernel
theorem dX2_makeTwice_38 : decode cX2_makeTwice 38 = .ok (.iinc 5 1, 3) := by decide +kernel
theorem dX2_makeTwice_41 : decode cX2_makeTwice 41 = .ok (.goto (-34), 3) := by decide +kernel
theorem dX2_makeTwice_44 : decode cX2_makeTwice 44 = .ok (.aload_n 0, 1) := by decide +kernel
theorem dX2_makeTwice_45 : decode cX2_makeTwice 45 = .ok (.getfield 25, 3) := by decide +kernel
theorem dX2_makeTwice_48 : decode cX2_makeTwice 48 = .ok (.ifCond .le 17, 3) := by decide +kernel
theorem dX2_makeTwice_51 : decode cX2_makeTwice 51 = .ok (.aload_n 0, 1) := by decide +kernel
theorem dX2_makeTwice_52 : decode cX2_makeTwice 52 = .ok (.getfield 15, 3) := by decide +kernel
theorem dX2_makeTwice_55 : decode cX2_makeTwice 55 = .ok (.aload_n 0, 1) := by decide +kernel
theorem dX2_makeTwice_56 : decode cX2_makeTwice 56 = .ok (.getfield 25, 3) := by decide +kernel
theorem dX2_makeTwice_59 : decode cX2_makeTwice 59 = .ok (.iconst 1, 1) := by decide +kernel
theorem dX2_makeTwice_60 : decode cX2_makeTwice 60 = .ok (.isub, 1) := by decide +kernel
theorem dX2_makeTwice_61 : decode cX2_makeTwice 61 = .ok (.laload, 1) := by decide +kernel
theorem dX2_makeTwice_62 : decode cX2_makeTwice 62 = .ok (.goto 4, 3) := by decide +kernel
theorem dX2_makeTwice_65 : decode cX2_makeTwice 65 = .ok (.lconst 0, 1) := by decide +kernel
theorem dX2_makeTwice_66 : decode cX2_makeTwice 66 = .ok (.lstore 5, 2) := by decide +kernel
theorem dX2_makeTwice_68 : decode cX2_makeTwice 68 = .ok (.iconst 0, 1) := by decide +kernel
theorem dX2_makeTwice_69 : decode cX2_makeTwice 69 = .ok (.istore 7, 2) := by decide +kernel
theorem dX2_makeTwice_71 : decode cX2_makeTwice 71 = .ok (.iload 7, 2) := by decide +kernel
theorem dX2_makeTwice_73 : decode cX2_makeTwice 73 = .ok (.aload_n 0, 1) := by decide +kernel
theorem dX2_makeTwice_74 : decode cX2_makeTwice 74 = .ok (.getfield 25, 3) := by decide +kernel
theorem dX2_makeTwice_77 : decode cX2_makeTwice 77 = .ok (.if_icmp .ge 38, 3) := by decide +kernel
theorem dX2_makeTwice_80 : decode cX2_makeTwice 80 = .ok (.aload_n 0, 1) := by decide +kernel
theorem dX2_makeTwice_81 : decode cX2_makeTwice 81 = .ok (.getfield 15, 3) := by decide +kernel
theorem dX2_makeTwice_84 : decode cX2_makeTwice 84 = .ok (.iload 7, 2) := by decide +kernel
theorem dX2_makeTwice_86 : decode cX2_makeTwice 86 = .ok (.aload_n 0, 1) := by decide +kernel
theorem dX2_makeTwice_87 : decode cX2_makeTwice 87 = .ok (.getfield 25, 3) := by decide +kernel
theorem dX2_makeTwice_90 : decode cX2_makeTwice 90 = .ok (.iconst 1, 1) := by decide +kernel
theorem dX2_makeTwice_91 : decode cX2_makeTwice 91 = .ok (.isub, 1) := by decide +kernel
theorem dX2_makeTwice_92 : decode cX2_makeTwice 92 = .ok (.i2l, 1) := by decide +kernel
theorem dX2_makeTwice_93 : decode cX2_makeTwice 93 = .ok (.aload_n 0, 1) := by decide +kernel
theorem dX2_makeTwice_94 : decode cX2_makeTwice 94 = .ok (.getfield 15, 3) := by decide +kernel
theorem dX2_makeTwice_97 : decode cX2_makeTwice 97 = .ok (.iload 7, 2) := by decide +kernel
theorem dX2_makeTwice_99 : decode cX2_makeTwice 99 = .ok (.laload, 1) := by decide +kernel
theorem dX2_makeTwice_100 : decode cX2_makeTwice 100 = .ok (.lmul, 1) := by decide +kernel
theorem dX2_makeTwice_101 : decode cX2_makeTwice 101 = .ok (.iload 7, 2) := by decide +kernel
theorem dX2_makeTwice_103 : decode cX2_makeTwice 103 = .ok (.i2l, 1) := by decide +kernel
theorem dX2_makeTwice_104 : decode cX2_makeTwice 104 = .ok (.lload 5, 2) := by decide +kernel
theorem dX2_makeTwice_106 : decode cX2_makeTwice 106 = .ok (.lmul, 1) := by decide +kernel
theorem dX2_makeTwice_107 : decode cX2_makeTwice 107 = .ok (.lsub, 1) := by decide +kernel
theorem dX2_makeTwice_108 : decode cX2_makeTwice 108 = .ok (.lastore, 1) := by decide +kernel
theorem dX2_makeTwice_109 : decode cX2_makeTwice 109 = .ok (.iinc 7 1, 3) := by decide +kernel
theorem dX2_makeTwice_112 : decode cX2_makeTwice 112 = .ok (.goto (-41), 3) := by decide +kernel
theorem dX2_makeTwice_115 : decode cX2_makeTwice 115 = .ok (.return_, 1) := by decide +kernel
theorem dX2_makeTones_0 : decode cX2_makeTones 0 = .ok (.iconst 0, 1) := by decide +kernel
theorem dX2_makeTones_1 : decode cX2_makeTones 1 = .ok (.istore_n 1, 1) := by decide +kernel
theorem dX2_makeTones_2 : decode cX2_makeTones 2 = .ok (.iload_n 1, 1) := by decide +kernel
theorem dX2_makeTones_3 : decode cX2_makeTones 3 = .ok (.aload_n 0, 1) := by decide +kernel
theorem dX2_makeTones_4 : decode cX2_makeTones 4 = .ok (.getfield 25, 3) := by decide +kernel
theorem dX2_makeTones_7 : decode cX2_makeTones 7 = .ok (.if_icmp .ge 88, 3) := by decide +kernel
theorem dX2_makeTones_10 : decode cX2_makeTones 10 = .ok (.aload_n 0, 1) := by decide +kernel
theorem dX2_makeTones_11 : decode cX2_makeTones 11 = .ok (.iload_n 1, 1) := by decide +kernel
theorem dX2_makeTones_12 : decode cX2_makeTones 12 = .ok (.invokevirtual 69, 3) := by decide +kernel
theorem dX2_makeTones_15 : decode cX2_makeTones 15 = .ok (.istore_n 2, 1) := by decide +kernel
theorem dX2_makeTones_16 : decode cX2_makeTones 16 = .ok (.lconst 0, 1) := by decide +kernel
theorem dX2_makeTones_17 : decode cX2_makeTones 17 = .ok (.lstore_n 3, 1) := by decide +kernel
theorem dX2_makeTones_18 : decode cX2_makeTones 18 = .ok (.iconst 0, 1) := by decide +kernel
theorem dX2_makeTones_19 : decode cX2_makeTones 19 = .ok (.istore 5, 2) := by decide +kernel
theorem dX2_makeTones_21 : decode cX2_makeTones 21 = .ok (.iload 5, 2) := by decide +kernel
theorem dX2_makeTones_23 : decode cX2_makeTones 23 = .ok (.aload_n 0, 1) := by decide +kernel
theorem dX2_makeTones_24 : decode cX2_makeTones 24 = .ok (.getfield 25, 3) := by decide +kernel
theorem dX2_makeTones_27 : decode cX2_makeTones 27 = .ok (.if_icmp .ge 55, 3) := by decide +kernel
theorem dX2_makeTones_30 : decode cX2_makeTones 30 = .ok (.iload 5, 2) := by decide +kernel
theorem dX2_makeTones_32 : decode cX2_makeTones 32 = .ok (.iload_n 2, 1) := by decide +kernel
theorem dX2_makeTones_33 : decode cX2_makeTones 33 = .ok (.iand, 1) := by decide +kernel
theorem dX2_makeTones_34 : decode cX2_makeTones 34 = .ok (.invokestatic 72, 3) := by decide +kernel
theorem dX2_makeTones_37 : decode cX2_makeTones 37 = .ok (.iconst 1, 1) := by decide +kernel
theorem dX2_makeTones_38 : decode cX2_makeTones 38 = .ok (.iand, 1) := by decide +kernel
theorem dX2_makeTones_39 : decode cX2_makeTones 39 = .ok (.iconst 1, 1) := by decide +kernel
theorem dX2_makeTones_40 : decode cX2_makeTones 40 = .ok (.if_icmp .ne 7, 3) := by decide +kernel
theorem dX2_makeTones_43 : decode cX2_makeTones 43 = .ok (.iconst 1, 1) := by decide +kernel
theorem dX2_makeTones_44 : decode cX2_makeTones 44 = .ok (.goto 4, 3) := by decide +kernel
theorem dX2_makeTones_47 : decode cX2_makeTones 47 = .ok (.iconst 0, 1) := by decide +kernel
theorem dX2_makeTones_48 : decode cX2_makeTones 48 = .ok (.istore 6, 2) := by decide +kernel
theorem dX2_makeTones_50 : decode cX2_makeTones 50 = .ok (.lload_n 3, 1) := by decide +kernel
theorem dX2_makeTones_51 : decode cX2_makeTones 51 = .ok (.iload 6, 2) := by decide +kernel
theorem dX2_makeTones_53 : decode cX2_makeTones 53 = .ok (.ifCond .eq 14, 3) := by decide +kernel
theorem dX2_makeTones_56 : decode cX2_makeTones 56 = .ok (.aload_n 0, 1) := by decide +kernel
theorem dX2_makeTones_57 : decode cX2_makeTones 57 = .ok (.getfield 9, 3) := by decide +kernel
theorem dX2_makeTones_60 : decode cX2_makeTones 60 = .ok (.iload 5, 2) := by decide +kernel
theorem dX2_makeTones_62 : decode cX2_makeTones 62 = .ok (.laload, 1) := by decide +kernel
theorem dX2_makeTones_63 : decode cX2_makeTones 63 = .ok (.lneg, 1) := by decide +kernel
theorem dX2_makeTones_64 : decode cX2_makeTones 64 = .ok (.goto 10, 3) := by decide +kernel
theorem dX2_makeTones_67 : decode cX2_makeTones 67 = .ok (.aload_n 0, 1) := by decide +kernel
theorem dX2_makeTones_68 : decode cX2_makeTones 68 = .ok (.getfield 9, 3) := by decide +kernel
theorem dX2_makeTones_71 : decode cX2_makeTones 71 = .ok (.iload 5, 2) := by decide +kernel
theorem dX2_makeTones_73 : decode cX2_makeTones 73 = .ok (.laload, 1) := by decide +kernel
theorem dX2_makeTones_74 : decode cX2_makeTones 74 = .ok (.ladd, 1) := by decide +kernel
theorem dX2_makeTones_75 : decode cX2_makeTones 75 = .ok (.lstore_n 3, 1) := by decide +kernel
theorem dX2_makeTones_76 : decode cX2_makeTones 76 = .ok (.iinc 5 1, 3) := by decide +kernel
theorem dX2_makeTones_79 : decode cX2_makeTones 79 = .ok (.goto (-58), 3) := by decide +kernel
theorem dX2_makeTones_82 : decode cX2_makeTones 82 = .ok (.aload_n 0, 1) := by decide +kernel
theorem dX2_makeTones_83 : decode cX2_makeTones 83 = .ok (.getfield 15, 3) := by decide +kernel
theorem dX2_makeTones_86 : decode cX2_makeTones 86 = .ok (.iload_n 1, 1) := by decide +kernel
theorem dX2_makeTones_87 : decode cX2_makeTones 87 = .ok (.lload_n 3, 1) := by decide +kernel
theorem dX2_makeTones_88 : decode cX2_makeTones 88 = .ok (.lastore, 1) := by decide +kernel
theorem dX2_makeTones_89 : decode cX2_makeTones 89 = .ok (.iinc 1 1, 3) := by decide +kernel
theorem dX2_makeTones_92 : decode cX2_makeTones 92 = .ok (.goto (-90), 3) := by decide +kernel
theorem dX2_makeTones_95 : decode cX2_makeTones 95 = .ok (.return_, 1) := by decide +kernel
theorem dX2_toneMask_0 : decode cX2_toneMask 0 = .ok (.iload_n 1, 1) := by decide +kernel
theorem dX2_toneMask_1 : decode cX2_toneMask 1 = .ok (.iload_n 1, 1) := by decide +kernel
theorem dX2_toneMask_2 : decode cX2_toneMask 2 = .ok (.iconst 1, 1) := by decide +kernel
theorem dX2_toneMask_3 : decode cX2_toneMask 3 = .ok (.ishr, 1) := by decide +kernel
theorem dX2_toneMask_4 : decode cX2_toneMask 4 = .ok (.ixor, 1) := by decide +kernel
theorem dX2_toneMask_5 : decode cX2_toneMask 5 = .ok (.istore_n 2, 1) := by decide +kernel
theorem dX2_toneMask_6 : decode cX2_toneMask 6 = .ok (.iconst 0, 1) := by decide +kernel
theorem dX2_toneMask_7 : decode cX2_toneMask 7 = .ok (.istore_n 3, 1) := by decide +kernel
theorem dX2_toneMask_8 : decode cX2_toneMask 8 = .ok (.iconst 0, 1) := by decide +kernel
theorem dX2_toneMask_9 : decode cX2_toneMask 9 = .ok (.istore 4, 2) := by decide +kernel
theorem dX2_toneMask_11 : decode cX2_toneMask 11 = .ok (.iload 4, 2) := by decide +kernel
theorem dX2_toneMask_13 : decode cX2_toneMask 13 = .ok (.bipush 6, 2) := by decide +kernel
theorem dX2_toneMask_15 : decode cX2_toneMask 15 = .ok (.if_icmp .ge 31, 3) := by decide +kernel
theorem dX2_toneMask_18 : decode cX2_toneMask 18 = .ok (.iconst 1, 1) := by decide +kernel
theorem dX2_toneMask_19 : decode cX2_toneMask 19 = .ok (.iload 4, 2) := by decide +kernel
theorem dX2_toneMask_21 : decode cX2_toneMask 21 = .ok (.ishl, 1) := by decide +kernel
theorem dX2_toneMask_22 : decode cX2_toneMask 22 = .ok (.aload_n 0, 1) := by decide +kernel
theorem dX2_toneMask_23 : decode cX2_toneMask 23 = .ok (.getfield 25, 3) := by decide +kernel
theorem dX2_toneMask_26 : decode cX2_toneMask 26 = .ok (.if_icmp .ge 20, 3) := by decide +kernel
theorem dX2_toneMask_29 : decode cX2_toneMask 29 = .ok (.iload_n 3, 1) := by decide +kernel
theorem dX2_toneMask_30 : decode cX2_toneMask 30 = .ok (.iconst 1, 1) := by decide +kernel
theorem dX2_toneMask_31 : decode cX2_toneMask 31 = .ok (.ishl, 1) := by decide +kernel
theorem dX2_toneMask_32 : decode cX2_toneMask 32 = .ok (.iload_n 2, 1) := by decide +kernel
theorem dX2_toneMask_33 : decode cX2_toneMask 33 = .ok (.iload 4, 2) := by decide +kernel
theorem dX2_toneMask_35 : decode cX2_toneMask 35 = .ok (.ishr, 1) := by decide +kernel
theorem dX2_toneMask_36 : decode cX2_toneMask 36 = .ok (.iconst 1, 1) := by decide +kernel
theorem dX2_toneMask_37 : decode cX2_toneMask 37 = .ok (.iand, 1) := by decide +kernel
theorem dX2_toneMask_38 : decode cX2_toneMask 38 = .ok (.ior, 1) := by decide +kernel
theorem dX2_toneMask_39 : decode cX2_toneMask 39 = .ok (.istore_n 3, 1) := by decide +kernel
theorem dX2_toneMask_40 : decode cX2_toneMask 40 = .ok (.iinc 4 1, 3) := by decide +kernel
theorem dX2_toneMask_43 : decode cX2_toneMask 43 = .ok (.goto (-32), 3) := by decide +kernel
theorem dX2_toneMask_46 : decode cX2_toneMask 46 = .ok (.iload_n 3, 1) := by decide +kernel
theorem dX2_toneMask_47 : decode cX2_toneMask 47 = .ok (.ireturn, 1) := by decide +kernel
theorem dX2_sum_0 : decode cX2_sum 0 = .ok (.lconst 0, 1) := by decide +kernel
theorem dX2_sum_1 : decode cX2_sum 1 = .ok (.lstore_n 1, 1) := by decide +kernel
theorem dX2_sum_2 : decode cX2_sum 2 = .ok (.iconst 0, 1) := by decide +kernel
theorem dX2_sum_3 : decode cX2_sum 3 = .ok (.istore_n 3, 1) := by decide +kernel
theorem dX2_sum_4 : decode cX2_sum 4 = .ok (.iload_n 3, 1) := by decide +kernel
theorem dX2_sum_5 : decode cX2_sum 5 = .ok (.aload_n 0, 1) := by decide +kernel
theorem dX2_sum_6 : decode cX2_sum 6 = .ok (.getfield 25, 3) := by decide +kernel
theorem dX2_sum_9 : decode cX2_sum 9 = .ok (.if_icmp .ge 18, 3) := by decide +kernel
theorem dX2_sum_12 : decode cX2_sum 12 = .ok (.lload_n 1, 1) := by decide +kernel
theorem dX2_sum_13 : decode cX2_sum 13 = .ok (.aload_n 0, 1) := by decide +kernel
theorem dX2_sum_14 : decode cX2_sum 14 = .ok (.getfield 9, 3) := by decide +kernel
theorem dX2_sum_17 : decode cX2_sum 17 = .ok (.iload_n 3, 1) := by decide +kernel
theorem dX2_sum_18 : decode cX2_sum 18 = .ok (.laload, 1) := by decide +kernel
theorem dX2_sum_19 : decode cX2_sum 19 = .ok (.ladd, 1) := by decide +kernel
theorem dX2_sum_20 : decode cX2_sum 20 = .ok (.lstore_n 1, 1) := by decide +kernel
theorem dX2_sum_21 : decode cX2_sum 21 = .ok (.iinc 3 1, 3) := by decide +kernel
theorem dX2_sum_24 : decode cX2_sum 24 = .ok (.goto (-20), 3) := by decide +kernel
theorem dX2_sum_27 : decode cX2_sum 27 = .ok (.lload_n 1, 1) := by decide +kernel
theorem dX2_sum_28 : decode cX2_sum 28 = .ok (.lreturn, 1) := by decide +kernel
theorem dX2_becomeFresh_0 : decode cX2_becomeFresh 0 = .ok (.iconst 0, 1) := by decide +kernel
theorem dX2_becomeFresh_1 : decode cX2_becomeFresh 1 = .ok (.istore_n 1, 1) := by decide +kernel
theorem dX2_becomeFresh_2 : decode cX2_becomeFresh 2 = .ok (.iload_n 1, 1) := by decide +kernel
theorem dX2_becomeFresh_3 : decode cX2_becomeFresh 3 = .ok (.aload_n 0, 1) := by decide +kernel
theorem dX2_becomeFresh_4 : decode cX2_becomeFresh 4 = .ok (.getfield 25, 3) := by decide +kernel
theorem dX2_becomeFresh_7 : decode cX2_becomeFresh 7 = .ok (.if_icmp .ge 27, 3) := by decide +kernel
theorem dX2_becomeFresh_10 : decode cX2_becomeFresh 10 = .ok (.aload_n 0, 1) := by decide +kernel
theorem dX2_becomeFresh_11 : decode cX2_becomeFresh 11 = .ok (.getfield 15, 3) := by decide +kernel
theorem dX2_becomeFresh_14 : decode cX2_becomeFresh 14 = .ok (.iload_n 1, 1) := by decide +kernel
theorem dX2_becomeFresh_15 : decode cX2_becomeFresh 15 = .ok (.laload, 1) := by decide +kernel
theorem dX2_becomeFresh_16 : decode cX2_becomeFresh 16 = .ok (.ldc2_w 77, 3) := by decide +kernel
theorem dX2_becomeFresh_19 : decode cX2_becomeFresh 19 = .ok (.invokestatic 79, 3) := by decide +kernel
theorem dX2_becomeFresh_22 : decode cX2_becomeFresh 22 = .ok (.ifCond .ne 6, 3) := by decide +kernel
theorem dX2_becomeFresh_25 : decode cX2_becomeFresh 25 = .ok (.bipush (-16), 2) := by decide +kernel
theorem dX2_becomeFresh_27 : decode cX2_becomeFresh 27 = .ok (.ireturn, 1) := by decide +kernel
theorem dX2_becomeFresh_28 : decode cX2_becomeFresh 28 = .ok (.iinc 1 1, 3) := by decide +kernel
theorem dX2_becomeFresh_31 : decode cX2_becomeFresh 31 = .ok (.goto (-29), 3) := by decide +kernel
theorem dX2_becomeFresh_34 : decode cX2_becomeFresh 34 = .ok (.aload_n 0, 1) := by decide +kernel
theorem dX2_becomeFresh_35 : decode cX2_becomeFresh 35 = .ok (.getfield 15, 3) := by decide +kernel
theorem dX2_becomeFresh_38 : decode cX2_becomeFresh 38 = .ok (.iconst 0, 1) := by decide +kernel
theorem dX2_becomeFresh_39 : decode cX2_becomeFresh 39 = .ok (.aload_n 0, 1) := by decide +kernel
theorem dX2_becomeFresh_40 : decode cX2_becomeFresh 40 = .ok (.getfield 9, 3) := by decide +kernel
theorem dX2_becomeFresh_43 : decode cX2_becomeFresh 43 = .ok (.iconst 0, 1) := by decide +kernel
theorem dX2_becomeFresh_44 : decode cX2_becomeFresh 44 = .ok (.aload_n 0, 1) := by decide +kernel
theorem dX2_becomeFresh_45 : decode cX2_becomeFresh 45 = .ok (.getfield 25, 3) := by decide +kernel
theorem dX2_becomeFresh_48 : decode cX2_becomeFresh 48 = .ok (.invokestatic 83, 3) := by decide +kernel
theorem dX2_becomeFresh_51 : decode cX2_becomeFresh 51 = .ok (.aload_n 0, 1) := by decide +kernel
theorem dX2_becomeFresh_52 : decode cX2_becomeFresh 52 = .ok (.getfield 25, 3) := by decide +kernel
theorem dX2_becomeFresh_55 : decode cX2_becomeFresh 55 = .ok (.ireturn, 1) := by decide +kernel
theorem dX2_blend_0 : decode cX2_blend 0 = .ok (.iconst 0, 1) := by decide +kernel
theorem dX2_blend_1 : decode cX2_blend 1 = .ok (.istore 4, 2) := by decide +kernel
theorem dX2_blend_3 : decode cX2_blend 3 = .ok (.iload 4, 2) := by decide +kernel
theorem dX2_blend_5 : decode cX2_blend 5 = .ok (.aload_n 0, 1) := by decide +kernel
theorem dX2_blend_6 : decode cX2_blend 6 = .ok (.getfield 25, 3) := by decide +kernel
theorem dX2_blend_9 : decode cX2_blend 9 = .ok (.if_icmp .ge 37, 3) := by decide +kernel
theorem dX2_blend_12 : decode cX2_blend 12 = .ok (.aload_n 0, 1) := by decide +kernel
theorem dX2_blend_13 : decode cX2_blend 13 = .ok (.getfield 15, 3) := by decide +kernel
theorem dX2_blend_16 : decode cX2_blend 16 = .ok (.iload 4, 2) := by decide +kernel
theorem dX2_blend_18 : decode cX2_blend 18 = .ok (.iload_n 1, 1) := by decide +kernel
theorem dX2_blend_19 : decode cX2_blend 19 = .ok (.i2l, 1) := by decide +kernel
theorem dX2_blend_20 : decode cX2_blend 20 = .ok (.aload_n 0, 1) := by decide +kernel
theorem dX2_blend_21 : decode cX2_blend 21 = .ok (.getfield 9, 3) := by decide +kernel
theorem dX2_blend_24 : decode cX2_blend 24 = .ok (.iload 4, 2) := by decide +kernel
theorem dX2_blend_26 : decode cX2_blend 26 = .ok (.laload, 1) := by decide +kernel
theorem dX2_blend_27 : decode cX2_blend 27 = .ok (.lmul, 1) := by decide +kernel
theorem dX2_blend_28 : decode cX2_blend 28 = .ok (.iload_n 3, 1) := by decide +kernel
theorem dX2_blend_29 : decode cX2_blend 29 = .ok (.i2l, 1) := by decide +kernel
theorem dX2_blend_30 : decode cX2_blend 30 = .ok (.aload_n 2, 1) := by decide +kernel
theorem dX2_blend_31 : decode cX2_blend 31 = .ok (.getfield 9, 3) := by decide +kernel
theorem dX2_blend_34 : decode cX2_blend 34 = .ok (.iload 4, 2) := by decide +kernel
theorem dX2_blend_36 : decode cX2_blend 36 = .ok (.laload, 1) := by decide +kernel
theorem dX2_blend_37 : decode cX2_blend 37 = .ok (.lmul, 1) := by decide +kernel
theorem dX2_blend_38 : decode cX2_blend 38 = .ok (.ladd, 1) := by decide +kernel
theorem dX2_blend_39 : decode cX2_blend 39 = .ok (.lastore, 1) := by decide +kernel
theorem dX2_blend_40 : decode cX2_blend 40 = .ok (.iinc 4 1, 3) := by decide +kernel
theorem dX2_blend_43 : decode cX2_blend 43 = .ok (.goto (-40), 3) := by decide +kernel
theorem dX2_blend_46 : decode cX2_blend 46 = .ok (.aload_n 0, 1) := by decide +kernel
theorem dX2_blend_47 : decode cX2_blend 47 = .ok (.invokevirtual 60, 3) := by decide +kernel
theorem dX2_blend_50 : decode cX2_blend 50 = .ok (.ireturn, 1) := by decide +kernel
theorem dX2_anyExceeds_0 : decode cX2_anyExceeds 0 = .ok (.aload_n 0, 1) := by decide +kernel
theorem dX2_anyExceeds_1 : decode cX2_anyExceeds 1 = .ok (.lload_n 1, 1) := by decide +kernel
theorem dX2_anyExceeds_2 : decode cX2_anyExceeds 2 = .ok (.iconst 0, 1) := by decide +kernel
theorem dX2_anyExceeds_3 : decode cX2_anyExceeds 3 = .ok (.bipush 64, 2) := by decide +kernel
theorem dX2_anyExceeds_5 : decode cX2_anyExceeds 5 = .ok (.invokevirtual 89, 3) := by decide +kernel
theorem dX2_anyExceeds_8 : decode cX2_anyExceeds 8 = .ok (.ireturn, 1) := by decide +kernel
theorem dX2_exceeds_0 : decode cX2_exceeds 0 = .ok (.iload_n 3, 1) := by decide +kernel
theorem dX2_exceeds_1 : decode cX2_exceeds 1 = .ok (.istore 5, 2) := by decide +kernel
theorem dX2_exceeds_3 : decode cX2_exceeds 3 = .ok (.iload 5, 2) := by decide +kernel
theorem dX2_exceeds_5 : decode cX2_exceeds 5 = .ok (.aload_n 0, 1) := by decide +kernel
theorem dX2_exceeds_6 : decode cX2_exceeds 6 = .ok (.getfield 25, 3) := by decide +kernel
theorem dX2_exceeds_9 : decode cX2_exceeds 9 = .ok (.if_icmp .ge 32, 3) := by decide +kernel
theorem dX2_exceeds_12 : decode cX2_exceeds 12 = .ok (.iload 5, 2) := by decide +kernel
theorem dX2_exceeds_14 : decode cX2_exceeds 14 = .ok (.iload 4, 2) := by decide +kernel
theorem dX2_exceeds_16 : decode cX2_exceeds 16 = .ok (.if_icmp .gt 25, 3) := by decide +kernel
theorem dX2_exceeds_19 : decode cX2_exceeds 19 = .ok (.aload_n 0, 1) := by decide +kernel
theorem dX2_exceeds_20 : decode cX2_exceeds 20 = .ok (.getfield 9, 3) := by decide +kernel
theorem dX2_exceeds_23 : decode cX2_exceeds 23 = .ok (.iload 5, 2) := by decide +kernel
theorem dX2_exceeds_25 : decode cX2_exceeds 25 = .ok (.laload, 1) := by decide +kernel
theorem dX2_exceeds_26 : decode cX2_exceeds 26 = .ok (.lload_n 1, 1) := by decide +kernel
theorem dX2_exceeds_27 : decode cX2_exceeds 27 = .ok (.invokestatic 79, 3) := by decide +kernel
theorem dX2_exceeds_30 : decode cX2_exceeds 30 = .ok (.ifCond .ne 5, 3) := by decide +kernel
theorem dX2_exceeds_33 : decode cX2_exceeds 33 = .ok (.iconst 1, 1) := by decide +kernel
theorem dX2_exceeds_34 : decode cX2_exceeds 34 = .ok (.ireturn, 1) := by decide +kernel
theorem dX2_exceeds_35 : decode cX2_exceeds 35 = .ok (.iinc 5 1, 3) := by decide +kernel
theorem dX2_exceeds_38 : decode cX2_exceeds 38 = .ok (.goto (-35), 3) := by decide +kernel
theorem dX2_exceeds_41 : decode cX2_exceeds 41 = .ok (.iconst 0, 1) := by decide +kernel
theorem dX2_exceeds_42 : decode cX2_exceeds 42 = .ok (.ireturn, 1) := by decide +kernel
theorem dX2_squares_0 : decode cX2_squares 0 = .ok (.lconst 0, 1) := by decide +kernel
theorem dX2_squares_1 : decode cX2_squares 1 = .ok (.lstore_n 3, 1) := by decide +kernel
theorem dX2_squares_2 : decode cX2_squares 2 = .ok (.iload_n 1, 1) := by decide +kernel
theorem dX2_squares_3 : decode cX2_squares 3 = .ok (.istore 5, 2) := by decide +kernel
theorem dX2_squares_5 : decode cX2_squares 5 = .ok (.iload 5, 2) := by decide +kernel
theorem dX2_squares_7 : decode cX2_squares 7 = .ok (.aload_n 0, 1) := by decide +kernel
theorem dX2_squares_8 : decode cX2_squares 8 = .ok (.getfield 25, 3) := by decide +kernel
theorem dX2_squares_11 : decode cX2_squares 11 = .ok (.if_icmp .ge 33, 3) := by decide +kernel
theorem dX2_squares_14 : decode cX2_squares 14 = .ok (.iload 5, 2) := by decide +kernel
theorem dX2_squares_16 : decode cX2_squares 16 = .ok (.iload_n 2, 1) := by decide +kernel
theorem dX2_squares_17 : decode cX2_squares 17 = .ok (.if_icmp .gt 27, 3) := by decide +kernel
theorem dX2_squares_20 : decode cX2_squares 20 = .ok (.lload_n 3, 1) := by decide +kernel
theorem dX2_squares_21 : decode cX2_squares 21 = .ok (.aload_n 0, 1) := by decide +kernel
theorem dX2_squares_22 : decode cX2_squares 22 = .ok (.getfield 9, 3) := by decide +kernel
theorem dX2_squares_25 : decode cX2_squares 25 = .ok (.iload 5, 2) := by decide +kernel
theorem dX2_squares_27 : decode cX2_squares 27 = .ok (.laload, 1) := by decide +kernel
theorem dX2_squares_28 : decode cX2_squares 28 = .ok (.aload_n 0, 1) := by decide +kernel
theorem dX2_squares_29 : decode cX2_squares 29 = .ok (.getfield 9, 3) := by decide +kernel
theorem dX2_squares_32 : decode cX2_squares 32 = .ok (.iload 5, 2) := by decide +kernel
theorem dX2_squares_34 : decode cX2_squares 34 = .ok (.laload, 1) := by decide +kernel
theorem dX2_squares_35 : decode cX2_squares 35 = .ok (.lmul, 1) := by decide +kernel
theorem dX2_squares_36 : decode cX2_squares 36 = .ok (.ladd, 1) := by decide +kernel
theorem dX2_squares_37 : decode cX2_squares 37 = .ok (.lstore_n 3, 1) := by decide +kernel
theorem dX2_squares_38 : decode cX2_squares 38 = .ok (.iinc 5 1, 3) := by decide +kernel
theorem dX2_squares_41 : decode cX2_squares 41 = .ok (.goto (-36), 3) := by decide +kernel
theorem dX2_squares_44 : decode cX2_squares 44 = .ok (.lload_n 3, 1) := by decide +kernel
theorem dX2_squares_45 : decode cX2_squares 45 = .ok (.lreturn, 1) := by decide +kernel
theorem dX2_products_0 : decode cX2_products 0 = .ok (.lconst 0, 1) := by decide +kernel
theorem dX2_products_1 : decode cX2_products 1 = .ok (.lstore_n 2, 1) := by decide +kernel
theorem dX2_products_2 : decode cX2_products 2 = .ok (.iconst 0, 1) := by decide +kernel
theorem dX2_products_3 : decode cX2_products 3 = .ok (.istore 4, 2) := by decide +kernel
theorem dX2_products_5 : decode cX2_products 5 = .ok (.iload 4, 2) := by decide +kernel
theorem dX2_products_7 : decode cX2_products 7 = .ok (.aload_n 0, 1) := by decide +kernel
theorem dX2_products_8 : decode cX2_products 8 = .ok (.getfield 25, 3) := by decide +kernel
theorem dX2_products_11 : decode cX2_products 11 = .ok (.if_icmp .ge 27, 3) := by decide +kernel
theorem dX2_products_14 : decode cX2_products 14 = .ok (.lload_n 2, 1) := by decide +kernel
theorem dX2_products_15 : decode cX2_products 15 = .ok (.aload_n 0, 1) := by decide +kernel
theorem dX2_products_16 : decode cX2_products 16 = .ok (.getfield 9, 3) := by decide +kernel
theorem dX2_products_19 : decode cX2_products 19 = .ok (.iload 4, 2) := by decide +kernel
theorem dX2_products_21 : decode cX2_products 21 = .ok (.laload, 1) := by decide +kernel
theorem dX2_products_22 : decode cX2_products 22 = .ok (.aload_n 1, 1) := by decide +kernel
theorem dX2_products_23 : decode cX2_products 23 = .ok (.getfield 9, 3) := by decide +kernel
theorem dX2_products_26 : decode cX2_products 26 = .ok (.iload 4, 2) := by decide +kernel
theorem dX2_products_28 : decode cX2_products 28 = .ok (.laload, 1) := by decide +kernel
theorem dX2_products_29 : decode cX2_products 29 = .ok (.lmul, 1) := by decide +kernel
theorem dX2_products_30 : decode cX2_products 30 = .ok (.ladd, 1) := by decide +kernel
theorem dX2_products_31 : decode cX2_products 31 = .ok (.lstore_n 2, 1) := by decide +kernel
theorem dX2_products_32 : decode cX2_products 32 = .ok (.iinc 4 1, 3) := by decide +kernel
theorem dX2_products_35 : decode cX2_products 35 = .ok (.goto (-30), 3) := by decide +kernel
theorem dX2_products_38 : decode cX2_products 38 = .ok (.lload_n 2, 1) := by decide +kernel
theorem dX2_products_39 : decode cX2_products 39 = .ok (.lreturn, 1) := by decide +kernel
theorem dX3_init_0 : decode cX3_init 0 = .ok (.aload_n 0, 1) := by decide +kernel
theorem dX3_init_1 : decode cX3_init 1 = .ok (.invokespecial 3, 3) := by decide +kernel
theorem dX3_init_4 : decode cX3_init 4 = .ok (.aload_n 0, 1) := by decide +kernel
theorem dX3_init_5 : decode cX3_init 5 = .ok (.bipush 64, 2) := by decide +kernel
theorem dX3_init_7 : decode cX3_init 7 = .ok (.newarray .int, 2) := by decide +kernel
theorem dX3_init_9 : decode cX3_init 9 = .ok (.putfield 9, 3) := by decide +kernel
theorem dX3_init_12 : decode cX3_init 12 = .ok (.aload_n 0, 1) := by decide +kernel
theorem dX3_init_13 : decode cX3_init 13 = .ok (.bipush 64, 2) := by decide +kernel
theorem dX3_init_15 : decode cX3_init 15 = .ok (.newarray .int, 2) := by decide +kernel
theorem dX3_init_17 : decode cX3_init 17 = .ok (.putfield 15, 3) := by decide +kernel
theorem dX3_init_20 : decode cX3_init 20 = .ok (.aload_n 0, 1) := by decide +kernel
theorem dX3_init_21 : decode cX3_init 21 = .ok (.bipush 64, 2) := by decide +kernel
theorem dX3_init_23 : decode cX3_init 23 = .ok (.newarray .boolean, 2) := by decide +kernel
theorem dX3_init_25 : decode cX3_init 25 = .ok (.putfield 18, 3) := by decide +kernel
theorem dX3_init_28 : decode cX3_init 28 = .ok (.return_, 1) := by decide +kernel
theorem dX3_begin_0 : decode cX3_begin 0 = .ok (.aload_n 0, 1) := by decide +kernel
theorem dX3_begin_1 : decode cX3_begin 1 = .ok (.iconst 1, 1) := by decide +kernel
theorem dX3_begin_2 : decode cX3_begin 2 = .ok (.putfield 22, 3) := by decide +kernel
theorem dX3_begin_5 : decode cX3_begin 5 = .ok (.aload_n 0, 1) := by decide +kernel
theorem dX3_begin_6 : decode cX3_begin 6 = .ok (.iload_n 1, 1) := by decide +kernel
theorem dX3_begin_7 : decode cX3_begin 7 = .ok (.putfield 26, 3) := by decide +kernel
theorem dX3_begin_10 : decode cX3_begin 10 = .ok (.aload_n 0, 1) := by decide +kernel
theorem dX3_begin_11 : decode cX3_begin 11 = .ok (.iload_n 2, 1) := by decide +kernel
theorem dX3_begin_12 : decode cX3_begin 12 = .ok (.putfield 30, 3) := by decide +kernel
theorem dX3_begin_15 : decode cX3_begin 15 = .ok (.aload_n 0, 1) := by decide +kernel
theorem dX3_begin_16 : decode cX3_begin 16 = .ok (.getfield 9, 3) := by decide +kernel
theorem dX3_begin_19 : decode cX3_begin 19 = .ok (.iconst 0, 1) := by decide +kernel
theorem dX3_begin_20 : decode cX3_begin 20 = .ok (.invokestatic 33, 3) := by decide +kernel
theorem dX3_begin_23 : decode cX3_begin 23 = .ok (.aload_n 0, 1) := by decide +kernel
theorem dX3_begin_24 : decode cX3_begin 24 = .ok (.getfield 15, 3) := by decide +kernel
theorem dX3_begin_27 : decode cX3_begin 27 = .ok (.iconst 1, 1) := by decide +kernel
theorem dX3_begin_28 : decode cX3_begin 28 = .ok (.invokestatic 33, 3) := by decide +kernel
theorem dX3_begin_31 : decode cX3_begin 31 = .ok (.return_, 1) := by decide +kernel
theorem dX3_isThere_0 : decode cX3_isThere 0 = .ok (.aload_n 0, 1) := by decide +kernel
theorem dX3_isThere_1 : decode cX3_isThere 1 = .ok (.getfield 22, 3) := by decide +kernel
theorem dX3_isThere_4 : decode cX3_isThere 4 = .ok (.ireturn, 1) := by decide +kernel
theorem dX3_size_0 : decode cX3_size 0 = .ok (.aload_n 0, 1) := by decide +kernel
theorem dX3_size_1 : decode cX3_size 1 = .ok (.getfield 30, 3) := by decide +kernel
theorem dX3_size_4 : decode cX3_size 4 = .ok (.ireturn, 1) := by decide +kernel
theorem dX3_has_0 : decode cX3_has 0 = .ok (.iload_n 1, 1) := by decide +kernel
theorem dX3_has_1 : decode cX3_has 1 = .ok (.ifCond .lt 15, 3) := by decide +kernel
theorem dX3_has_4 : decode cX3_has 4 = .ok (.iload_n 1, 1) := by decide +kernel
theorem dX3_has_5 : decode cX3_has 5 = .ok (.aload_n 0, 1) := by decide +kernel
theorem dX3_has_6 : decode cX3_has 6 = .ok (.getfield 30, 3) := by decide +kernel
theorem dX3_has_9 : decode cX3_has 9 = .ok (.if_icmp .ge 7, 3) := by decide +kernel
theorem dX3_has_12 : decode cX3_has 12 = .ok (.iconst 1, 1) := by decide +kernel
theorem dX3_has_13 : decode cX3_has 13 = .ok (.goto 4, 3) := by decide +kernel
theorem dX3_has_16 : decode cX3_has 16 = .ok (.iconst 0, 1) := by decide +kernel
theorem dX3_has_17 : decode cX3_has 17 = .ok (.ireturn, 1) := by decide +kernel
theorem dX3_fits_0 : decode cX3_fits 0 = .ok (.aload_n 0, 1) := by decide +kernel
theorem dX3_fits_1 : decode cX3_fits 1 = .ok (.getfield 26, 3) := by decide +kernel
theorem dX3_fits_4 : decode cX3_fits 4 = .ok (.lookupswitch 66 #[(0, 28), (1, 46)], 28) := by decide +kernel
theorem dX3_fits_32 : decode cX3_fits 32 = .ok (.iload_n 1, 1) := by decide +kernel
theorem dX3_fits_33 : decode cX3_fits 33 = .ok (.bipush (-128), 2) := by decide +kernel
theorem dX3_fits_35 : decode cX3_fits 35 = .ok (.if_icmp .lt 13, 3) := by decide +kernel
theorem dX3_fits_38 : decode cX3_fits 38 = .ok (.iload_n 1, 1) := by decide +kernel
theorem dX3_fits_39 : decode cX3_fits 39 = .ok (.bipush 127, 2) := by decide +kernel
theorem dX3_fits_41 : decode cX3_fits 41 = .ok (.if_icmp .gt 7, 3) := by decide +kernel
theorem dX3_fits_44 : decode cX3_fits 44 = .ok (.iconst 1, 1) := by decide +kernel
theorem dX3_fits_45 : decode cX3_fits 45 = .ok (.goto 4, 3) := by decide +kernel
theorem dX3_fits_48 : decode cX3_fits 48 = .ok (.iconst 0, 1) := by decide +kernel
theorem dX3_fits_49 : decode cX3_fits 49 = .ok (.ireturn, 1) := by decide +kernel
theorem dX3_fits_50 : decode cX3_fits 50 = .ok (.iload_n 1, 1) := by decide +kernel
theorem dX3_fits_51 : decode cX3_fits 51 = .ok (.sipush (-32768), 3) := by decide +kernel
theorem dX3_fits_54 : decode cX3_fits 54 = .ok (.if_icmp .lt 14, 3) := by decide +kernel
theorem dX3_fits_57 : decode cX3_fits 57 = .ok (.iload_n 1, 1) := by decide +kernel
theorem dX3_fits_58 : decode cX3_fits 58 = .ok (.sipush 32767, 3) := by decide +kernel
theorem dX3_fits_61 : decode cX3_fits 61 = .ok (.if_icmp .gt 7, 3) := by decide +kernel
theorem dX3_fits_64 : decode cX3_fits 64 = .ok (.iconst 1, 1) := by decide +kernel
theorem dX3_fits_65 : decode cX3_fits 65 = .ok (.goto 4, 3) := by decide +kernel
theorem dX3_fits_68 : decode cX3_fits 68 = .ok (.iconst 0, 1) := by decide +kernel
theorem dX3_fits_69 : decode cX3_fits 69 = .ok (.ireturn, 1) := by decide +kernel
theorem dX3_fits_70 : decode cX3_fits 70 = .ok (.iconst 1, 1) := by decide +kernel
theorem dX3_fits_71 : decode cX3_fits 71 = .ok (.ireturn, 1) := by decide +kernel
theorem dX3_tell_0 : decode cX3_tell 0 = .ok (.aload_n 0, 1) := by decide +kernel
theorem dX3_tell_1 : decode cX3_tell 1 = .ok (.getfield 9, 3) := by decide +kernel
theorem dX3_tell_4 : decode cX3_tell 4 = .ok (.iload_n 1, 1) := by decide +kernel
theorem dX3_tell_5 : decode cX3_tell 5 = .ok (.iload_n 2, 1) := by decide +kernel
theorem dX3_tell_6 : decode cX3_tell 6 = .ok (.iastore, 1) := by decide +kernel
theorem dX3_tell_7 : decode cX3_tell 7 = .ok (.aload_n 0, 1) := by decide +kernel
theorem dX3_tell_8 : decode cX3_tell 8 = .ok (.getfield 15, 3) := by decide +kernel
theorem dX3_tell_11 : decode cX3_tell 11 = .ok (.iload_n 1, 1) := by decide +kernel
theorem dX3_tell_12 : decode cX3_tell 12 = .ok (.iconst 1, 1) := by decide +kernel
theorem dX3_tell_13 : decode cX3_tell 13 = .ok (.iastore, 1) := by decide +kernel
theorem dX3_tell_14 : decode cX3_tell 14 = .ok (.return_, 1) := by decide +kernel
theorem dX3_valueAt_0 : decode cX3_valueAt 0 = .ok (.aload_n 0, 1) := by decide +kernel
theorem dX3_valueAt_1 : decode cX3_valueAt 1 = .ok (.getfield 9, 3) := by decide +kernel
theorem dX3_valueAt_4 : decode cX3_valueAt 4 = .ok (.iload_n 1, 1) := by decide +kernel
theorem dX3_valueAt_5 : decode cX3_valueAt 5 = .ok (.iaload, 1) := by decide +kernel
theorem dX3_valueAt_6 : decode cX3_valueAt 6 = .ok (.ireturn, 1) := by decide +kernel
theorem dX3_lostSamples_0 : decode cX3_lostSamples 0 = .ok (.aload_n 0, 1) := by decide +kernel
theorem dX3_lostSamples_1 : decode cX3_lostSamples 1 = .ok (.iconst 0, 1) := by decide +kernel
theorem dX3_lostSamples_2 : decode cX3_lostSamples 2 = .ok (.invokevirtual 79, 3) := by decide +kernel
theorem dX3_lostSamples_5 : decode cX3_lostSamples 5 = .ok (.ireturn, 1) := by decide +kernel
theorem dX3_samplesThatStand_0 : decode cX3_samplesThatStand 0 = .ok (.iconst 0, 1) := by decide +kernel
theorem dX3_samplesThatStand_1 : decode cX3_samplesThatStand 1 = .ok (.istore_n 2, 1) := by decide +kernel
theorem dX3_samplesThatStand_2 : decode cX3_samplesThatStand 2 = .ok (.iconst 0, 1) := by decide +kernel
theorem dX3_samplesThatStand_3 : decode cX3_samplesThatStand 3 = .ok (.istore_n 3, 1) := by decide +kernel
theorem dX3_samplesThatStand_4 : decode cX3_samplesThatStand 4 = .ok (.iload_n 3, 1) := by decide +kernel
theorem dX3_samplesThatStand_5 : decode cX3_samplesThatStand 5 = .ok (.aload_n 0, 1) := by decide +kernel
theorem dX3_samplesThatStand_6 : decode cX3_samplesThatStand 6 = .ok (.getfield 30, 3) := by decide +kernel
theorem dX3_samplesThatStand_9 : decode cX3_samplesThatStand 9 = .ok (.if_icmp .ge 22, 3) := by decide +kernel
theorem dX3_samplesThatStand_12 : decode cX3_samplesThatStand 12 = .ok (.aload_n 0, 1) := by decide +kernel
theorem dX3_samplesThatStand_13 : decode cX3_samplesThatStand 13 = .ok (.getfield 15, 3) := by decide +kernel
theorem dX3_samplesThatStand_16 : decode cX3_samplesThatStand 16 = .ok (.iload_n 3, 1) := by decide +kernel
theorem dX3_samplesThatStand_17 : decode cX3_samplesThatStand 17 = .ok (.iaload, 1) := by decide +kernel
theorem dX3_samplesThatStand_18 : decode cX3_samplesThatStand 18 = .ok (.iload_n 1, 1) := by decide +kernel
theorem dX3_samplesThatStand_19 : decode cX3_samplesThatStand 19 = .ok (.if_icmp .ne 6, 3) := by decide +kernel
theorem dX3_samplesThatStand_22 : decode cX3_samplesThatStand 22 = .ok (.iinc 2 1, 3) := by decide +kernel
theorem dX3_samplesThatStand_25 : decode cX3_samplesThatStand 25 = .ok (.iinc 3 1, 3) := by decide +kernel
theorem dX3_samplesThatStand_28 : decode cX3_samplesThatStand 28 = .ok (.goto (-24), 3) := by decide +kernel
theorem dX3_samplesThatStand_31 : decode cX3_samplesThatStand 31 = .ok (.iload_n 2, 1) := by decide +kernel
theorem dX3_samplesThatStand_32 : decode cX3_samplesThatStand 32 = .ok (.ireturn, 1) := by decide +kernel
theorem dX4_init_0 : decode cX4_init 0 = .ok (.aload_n 0, 1) := by decide +kernel
theorem dX4_init_1 : decode cX4_init 1 = .ok (.invokespecial 1, 3) := by decide +kernel
theorem dX4_init_4 : decode cX4_init 4 = .ok (.aload_n 0, 1) := by decide +kernel
theorem dX4_init_5 : decode cX4_init 5 = .ok (.bipush 100, 2) := by decide +kernel
theorem dX4_init_7 : decode cX4_init 7 = .ok (.putfield 7, 3) := by decide +kernel
theorem dX4_init_10 : decode cX4_init 10 = .ok (.aload_n 0, 1) := by decide +kernel
theorem dX4_init_11 : decode cX4_init 11 = .ok (.bipush 50, 2) := by decide +kernel
theorem dX4_init_13 : decode cX4_init 13 = .ok (.putfield 13, 3) := by decide +kernel
theorem dX4_init_16 : decode cX4_init 16 = .ok (.return_, 1) := by decide +kernel
theorem dX5_init_0 : decode cX5_init 0 = .ok (.aload_n 0, 1) := by decide +kernel
theorem dX5_init_1 : decode cX5_init 1 = .ok (.invokespecial 1, 3) := by decide +kernel
theorem dX5_init_4 : decode cX5_init 4 = .ok (.aload_n 0, 1) := by decide +kernel
theorem dX5_init_5 : decode cX5_init 5 = .ok (.bipush 8, 2) := by decide +kernel
theorem dX5_init_7 : decode cX5_init 7 = .ok (.anewarray 9, 3) := by decide +kernel
theorem dX5_init_10 : decode cX5_init 10 = .ok (.putfield 11, 3) := by decide +kernel
theorem dX5_init_13 : decode cX5_init 13 = .ok (.iconst 0, 1) := by decide +kernel
theorem dX5_init_14 : decode cX5_init 14 = .ok (.istore_n 1, 1) := by decide +kernel
theorem dX5_init_15 : decode cX5_init 15 = .ok (.iload_n 1, 1) := by decide +kernel
theorem dX5_init_16 : decode cX5_init 16 = .ok (.bipush 8, 2) := by decide +kernel
theorem dX5_init_18 : decode cX5_init 18 = .ok (.if_icmp .ge 22, 3) := by decide +kernel
theorem dX5_init_21 : decode cX5_init 21 = .ok (.aload_n 0, 1) := by decide +kernel
theorem dX5_init_22 : decode cX5_init 22 = .ok (.getfield 11, 3) := by decide +kernel
theorem dX5_init_25 : decode cX5_init 25 = .ok (.iload_n 1, 1) := by decide +kernel
theorem dX5_init_26 : decode cX5_init 26 = .ok (.new 9, 3) := by decide +kernel
theorem dX5_init_29 : decode cX5_init 29 = .ok (.dup, 1) := by decide +kernel
theorem dX5_init_30 : decode cX5_init 30 = .ok (.invokespecial 15, 3) := by decide +kernel
theorem dX5_init_33 : decode cX5_init 33 = .ok (.aastore, 1) := by decide +kernel
theorem dX5_init_34 : decode cX5_init 34 = .ok (.iinc 1 1, 3) := by decide +kernel
theorem dX5_init_37 : decode cX5_init 37 = .ok (.goto (-22), 3) := by decide +kernel
theorem dX5_init_40 : decode cX5_init 40 = .ok (.aload_n 0, 1) := by decide +kernel
theorem dX5_init_41 : decode cX5_init 41 = .ok (.bipush 6, 2) := by decide +kernel
theorem dX5_init_43 : decode cX5_init 43 = .ok (.anewarray 16, 3) := by decide +kernel
theorem dX5_init_46 : decode cX5_init 46 = .ok (.putfield 18, 3) := by decide +kernel
theorem dX5_init_49 : decode cX5_init 49 = .ok (.iconst 0, 1) := by decide +kernel
theorem dX5_init_50 : decode cX5_init 50 = .ok (.istore_n 1, 1) := by decide +kernel
theorem dX5_init_51 : decode cX5_init 51 = .ok (.iload_n 1, 1) := by decide +kernel
theorem dX5_init_52 : decode cX5_init 52 = .ok (.bipush 6, 2) := by decide +kernel
theorem dX5_init_54 : decode cX5_init 54 = .ok (.if_icmp .ge 22, 3) := by decide +kernel
theorem dX5_init_57 : decode cX5_init 57 = .ok (.aload_n 0, 1) := by decide +kernel
theorem dX5_init_58 : decode cX5_init 58 = .ok (.getfield 18, 3) := by decide +kernel
theorem dX5_init_61 : decode cX5_init 61 = .ok (.iload_n 1, 1) := by decide +kernel
theorem dX5_init_62 : decode cX5_init 62 = .ok (.new 16, 3) := by decide +kernel
theorem dX5_init_65 : decode cX5_init 65 = .ok (.dup, 1) := by decide +kernel
theorem dX5_init_66 : decode cX5_init 66 = .ok (.invokespecial 22, 3) := by decide +kernel
theorem dX5_init_69 : decode cX5_init 69 = .ok (.aastore, 1) := by decide +kernel
theorem dX5_init_70 : decode cX5_init 70 = .ok (.iinc 1 1, 3) := by decide +kernel
theorem dX5_init_73 : decode cX5_init 73 = .ok (.goto (-22), 3) := by decide +kernel
theorem dX5_init_76 : decode cX5_init 76 = .ok (.aload_n 0, 1) := by decide +kernel
theorem dX5_init_77 : decode cX5_init 77 = .ok (.new 23, 3) := by decide +kernel
theorem dX5_init_80 : decode cX5_init 80 = .ok (.dup, 1) := by decide +kernel
theorem dX5_init_81 : decode cX5_init 81 = .ok (.invokespecial 25, 3) := by decide +kernel
theorem dX5_init_84 : decode cX5_init 84 = .ok (.putfield 26, 3) := by decide +kernel
theorem dX5_init_87 : decode cX5_init 87 = .ok (.aload_n 0, 1) := by decide +kernel
theorem dX5_init_88 : decode cX5_init 88 = .ok (.new 30, 3) := by decide +kernel
theorem dX5_init_91 : decode cX5_init 91 = .ok (.dup, 1) := by decide +kernel
theorem dX5_init_92 : decode cX5_init 92 = .ok (.invokespecial 32, 3) := by decide +kernel
theorem dX5_init_95 : decode cX5_init 95 = .ok (.putfield 33, 3) := by decide +kernel
theorem dX5_init_98 : decode cX5_init 98 = .ok (.aload_n 0, 1) := by decide +kernel
theorem dX5_init_99 : decode cX5_init 99 = .ok (.new 37, 3) := by decide +kernel
theorem dX5_init_102 : decode cX5_init 102 = .ok (.dup, 1) := by decide +kernel
theorem dX5_init_103 : decode cX5_init 103 = .ok (.invokespecial 39, 3) := by decide +kernel
theorem dX5_init_106 : decode cX5_init 106 = .ok (.putfield 40, 3) := by decide +kernel
theorem dX5_init_109 : decode cX5_init 109 = .ok (.return_, 1) := by decide +kernel
theorem dX5_sheet_0 : decode cX5_sheet 0 = .ok (.iload_n 1, 1) := by decide +kernel
theorem dX5_sheet_1 : decode cX5_sheet 1 = .ok (.invokestatic 44, 3) := by decide +kernel
theorem dX5_sheet_4 : decode cX5_sheet 4 = .ok (.ifCond .eq 18, 3) := by decide +kernel
theorem dX5_sheet_7 : decode cX5_sheet 7 = .ok (.iload_n 2, 1) := by decide +kernel
theorem dX5_sheet_8 : decode cX5_sheet 8 = .ok (.ifCond .lt 14, 3) := by decide +kernel
theorem dX5_sheet_11 : decode cX5_sheet 11 = .ok (.iload_n 2, 1) := by decide +kernel
theorem dX5_sheet_12 : decode cX5_sheet 12 = .ok (.iconst 2, 1) := by decide +kernel
theorem dX5_sheet_13 : decode cX5_sheet 13 = .ok (.if_icmp .gt 9, 3) := by decide +kernel
theorem dX5_sheet_16 : decode cX5_sheet 16 = .ok (.iload_n 3, 1) := by decide +kernel
theorem dX5_sheet_17 : decode cX5_sheet 17 = .ok (.bipush 64, 2) := by decide +kernel
theorem dX5_sheet_19 : decode cX5_sheet 19 = .ok (.if_icmp .le 6, 3) := by decide +kernel
theorem dX5_sheet_22 : decode cX5_sheet 22 = .ok (.bipush (-2), 2) := by decide +kernel
theorem dX5_sheet_24 : decode cX5_sheet 24 = .ok (.ireturn, 1) := by decide +kernel
theorem dX5_sheet_25 : decode cX5_sheet 25 = .ok (.iload_n 3, 1) := by decide +kernel
theorem dX5_sheet_26 : decode cX5_sheet 26 = .ok (.ifCond .ge 6, 3) := by decide +kernel
theorem dX5_sheet_29 : decode cX5_sheet 29 = .ok (.bipush (-12), 2) := by decide +kernel
theorem dX5_sheet_31 : decode cX5_sheet 31 = .ok (.ireturn, 1) := by decide +kernel
theorem dX5_sheet_32 : decode cX5_sheet 32 = .ok (.aload_n 0, 1) := by decide +kernel
theorem dX5_sheet_33 : decode cX5_sheet 33 = .ok (.getfield 11, 3) := by decide +kernel
theorem dX5_sheet_36 : decode cX5_sheet 36 = .ok (.iload_n 1, 1) := by decide +kernel
theorem dX5_sheet_37 : decode cX5_sheet 37 = .ok (.aaload, 1) := by decide +kernel
theorem dX5_sheet_38 : decode cX5_sheet 38 = .ok (.iload_n 2, 1) := by decide +kernel
theorem dX5_sheet_39 : decode cX5_sheet 39 = .ok (.iload_n 3, 1) := by decide +kernel
theorem dX5_sheet_40 : decode cX5_sheet 40 = .ok (.invokevirtual 48, 3) := by decide +kernel
theorem dX5_sheet_43 : decode cX5_sheet 43 = .ok (.iconst 1, 1) := by decide +kernel
theorem dX5_sheet_44 : decode cX5_sheet 44 = .ok (.ireturn, 1) := by decide +kernel
theorem dX5_put_0 : decode cX5_put 0 = .ok (.aload_n 0, 1) := by decide +kernel
theorem dX5_put_1 : decode cX5_put 1 = .ok (.iload_n 1, 1) := by decide +kernel
theorem dX5_put_2 : decode cX5_put 2 = .ok (.iload_n 2, 1) := by decide +kernel
theorem dX5_put_3 : decode cX5_put 3 = .ok (.invokevirtual 60, 3) := by decide +kernel
theorem dX5_put_6 : decode cX5_put 6 = .ok (.istore 4, 2) := by decide +kernel
theorem dX5_put_8 : decode cX5_put 8 = .ok (.iload 4, 2) := by decide +kernel
theorem dX5_put_10 : decode cX5_put 10 = .ok (.ifCond .eq 6, 3) := by decide +kernel
theorem dX5_put_13 : decode cX5_put 13 = .ok (.iload 4, 2) := by decide +kernel
theorem dX5_put_15 : decode cX5_put 15 = .ok (.ireturn, 1) := by decide +kernel
theorem dX5_put_16 : decode cX5_put 16 = .ok (.aload_n 0, 1) := by decide +kernel
theorem dX5_put_17 : decode cX5_put 17 = .ok (.getfield 11, 3) := by decide +kernel
theorem dX5_put_20 : decode cX5_put 20 = .ok (.iload_n 1, 1) := by decide +kernel
theorem dX5_put_21 : decode cX5_put 21 = .ok (.aaload, 1) := by decide +kernel
theorem dX5_put_22 : decode cX5_put 22 = .ok (.iload_n 3, 1) := by decide +kernel
theorem dX5_put_23 : decode cX5_put 23 = .ok (.invokevirtual 64, 3) := by decide +kernel
theorem dX5_put_26 : decode cX5_put 26 = .ok (.ifCond .ne 6, 3) := by decide +kernel
theorem dX5_put_29 : decode cX5_put 29 = .ok (.bipush (-14), 2) := by decide +kernel
theorem dX5_put_31 : decode cX5_put 31 = .ok (.ireturn, 1) := by decide +kernel
theorem dX5_put_32 : decode cX5_put 32 = .ok (.aload_n 0, 1) := by decide +kernel
theorem dX5_put_33 : decode cX5_put 33 = .ok (.getfield 11, 3) := by decide +kernel
theorem dX5_put_36 : decode cX5_put 36 = .ok (.iload_n 1, 1) := by decide +kernel
theorem dX5_put_37 : decode cX5_put 37 = .ok (.aaload, 1) := by decide +kernel
theorem dX5_put_38 : decode cX5_put 38 = .ok (.iload_n 2, 1) := by decide +kernel
theorem dX5_put_39 : decode cX5_put 39 = .ok (.iload_n 3, 1) := by decide +kernel
theorem dX5_put_40 : decode cX5_put 40 = .ok (.invokevirtual 67, 3) := by decide +kernel
theorem dX5_put_43 : decode cX5_put 43 = .ok (.iconst 1, 1) := by decide +kernel
theorem dX5_put_44 : decode cX5_put 44 = .ok (.ireturn, 1) := by decide +kernel
theorem dX5_raise_0 : decode cX5_raise 0 = .ok (.iload_n 1, 1) := by decide +kernel
theorem dX5_raise_1 : decode cX5_raise 1 = .ok (.invokestatic 44, 3) := by decide +kernel
theorem dX5_raise_4 : decode cX5_raise 4 = .ok (.ifCond .eq 10, 3) := by decide +kernel
theorem dX5_raise_7 : decode cX5_raise 7 = .ok (.iload_n 2, 1) := by decide +kernel
theorem dX5_raise_8 : decode cX5_raise 8 = .ok (.invokestatic 111, 3) := by decide +kernel
theorem dX5_raise_11 : decode cX5_raise 11 = .ok (.ifCond .ne 6, 3) := by decide +kernel
theorem dX5_raise_14 : decode cX5_raise 14 = .ok (.bipush (-2), 2) := by decide +kernel
theorem dX5_raise_16 : decode cX5_raise 16 = .ok (.ireturn, 1) := by decide +kernel
theorem dX5_raise_17 : decode cX5_raise 17 = .ok (.aload_n 0, 1) := by decide +kernel
theorem dX5_raise_18 : decode cX5_raise 18 = .ok (.getfield 11, 3) := by decide +kernel
theorem dX5_raise_21 : decode cX5_raise 21 = .ok (.iload_n 1, 1) := by decide +kernel
theorem dX5_raise_22 : decode cX5_raise 22 = .ok (.aaload, 1) := by decide +kernel
theorem dX5_raise_23 : decode cX5_raise 23 = .ok (.invokevirtual 87, 3) := by decide +kernel
theorem dX5_raise_26 : decode cX5_raise 26 = .ok (.ifCond .ne 6, 3) := by decide +kernel
theorem dX5_raise_29 : decode cX5_raise 29 = .ok (.bipush (-10), 2) := by decide +kernel
theorem dX5_raise_31 : decode cX5_raise 31 = .ok (.ireturn, 1) := by decide +kernel
theorem dX5_raise_32 : decode cX5_raise 32 = .ok (.aload_n 0, 1) := by decide +kernel
theorem dX5_raise_33 : decode cX5_raise 33 = .ok (.getfield 11, 3) := by decide +kernel
theorem dX5_raise_36 : decode cX5_raise 36 = .ok (.iload_n 1, 1) := by decide +kernel
theorem dX5_raise_37 : decode cX5_raise 37 = .ok (.aaload, 1) := by decide +kernel
theorem dX5_raise_38 : decode cX5_raise 38 = .ok (.invokevirtual 114, 3) := by decide +kernel
theorem dX5_raise_41 : decode cX5_raise 41 = .ok (.ifCond .le 6, 3) := by decide +kernel
theorem dX5_raise_44 : decode cX5_raise 44 = .ok (.bipush (-15), 2) := by decide +kernel
theorem dX5_raise_46 : decode cX5_raise 46 = .ok (.ireturn, 1) := by decide +kernel
theorem dX5_raise_47 : decode cX5_raise 47 = .ok (.aload_n 0, 1) := by decide +kernel
theorem dX5_raise_48 : decode cX5_raise 48 = .ok (.getfield 18, 3) := by decide +kernel
theorem dX5_raise_51 : decode cX5_raise 51 = .ok (.iload_n 2, 1) := by decide +kernel
theorem dX5_raise_52 : decode cX5_raise 52 = .ok (.aaload, 1) := by decide +kernel
theorem dX5_raise_53 : decode cX5_raise 53 = .ok (.aload_n 0, 1) := by decide +kernel
theorem dX5_raise_54 : decode cX5_raise 54 = .ok (.getfield 11, 3) := by decide +kernel
theorem dX5_raise_57 : decode cX5_raise 57 = .ok (.iload_n 1, 1) := by decide +kernel
theorem dX5_raise_58 : decode cX5_raise 58 = .ok (.aaload, 1) := by decide +kernel
theorem dX5_raise_59 : decode cX5_raise 59 = .ok (.invokevirtual 117, 3) := by decide +kernel
theorem dX5_raise_62 : decode cX5_raise 62 = .ok (.aload_n 0, 1) := by decide +kernel
theorem dX5_raise_63 : decode cX5_raise 63 = .ok (.getfield 18, 3) := by decide +kernel
theorem dX5_raise_66 : decode cX5_raise 66 = .ok (.iload_n 2, 1) := by decide +kernel
theorem dX5_raise_67 : decode cX5_raise 67 = .ok (.aaload, 1) := by decide +kernel
theorem dX5_raise_68 : decode cX5_raise 68 = .ok (.invokevirtual 120, 3) := by decide +kernel
theorem dX5_raise_71 : decode cX5_raise 71 = .ok (.ireturn, 1) := by decide +kernel
theorem dX5_number_0 : decode cX5_number 0 = .ok (.iload_n 1, 1) := by decide +kernel
theorem dX5_number_1 : decode cX5_number 1 = .ok (.invokestatic 111, 3) := by decide +kernel
theorem dX5_number_4 : decode cX5_number 4 = .ok (.ifCond .ne 7, 3) := by decide +kernel
theorem dX5_number_7 : decode cX5_number 7 = .ok (.ldc2_w 123, 3) := by decide +kernel
theorem dX5_number_10 : decode cX5_number 10 = .ok (.lreturn, 1) := by decide +kernel
theorem dX5_number_11 : decode cX5_number 11 = .ok (.iload_n 2, 1) := by decide +kernel
theorem dX5_number_12 : decode cX5_number 12 = .ok (.ifCond .lt 16, 3) := by decide +kernel
theorem dX5_number_15 : decode cX5_number 15 = .ok (.iload_n 2, 1) := by decide +kernel
theorem dX5_number_16 : decode cX5_number 16 = .ok (.aload_n 0, 1) := by decide +kernel
theorem dX5_number_17 : decode cX5_number 17 = .ok (.getfield 18, 3) := by decide +kernel
theorem dX5_number_20 : decode cX5_number 20 = .ok (.iload_n 1, 1) := by decide +kernel
theorem dX5_number_21 : decode cX5_number 21 = .ok (.aaload, 1) := by decide +kernel
theorem dX5_number_22 : decode cX5_number 22 = .ok (.invokevirtual 120, 3) := by decide +kernel
theorem dX5_number_25 : decode cX5_number 25 = .ok (.if_icmp .lt 7, 3) := by decide +kernel
theorem dX5_number_28 : decode cX5_number 28 = .ok (.ldc2_w 125, 3) := by decide +kernel
theorem dX5_number_31 : decode cX5_number 31 = .ok (.lreturn, 1) := by decide +kernel
theorem dX5_number_32 : decode cX5_number 32 = .ok (.aload_n 0, 1) := by decide +kernel
theorem dX5_number_33 : decode cX5_number 33 = .ok (.getfield 18, 3) := by decide +kernel
theorem dX5_number_36 : decode cX5_number 36 = .ok (.iload_n 1, 1) := by decide +kernel
theorem dX5_number_37 : decode cX5_number 37 = .ok (.aaload, 1) := by decide +kernel
theorem dX5_number_38 : decode cX5_number 38 = .ok (.iload_n 2, 1) := by decide +kernel
theorem dX5_number_39 : decode cX5_number 39 = .ok (.invokevirtual 127, 3) := by decide +kernel
theorem dX5_number_42 : decode cX5_number 42 = .ok (.lreturn, 1) := by decide +kernel
theorem dX5_turn_0 : decode cX5_turn 0 = .ok (.iload_n 1, 1) := by decide +kernel
theorem dX5_turn_1 : decode cX5_turn 1 = .ok (.invokestatic 111, 3) := by decide +kernel
theorem dX5_turn_4 : decode cX5_turn 4 = .ok (.ifCond .eq 12, 3) := by decide +kernel
theorem dX5_turn_7 : decode cX5_turn 7 = .ok (.iload_n 2, 1) := by decide +kernel
theorem dX5_turn_8 : decode cX5_turn 8 = .ok (.ifCond .lt 8, 3) := by decide +kernel
theorem dX5_turn_11 : decode cX5_turn 11 = .ok (.iload_n 2, 1) := by decide +kernel
theorem dX5_turn_12 : decode cX5_turn 12 = .ok (.iconst 4, 1) := by decide +kernel
theorem dX5_turn_13 : decode cX5_turn 13 = .ok (.if_icmp .lt 6, 3) := by decide +kernel
theorem dX5_turn_16 : decode cX5_turn 16 = .ok (.bipush (-2), 2) := by decide +kernel
theorem dX5_turn_18 : decode cX5_turn 18 = .ok (.ireturn, 1) := by decide +kernel
theorem dX5_turn_19 : decode cX5_turn 19 = .ok (.aload_n 0, 1) := by decide +kernel
theorem dX5_turn_20 : decode cX5_turn 20 = .ok (.getfield 18, 3) := by decide +kernel
theorem dX5_turn_23 : decode cX5_turn 23 = .ok (.iload_n 1, 1) := by decide +kernel
theorem dX5_turn_24 : decode cX5_turn 24 = .ok (.aaload, 1) := by decide +kernel
theorem dX5_turn_25 : decode cX5_turn 25 = .ok (.iload_n 2, 1) := by decide +kernel
theorem dX5_turn_26 : decode cX5_turn 26 = .ok (.invokevirtual 130, 3) := by decide +kernel
theorem dX5_turn_29 : decode cX5_turn 29 = .ok (.ireturn, 1) := by decide +kernel
theorem dX5_mix_0 : decode cX5_mix 0 = .ok (.iload_n 1, 1) := by decide +kernel
theorem dX5_mix_1 : decode cX5_mix 1 = .ok (.invokestatic 111, 3) := by decide +kernel
theorem dX5_mix_4 : decode cX5_mix 4 = .ok (.ifCond .eq 33, 3) := by decide +kernel
theorem dX5_mix_7 : decode cX5_mix 7 = .ok (.iload_n 3, 1) := by decide +kernel
theorem dX5_mix_8 : decode cX5_mix 8 = .ok (.invokestatic 111, 3) := by decide +kernel
theorem dX5_mix_11 : decode cX5_mix 11 = .ok (.ifCond .eq 26, 3) := by decide +kernel
theorem dX5_mix_14 : decode cX5_mix 14 = .ok (.iload_n 2, 1) := by decide +kernel
theorem dX5_mix_15 : decode cX5_mix 15 = .ok (.i2l, 1) := by decide +kernel
theorem dX5_mix_16 : decode cX5_mix 16 = .ok (.ldc2_w 140, 3) := by decide +kernel
theorem dX5_mix_19 : decode cX5_mix 19 = .ok (.invokestatic 142, 3) := by decide +kernel
theorem dX5_mix_22 : decode cX5_mix 22 = .ok (.ifCond .eq 15, 3) := by decide +kernel
theorem dX5_mix_25 : decode cX5_mix 25 = .ok (.iload 4, 2) := by decide +kernel
theorem dX5_mix_27 : decode cX5_mix 27 = .ok (.i2l, 1) := by decide +kernel
theorem dX5_mix_28 : decode cX5_mix 28 = .ok (.ldc2_w 140, 3) := by decide +kernel
theorem dX5_mix_31 : decode cX5_mix 31 = .ok (.invokestatic 142, 3) := by decide +kernel
theorem dX5_mix_34 : decode cX5_mix 34 = .ok (.ifCond .ne 6, 3) := by decide +kernel
theorem dX5_mix_37 : decode cX5_mix 37 = .ok (.bipush (-2), 2) := by decide +kernel
theorem dX5_mix_39 : decode cX5_mix 39 = .ok (.ireturn, 1) := by decide +kernel
theorem dX5_mix_40 : decode cX5_mix 40 = .ok (.aload_n 0, 1) := by decide +kernel
theorem dX5_mix_41 : decode cX5_mix 41 = .ok (.getfield 18, 3) := by decide +kernel
theorem dX5_mix_44 : decode cX5_mix 44 = .ok (.iload_n 1, 1) := by decide +kernel
theorem dX5_mix_45 : decode cX5_mix 45 = .ok (.aaload, 1) := by decide +kernel
theorem dX5_mix_46 : decode cX5_mix 46 = .ok (.invokevirtual 120, 3) := by decide +kernel
theorem dX5_mix_49 : decode cX5_mix 49 = .ok (.aload_n 0, 1) := by decide +kernel
theorem dX5_mix_50 : decode cX5_mix 50 = .ok (.getfield 18, 3) := by decide +kernel
theorem dX5_mix_53 : decode cX5_mix 53 = .ok (.iload_n 3, 1) := by decide +kernel
theorem dX5_mix_54 : decode cX5_mix 54 = .ok (.aaload, 1) := by decide +kernel
theorem dX5_mix_55 : decode cX5_mix 55 = .ok (.invokevirtual 120, 3) := by decide +kernel
theorem dX5_mix_58 : decode cX5_mix 58 = .ok (.if_icmp .eq 6, 3) := by decide +kernel
theorem dX5_mix_61 : decode cX5_mix 61 = .ok (.bipush (-3), 2) := by decide +kernel
theorem dX5_mix_63 : decode cX5_mix 63 = .ok (.ireturn, 1) := by decide +kernel
theorem dX5_mix_64 : decode cX5_mix 64 = .ok (.aload_n 0, 1) := by decide +kernel
theorem dX5_mix_65 : decode cX5_mix 65 = .ok (.getfield 18, 3) := by decide +kernel
theorem dX5_mix_68 : decode cX5_mix 68 = .ok (.iload_n 1, 1) := by decide +kernel
theorem dX5_mix_69 : decode cX5_mix 69 = .ok (.aaload, 1) := by decide +kernel
theorem dX5_mix_70 : decode cX5_mix 70 = .ok (.iload_n 2, 1) := by decide +kernel
theorem dX5_mix_71 : decode cX5_mix 71 = .ok (.aload_n 0, 1) := by decide +kernel
theorem dX5_mix_72 : decode cX5_mix 72 = .ok (.getfield 18, 3) := by decide +kernel
theorem dX5_mix_75 : decode cX5_mix 75 = .ok (.iload_n 3, 1) := by decide +kernel
theorem dX5_mix_76 : decode cX5_mix 76 = .ok (.aaload, 1) := by decide +kernel
theorem dX5_mix_77 : decode cX5_mix 77 = .ok (.iload 4, 2) := by decide +kernel
theorem dX5_mix_79 : decode cX5_mix 79 = .ok (.invokevirtual 146, 3) := by decide +kernel
theorem dX5_mix_82 : decode cX5_mix 82 = .ok (.ireturn, 1) := by decide +kernel
theorem dX5_force_0 : decode cX5_force 0 = .ok (.iload_n 1, 1) := by decide +kernel
theorem dX5_force_1 : decode cX5_force 1 = .ok (.iload_n 2, 1) := by decide +kernel
theorem dX5_force_2 : decode cX5_force 2 = .ok (.iload_n 3, 1) := by decide +kernel
theorem dX5_force_3 : decode cX5_force 3 = .ok (.invokestatic 133, 3) := by decide +kernel
theorem dX5_force_6 : decode cX5_force 6 = .ok (.ifCond .ne 7, 3) := by decide +kernel
theorem dX5_force_9 : decode cX5_force 9 = .ok (.ldc2_w 123, 3) := by decide +kernel
theorem dX5_force_12 : decode cX5_force 12 = .ok (.lreturn, 1) := by decide +kernel
theorem dX5_force_13 : decode cX5_force 13 = .ok (.aload_n 0, 1) := by decide +kernel
theorem dX5_force_14 : decode cX5_force 14 = .ok (.getfield 18, 3) := by decide +kernel
theorem dX5_force_17 : decode cX5_force 17 = .ok (.iload_n 1, 1) := by decide +kernel
theorem dX5_force_18 : decode cX5_force 18 = .ok (.aaload, 1) := by decide +kernel
theorem dX5_force_19 : decode cX5_force 19 = .ok (.ldc2_w 150, 3) := by decide +kernel
theorem dX5_force_22 : decode cX5_force 22 = .ok (.iload_n 2, 1) := by decide +kernel
theorem dX5_force_23 : decode cX5_force 23 = .ok (.iload_n 3, 1) := by decide +kernel
theorem dX5_force_24 : decode cX5_force 24 = .ok (.invokevirtual 152, 3) := by decide +kernel
theorem dX5_force_27 : decode cX5_force 27 = .ok (.ifCond .eq 7, 3) := by decide +kernel
theorem dX5_force_30 : decode cX5_force 30 = .ok (.ldc2_w 156, 3) := by decide +kernel
theorem dX5_force_33 : decode cX5_force 33 = .ok (.lreturn, 1) := by decide +kernel
theorem dX5_force_34 : decode cX5_force 34 = .ok (.aload_n 0, 1) := by decide +kernel
theorem dX5_force_35 : decode cX5_force 35 = .ok (.getfield 18, 3) := by decide +kernel
theorem dX5_force_38 : decode cX5_force 38 = .ok (.iload_n 1, 1) := by decide +kernel
theorem dX5_force_39 : decode cX5_force 39 = .ok (.aaload, 1) := by decide +kernel
theorem dX5_force_40 : decode cX5_force 40 = .ok (.iload_n 2, 1) := by decide +kernel
theorem dX5_force_41 : decode cX5_force 41 = .ok (.iload_n 3, 1) := by decide +kernel
theorem dX5_force_42 : decode cX5_force 42 = .ok (.invokevirtual 158, 3) := by decide +kernel
theorem dX5_force_45 : decode cX5_force 45 = .ok (.lreturn, 1) := by decide +kernel
theorem dX5_cross_0 : decode cX5_cross 0 = .ok (.iload_n 1, 1) := by decide +kernel
theorem dX5_cross_1 : decode cX5_cross 1 = .ok (.invokestatic 111, 3) := by decide +kernel
theorem dX5_cross_4 : decode cX5_cross 4 = .ok (.ifCond .eq 10, 3) := by decide +kernel
theorem dX5_cross_7 : decode cX5_cross 7 = .ok (.iload_n 2, 1) := by decide +kernel
theorem dX5_cross_8 : decode cX5_cross 8 = .ok (.invokestatic 111, 3) := by decide +kernel
theorem dX5_cross_11 : decode cX5_cross 11 = .ok (.ifCond .ne 7, 3) := by decide +kernel
theorem dX5_cross_14 : decode cX5_cross 14 = .ok (.ldc2_w 123, 3) := by decide +kernel
theorem dX5_cross_17 : decode cX5_cross 17 = .ok (.lreturn, 1) := by decide +kernel
theorem dX5_cross_18 : decode cX5_cross 18 = .ok (.aload_n 0, 1) := by decide +kernel
theorem dX5_cross_19 : decode cX5_cross 19 = .ok (.getfield 18, 3) := by decide +kernel
theorem dX5_cross_22 : decode cX5_cross 22 = .ok (.iload_n 1, 1) := by decide +kernel
theorem dX5_cross_23 : decode cX5_cross 23 = .ok (.aaload, 1) := by decide +kernel
theorem dX5_cross_24 : decode cX5_cross 24 = .ok (.invokevirtual 120, 3) := by decide +kernel
theorem dX5_cross_27 : decode cX5_cross 27 = .ok (.aload_n 0, 1) := by decide +kernel
theorem dX5_cross_28 : decode cX5_cross 28 = .ok (.getfield 18, 3) := by decide +kernel
theorem dX5_cross_31 : decode cX5_cross 31 = .ok (.iload_n 2, 1) := by decide +kernel
theorem dX5_cross_32 : decode cX5_cross 32 = .ok (.aaload, 1) := by decide +kernel
theorem dX5_cross_33 : decode cX5_cross 33 = .ok (.invokevirtual 120, 3) := by decide +kernel
theorem dX5_cross_36 : decode cX5_cross 36 = .ok (.if_icmp .eq 7, 3) := by decide +kernel
theorem dX5_cross_39 : decode cX5_cross 39 = .ok (.ldc2_w 162, 3) := by decide +kernel
theorem dX5_cross_42 : decode cX5_cross 42 = .ok (.lreturn, 1) := by decide +kernel
theorem dX5_cross_43 : decode cX5_cross 43 = .ok (.aload_n 0, 1) := by decide +kernel
theorem dX5_cross_44 : decode cX5_cross 44 = .ok (.getfield 18, 3) := by decide +kernel
theorem dX5_cross_47 : decode cX5_cross 47 = .ok (.iload_n 1, 1) := by decide +kernel
theorem dX5_cross_48 : decode cX5_cross 48 = .ok (.aaload, 1) := by decide +kernel
theorem dX5_cross_49 : decode cX5_cross 49 = .ok (.ldc2_w 150, 3) := by decide +kernel
theorem dX5_cross_52 : decode cX5_cross 52 = .ok (.invokevirtual 164, 3) := by decide +kernel
theorem dX5_cross_55 : decode cX5_cross 55 = .ok (.ifCond .ne 18, 3) := by decide +kernel
theorem dX5_cross_58 : decode cX5_cross 58 = .ok (.aload_n 0, 1) := by decide +kernel
theorem dX5_cross_59 : decode cX5_cross 59 = .ok (.getfield 18, 3) := by decide +kernel
theorem dX5_cross_62 : decode cX5_cross 62 = .ok (.iload_n 2, 1) := by decide +kernel
theorem dX5_cross_63 : decode cX5_cross 63 = .ok (.aaload, 1) := by decide +kernel
theorem dX5_cross_64 : decode cX5_cross 64 = .ok (.ldc2_w 150, 3) := by decide +kernel
theorem dX5_cross_67 : decode cX5_cross 67 = .ok (.invokevirtual 164, 3) := by decide +kernel
theorem dX5_cross_70 : decode cX5_cross 70 = .ok (.ifCond .eq 7, 3) := by decide +kernel
theorem dX5_cross_73 : decode cX5_cross 73 = .ok (.ldc2_w 156, 3) := by decide +kernel
theorem dX5_cross_76 : decode cX5_cross 76 = .ok (.lreturn, 1) := by decide +kernel
theorem dX5_cross_77 : decode cX5_cross 77 = .ok (.aload_n 0, 1) := by decide +kernel
theorem dX5_cross_78 : decode cX5_cross 78 = .ok (.getfield 18, 3) := by decide +kernel
theorem dX5_cross_81 : decode cX5_cross 81 = .ok (.iload_n 1, 1) := by decide +kernel
theorem dX5_cross_82 : decode cX5_cross 82 = .ok (.aaload, 1) := by decide +kernel
theorem dX5_cross_83 : decode cX5_cross 83 = .ok (.aload_n 0, 1) := by decide +kernel
theorem dX5_cross_84 : decode cX5_cross 84 = .ok (.getfield 18, 3) := by decide +kernel
theorem dX5_cross_87 : decode cX5_cross 87 = .ok (.iload_n 2, 1) := by decide +kernel
theorem dX5_cross_88 : decode cX5_cross 88 = .ok (.aaload, 1) := by decide +kernel
theorem dX5_cross_89 : decode cX5_cross 89 = .ok (.invokevirtual 168, 3) := by decide +kernel
theorem dX5_cross_92 : decode cX5_cross 92 = .ok (.lreturn, 1) := by decide +kernel
theorem dX5_isSheet_0 : decode cX5_isSheet 0 = .ok (.iload_n 0, 1) := by decide +kernel
theorem dX5_isSheet_1 : decode cX5_isSheet 1 = .ok (.ifCond .lt 13, 3) := by decide +kernel
theorem dX5_isSheet_4 : decode cX5_isSheet 4 = .ok (.iload_n 0, 1) := by decide +kernel
theorem dX5_isSheet_5 : decode cX5_isSheet 5 = .ok (.bipush 8, 2) := by decide +kernel
theorem dX5_isSheet_7 : decode cX5_isSheet 7 = .ok (.if_icmp .ge 7, 3) := by decide +kernel
theorem dX5_isSheet_10 : decode cX5_isSheet 10 = .ok (.iconst 1, 1) := by decide +kernel
theorem dX5_isSheet_11 : decode cX5_isSheet 11 = .ok (.goto 4, 3) := by decide +kernel
theorem dX5_isSheet_14 : decode cX5_isSheet 14 = .ok (.iconst 0, 1) := by decide +kernel
theorem dX5_isSheet_15 : decode cX5_isSheet 15 = .ok (.ireturn, 1) := by decide +kernel
theorem dX5_isRow_0 : decode cX5_isRow 0 = .ok (.iload_n 0, 1) := by decide +kernel
theorem dX5_isRow_1 : decode cX5_isRow 1 = .ok (.ifCond .lt 13, 3) := by decide +kernel
theorem dX5_isRow_4 : decode cX5_isRow 4 = .ok (.iload_n 0, 1) := by decide +kernel
theorem dX5_isRow_5 : decode cX5_isRow 5 = .ok (.bipush 6, 2) := by decide +kernel
theorem dX5_isRow_7 : decode cX5_isRow 7 = .ok (.if_icmp .ge 7, 3) := by decide +kernel
theorem dX5_isRow_10 : decode cX5_isRow 10 = .ok (.iconst 1, 1) := by decide +kernel
theorem dX5_isRow_11 : decode cX5_isRow 11 = .ok (.goto 4, 3) := by decide +kernel
theorem dX5_isRow_14 : decode cX5_isRow 14 = .ok (.iconst 0, 1) := by decide +kernel
theorem dX5_isRow_15 : decode cX5_isRow 15 = .ok (.ireturn, 1) := by decide +kernel
theorem dX5_isStretch_0 : decode cX5_isStretch 0 = .ok (.iload_n 0, 1) := by decide +kernel
theorem dX5_isStretch_1 : decode cX5_isStretch 1 = .ok (.invokestatic 111, 3) := by decide +kernel
theorem dX5_isStretch_4 : decode cX5_isStretch 4 = .ok (.ifCond .eq 16, 3) := by decide +kernel
theorem dX5_isStretch_7 : decode cX5_isStretch 7 = .ok (.iload_n 1, 1) := by decide +kernel
theorem dX5_isStretch_8 : decode cX5_isStretch 8 = .ok (.ifCond .lt 12, 3) := by decide +kernel
theorem dX5_isStretch_11 : decode cX5_isStretch 11 = .ok (.iload_n 2, 1) := by decide +kernel
theorem dX5_isStretch_12 : decode cX5_isStretch 12 = .ok (.iload_n 1, 1) := by decide +kernel
theorem dX5_isStretch_13 : decode cX5_isStretch 13 = .ok (.if_icmp .lt 7, 3) := by decide +kernel
theorem dX5_isStretch_16 : decode cX5_isStretch 16 = .ok (.iconst 1, 1) := by decide +kernel
theorem dX5_isStretch_17 : decode cX5_isStretch 17 = .ok (.goto 4, 3) := by decide +kernel
theorem dX5_isStretch_20 : decode cX5_isStretch 20 = .ok (.iconst 0, 1) := by decide +kernel
theorem dX5_isStretch_21 : decode cX5_isStretch 21 = .ok (.ireturn, 1) := by decide +kernel
theorem dX5_isWithin_0 : decode cX5_isWithin 0 = .ok (.lload_n 0, 1) := by decide +kernel
theorem dX5_isWithin_1 : decode cX5_isWithin 1 = .ok (.lload_n 2, 1) := by decide +kernel
theorem dX5_isWithin_2 : decode cX5_isWithin 2 = .ok (.lneg, 1) := by decide +kernel
theorem dX5_isWithin_3 : decode cX5_isWithin 3 = .ok (.lcmp, 1) := by decide +kernel
theorem dX5_isWithin_4 : decode cX5_isWithin 4 = .ok (.ifCond .lt 13, 3) := by decide +kernel
theorem dX5_isWithin_7 : decode cX5_isWithin 7 = .ok (.lload_n 0, 1) := by decide +kernel
theorem dX5_isWithin_8 : decode cX5_isWithin 8 = .ok (.lload_n 2, 1) := by decide +kernel
theorem dX5_isWithin_9 : decode cX5_isWithin 9 = .ok (.lcmp, 1) := by decide +kernel
theorem dX5_isWithin_10 : decode cX5_isWithin 10 = .ok (.ifCond .gt 7, 3) := by decide +kernel
theorem dX5_isWithin_13 : decode cX5_isWithin 13 = .ok (.iconst 1, 1) := by decide +kernel
theorem dX5_isWithin_14 : decode cX5_isWithin 14 = .ok (.goto 4, 3) := by decide +kernel
theorem dX5_isWithin_17 : decode cX5_isWithin 17 = .ok (.iconst 0, 1) := by decide +kernel
theorem dX5_isWithin_18 : decode cX5_isWithin 18 = .ok (.ireturn, 1) := by decide +kernel
theorem dX5_sheetFailure_0 : decode cX5_sheetFailure 0 = .ok (.iload_n 1, 1) := by decide +kernel
theorem dX5_sheetFailure_1 : decode cX5_sheetFailure 1 = .ok (.invokestatic 44, 3) := by decide +kernel
theorem dX5_sheetFailure_4 : decode cX5_sheetFailure 4 = .ok (.ifCond .ne 6, 3) := by decide +kernel
theorem dX5_sheetFailure_7 : decode cX5_sheetFailure 7 = .ok (.bipush (-2), 2) := by decide +kernel
theorem dX5_sheetFailure_9 : decode cX5_sheetFailure 9 = .ok (.ireturn, 1) := by decide +kernel
theorem dX5_sheetFailure_10 : decode cX5_sheetFailure 10 = .ok (.aload_n 0, 1) := by decide +kernel
theorem dX5_sheetFailure_11 : decode cX5_sheetFailure 11 = .ok (.getfield 11, 3) := by decide +kernel
theorem dX5_sheetFailure_14 : decode cX5_sheetFailure 14 = .ok (.iload_n 1, 1) := by decide +kernel
theorem dX5_sheetFailure_15 : decode cX5_sheetFailure 15 = .ok (.aaload, 1) := by decide +kernel
theorem dX5_sheetFailure_16 : decode cX5_sheetFailure 16 = .ok (.invokevirtual 87, 3) := by decide +kernel
theorem dX5_sheetFailure_19 : decode cX5_sheetFailure 19 = .ok (.ifCond .eq 7, 3) := by decide +kernel
theorem dX5_sheetFailure_22 : decode cX5_sheetFailure 22 = .ok (.iconst 0, 1) := by decide +kernel
theorem dX5_sheetFailure_23 : decode cX5_sheetFailure 23 = .ok (.goto 5, 3) := by decide +kernel
theorem dX5_sheetFailure_26 : decode cX5_sheetFailure 26 = .ok (.bipush (-10), 2) := by decide +kernel
theorem dX5_sheetFailure_28 : decode cX5_sheetFailure 28 = .ok (.ireturn, 1) := by decide +kernel
theorem dX5_sampleFailure_0 : decode cX5_sampleFailure 0 = .ok (.aload_n 0, 1) := by decide +kernel
theorem dX5_sampleFailure_1 : decode cX5_sampleFailure 1 = .ok (.iload_n 1, 1) := by decide +kernel
theorem dX5_sampleFailure_2 : decode cX5_sampleFailure 2 = .ok (.invokevirtual 52, 3) := by decide +kernel
theorem dX5_sampleFailure_5 : decode cX5_sampleFailure 5 = .ok (.istore_n 3, 1) := by decide +kernel
theorem dX5_sampleFailure_6 : decode cX5_sampleFailure 6 = .ok (.iload_n 3, 1) := by decide +kernel
theorem dX5_sampleFailure_7 : decode cX5_sampleFailure 7 = .ok (.ifCond .eq 5, 3) := by decide +kernel
theorem dX5_sampleFailure_10 : decode cX5_sampleFailure 10 = .ok (.iload_n 3, 1) := by decide +kernel
theorem dX5_sampleFailure_11 : decode cX5_sampleFailure 11 = .ok (.ireturn, 1) := by decide +kernel
theorem dX5_sampleFailure_12 : decode cX5_sampleFailure 12 = .ok (.aload_n 0, 1) := by decide +kernel
theorem dX5_sampleFailure_13 : decode cX5_sampleFailure 13 = .ok (.getfield 11, 3) := by decide +kernel
theorem dX5_sampleFailure_16 : decode cX5_sampleFailure 16 = .ok (.iload_n 1, 1) := by decide +kernel
theorem dX5_sampleFailure_17 : decode cX5_sampleFailure 17 = .ok (.aaload, 1) := by decide +kernel
theorem dX5_sampleFailure_18 : decode cX5_sampleFailure 18 = .ok (.iload_n 2, 1) := by decide +kernel
theorem dX5_sampleFailure_19 : decode cX5_sampleFailure 19 = .ok (.invokevirtual 271, 3) := by decide +kernel
theorem dX5_sampleFailure_22 : decode cX5_sampleFailure 22 = .ok (.ifCond .eq 7, 3) := by decide +kernel
theorem dX5_sampleFailure_25 : decode cX5_sampleFailure 25 = .ok (.iconst 0, 1) := by decide +kernel
theorem dX5_sampleFailure_26 : decode cX5_sampleFailure 26 = .ok (.goto 5, 3) := by decide +kernel
theorem dX5_sampleFailure_29 : decode cX5_sampleFailure 29 = .ok (.bipush (-13), 2) := by decide +kernel
theorem dX5_sampleFailure_31 : decode cX5_sampleFailure 31 = .ok (.ireturn, 1) := by decide +kernel
theorem dJ6_bitCount_0f7a4_0 : decode cJ6_bitCount_0f7a4 0 = .ok (.iload_n 0, 1) := by decide +kernel
theorem dJ6_bitCount_0f7a4_1 : decode cJ6_bitCount_0f7a4 1 = .ok (.iload_n 0, 1) := by decide +kernel
theorem dJ6_bitCount_0f7a4_2 : decode cJ6_bitCount_0f7a4 2 = .ok (.iconst 1, 1) := by decide +kernel
theorem dJ6_bitCount_0f7a4_3 : decode cJ6_bitCount_0f7a4 3 = .ok (.iushr, 1) := by decide +kernel
theorem dJ6_bitCount_0f7a4_4 : decode cJ6_bitCount_0f7a4 4 = .ok (.ldc_w 265, 3) := by decide +kernel
theorem dJ6_bitCount_0f7a4_7 : decode cJ6_bitCount_0f7a4 7 = .ok (.iand, 1) := by decide +kernel
theorem dJ6_bitCount_0f7a4_8 : decode cJ6_bitCount_0f7a4 8 = .ok (.isub, 1) := by decide +kernel
theorem dJ6_bitCount_0f7a4_9 : decode cJ6_bitCount_0f7a4 9 = .ok (.istore_n 0, 1) := by decide +kernel
theorem dJ6_bitCount_0f7a4_10 : decode cJ6_bitCount_0f7a4 10 = .ok (.iload_n 0, 1) := by decide +kernel
theorem dJ6_bitCount_0f7a4_11 : decode cJ6_bitCount_0f7a4 11 = .ok (.ldc_w 266, 3) := by decide +kernel
theorem dJ6_bitCount_0f7a4_14 : decode cJ6_bitCount_0f7a4 14 = .ok (.iand, 1) := by decide +kernel
theorem dJ6_bitCount_0f7a4_15 : decode cJ6_bitCount_0f7a4 15 = .ok (.iload_n 0, 1) := by decide +kernel
theorem dJ6_bitCount_0f7a4_16 : decode cJ6_bitCount_0f7a4 16 = .ok (.iconst 2, 1) := by decide +kernel
theorem dJ6_bitCount_0f7a4_17 : decode cJ6_bitCount_0f7a4 17 = .ok (.iushr, 1) := by decide +kernel
theorem dJ6_bitCount_0f7a4_18 : decode cJ6_bitCount_0f7a4 18 = .ok (.ldc_w 266, 3) := by decide +kernel
theorem dJ6_bitCount_0f7a4_21 : decode cJ6_bitCount_0f7a4 21 = .ok (.iand, 1) := by decide +kernel
theorem dJ6_bitCount_0f7a4_22 : decode cJ6_bitCount_0f7a4 22 = .ok (.iadd, 1) := by decide +kernel
theorem dJ6_bitCount_0f7a4_23 : decode cJ6_bitCount_0f7a4 23 = .ok (.istore_n 0, 1) := by decide +kernel
theorem dJ6_bitCount_0f7a4_24 : decode cJ6_bitCount_0f7a4 24 = .ok (.iload_n 0, 1) := by decide +kernel
theorem dJ6_bitCount_0f7a4_25 : decode cJ6_bitCount_0f7a4 25 = .ok (.iload_n 0, 1) := by decide +kernel
theorem dJ6_bitCount_0f7a4_26 : decode cJ6_bitCount_0f7a4 26 = .ok (.iconst 4, 1) := by decide +kernel
theorem dJ6_bitCount_0f7a4_27 : decode cJ6_bitCount_0f7a4 27 = .ok (.iushr, 1) := by decide +kernel
theorem dJ6_bitCount_0f7a4_28 : decode cJ6_bitCount_0f7a4 28 = .ok (.iadd, 1) := by decide +kernel
theorem dJ6_bitCount_0f7a4_29 : decode cJ6_bitCount_0f7a4 29 = .ok (.ldc_w 267, 3) := by decide +kernel
theorem dJ6_bitCount_0f7a4_32 : decode cJ6_bitCount_0f7a4 32 = .ok (.iand, 1) := by decide +kernel
theorem dJ6_bitCount_0f7a4_33 : decode cJ6_bitCount_0f7a4 33 = .ok (.istore_n 0, 1) := by decide +kernel
theorem dJ6_bitCount_0f7a4_34 : decode cJ6_bitCount_0f7a4 34 = .ok (.iload_n 0, 1) := by decide +kernel
theorem dJ6_bitCount_0f7a4_35 : decode cJ6_bitCount_0f7a4 35 = .ok (.iload_n 0, 1) := by decide +kernel
theorem dJ6_bitCount_0f7a4_36 : decode cJ6_bitCount_0f7a4 36 = .ok (.bipush 8, 2) := by decide +kernel
theorem dJ6_bitCount_0f7a4_38 : decode cJ6_bitCount_0f7a4 38 = .ok (.iushr, 1) := by decide +kernel
theorem dJ6_bitCount_0f7a4_39 : decode cJ6_bitCount_0f7a4 39 = .ok (.iadd, 1) := by decide +kernel
theorem dJ6_bitCount_0f7a4_40 : decode cJ6_bitCount_0f7a4 40 = .ok (.istore_n 0, 1) := by decide +kernel
theorem dJ6_bitCount_0f7a4_41 : decode cJ6_bitCount_0f7a4 41 = .ok (.iload_n 0, 1) := by decide +kernel
theorem dJ6_bitCount_0f7a4_42 : decode cJ6_bitCount_0f7a4 42 = .ok (.iload_n 0, 1) := by decide +kernel
theorem dJ6_bitCount_0f7a4_43 : decode cJ6_bitCount_0f7a4 43 = .ok (.bipush 16, 2) := by decide +kernel
theorem dJ6_bitCount_0f7a4_45 : decode cJ6_bitCount_0f7a4 45 = .ok (.iushr, 1) := by decide +kernel
theorem dJ6_bitCount_0f7a4_46 : decode cJ6_bitCount_0f7a4 46 = .ok (.iadd, 1) := by decide +kernel
theorem dJ6_bitCount_0f7a4_47 : decode cJ6_bitCount_0f7a4 47 = .ok (.istore_n 0, 1) := by decide +kernel
theorem dJ6_bitCount_0f7a4_48 : decode cJ6_bitCount_0f7a4 48 = .ok (.iload_n 0, 1) := by decide +kernel
theorem dJ6_bitCount_0f7a4_49 : decode cJ6_bitCount_0f7a4 49 = .ok (.bipush 63, 2) := by decide +kernel
theorem dJ6_bitCount_0f7a4_51 : decode cJ6_bitCount_0f7a4 51 = .ok (.iand, 1) := by decide +kernel
theorem dJ6_bitCount_0f7a4_52 : decode cJ6_bitCount_0f7a4 52 = .ok (.ireturn, 1) := by decide +kernel
theorem dJ7_fill_53178_0 : decode cJ7_fill_53178 0 = .ok (.iconst 0, 1) := by decide +kernel
theorem dJ7_fill_53178_1 : decode cJ7_fill_53178 1 = .ok (.istore_n 2, 1) := by decide +kernel
theorem dJ7_fill_53178_2 : decode cJ7_fill_53178 2 = .ok (.aload_n 0, 1) := by decide +kernel
theorem dJ7_fill_53178_3 : decode cJ7_fill_53178 3 = .ok (.arraylength, 1) := by decide +kernel
theorem dJ7_fill_53178_4 : decode cJ7_fill_53178 4 = .ok (.istore_n 3, 1) := by decide +kernel
theorem dJ7_fill_53178_5 : decode cJ7_fill_53178 5 = .ok (.iload_n 2, 1) := by decide +kernel
theorem dJ7_fill_53178_6 : decode cJ7_fill_53178 6 = .ok (.iload_n 3, 1) := by decide +kernel
theorem dJ7_fill_53178_7 : decode cJ7_fill_53178 7 = .ok (.if_icmp .ge 13, 3) := by decide +kernel
theorem dJ7_fill_53178_10 : decode cJ7_fill_53178 10 = .ok (.aload_n 0, 1) := by decide +kernel
theorem dJ7_fill_53178_11 : decode cJ7_fill_53178 11 = .ok (.iload_n 2, 1) := by decide +kernel
theorem dJ7_fill_53178_12 : decode cJ7_fill_53178 12 = .ok (.iload_n 1, 1) := by decide +kernel
theorem dJ7_fill_53178_13 : decode cJ7_fill_53178 13 = .ok (.iastore, 1) := by decide +kernel
theorem dJ7_fill_53178_14 : decode cJ7_fill_53178 14 = .ok (.iinc 2 1, 3) := by decide +kernel
theorem dJ7_fill_53178_17 : decode cJ7_fill_53178 17 = .ok (.goto (-12), 3) := by decide +kernel
theorem dJ7_fill_53178_20 : decode cJ7_fill_53178 20 = .ok (.return_, 1) := by decide +kernel
theorem dL_cell_0 : decode cL_cell 0 = .ok (.iload_n 1, 1) := by decide +kernel
theorem dL_cell_1 : decode cL_cell 1 = .ok (.aload_n 0, 1) := by decide +kernel
theorem dL_cell_2 : decode cL_cell 2 = .ok (.arraylength, 1) := by decide +kernel
theorem dL_cell_3 : decode cL_cell 3 = .ok (.if_icmp .ge 9, 3) := by decide +kernel
theorem dL_cell_6 : decode cL_cell 6 = .ok (.aload_n 0, 1) := by decide +kernel
theorem dL_cell_7 : decode cL_cell 7 = .ok (.iload_n 1, 1) := by decide +kernel
theorem dL_cell_8 : decode cL_cell 8 = .ok (.iaload, 1) := by decide +kernel
theorem dL_cell_9 : decode cL_cell 9 = .ok (.goto 10, 3) := by decide +kernel
theorem dL_cell_12 : decode cL_cell 12 = .ok (.ldc 7, 2) := by decide +kernel
theorem dL_cell_14 : decode cL_cell 14 = .ok (.iload_n 1, 1) := by decide +kernel
theorem dL_cell_15 : decode cL_cell 15 = .ok (.bipush 9, 2) := by decide +kernel
theorem dL_cell_17 : decode cL_cell 17 = .ok (.iadd, 1) := by decide +kernel
theorem dL_cell_18 : decode cL_cell 18 = .ok (.imul, 1) := by decide +kernel
theorem dL_cell_19 : decode cL_cell 19 = .ok (.ireturn, 1) := by decide +kernel
theorem dL_up_0 : decode cL_up 0 = .ok (.iload_n 0, 1) := by decide +kernel
theorem dL_up_1 : decode cL_up 1 = .ok (.ldc 8, 2) := by decide +kernel
theorem dL_up_3 : decode cL_up 3 = .ok (.iand, 1) := by decide +kernel
theorem dL_up_4 : decode cL_up 4 = .ok (.iload_n 1, 1) := by decide +kernel
theorem dL_up_5 : decode cL_up 5 = .ok (.irem, 1) := by decide +kernel
theorem dL_up_6 : decode cL_up 6 = .ok (.ireturn, 1) := by decide +kernel
theorem dL_raised_0 : decode cL_raised 0 = .ok (.aload_n 0, 1) := by decide +kernel
theorem dL_raised_1 : decode cL_raised 1 = .ok (.iload_n 1, 1) := by decide +kernel
theorem dL_raised_2 : decode cL_raised 2 = .ok (.iconst 2, 1) := by decide +kernel
theorem dL_raised_3 : decode cL_raised 3 = .ok (.iload 4, 2) := by decide +kernel
theorem dL_raised_5 : decode cL_raised 5 = .ok (.invokevirtual 9, 3) := by decide +kernel
theorem dL_raised_8 : decode cL_raised 8 = .ok (.iconst 1, 1) := by decide +kernel
theorem dL_raised_9 : decode cL_raised 9 = .ok (.if_icmp .eq 5, 3) := by decide +kernel
theorem dL_raised_12 : decode cL_raised 12 = .ok (.iconst 0, 1) := by decide +kernel
theorem dL_raised_13 : decode cL_raised 13 = .ok (.ireturn, 1) := by decide +kernel
theorem dL_raised_14 : decode cL_raised 14 = .ok (.iconst 0, 1) := by decide +kernel
theorem dL_raised_15 : decode cL_raised 15 = .ok (.istore 5, 2) := by decide +kernel
theorem dL_raised_17 : decode cL_raised 17 = .ok (.iload 5, 2) := by decide +kernel
theorem dL_raised_19 : decode cL_raised 19 = .ok (.iload 4, 2) := by decide +kernel
theorem dL_raised_21 : decode cL_raised 21 = .ok (.if_icmp .ge 27, 3) := by decide +kernel
theorem dL_raised_24 : decode cL_raised 24 = .ok (.aload_n 0, 1) := by decide +kernel
theorem dL_raised_25 : decode cL_raised 25 = .ok (.iload_n 1, 1) := by decide +kernel
theorem dL_raised_26 : decode cL_raised 26 = .ok (.iload 5, 2) := by decide +kernel
theorem dL_raised_28 : decode cL_raised 28 = .ok (.aload_n 3, 1) := by decide +kernel
theorem dL_raised_29 : decode cL_raised 29 = .ok (.iload 5, 2) := by decide +kernel
theorem dL_raised_31 : decode cL_raised 31 = .ok (.laload, 1) := by decide +kernel
theorem dL_raised_32 : decode cL_raised 32 = .ok (.l2i, 1) := by decide +kernel
theorem dL_raised_33 : decode cL_raised 33 = .ok (.invokevirtual 15, 3) := by decide +kernel
theorem dL_raised_36 : decode cL_raised 36 = .ok (.iconst 1, 1) := by decide +kernel
theorem dL_raised_37 : decode cL_raised 37 = .ok (.if_icmp .eq 5, 3) := by decide +kernel
theorem dL_raised_40 : decode cL_raised 40 = .ok (.iconst 0, 1) := by decide +kernel
theorem dL_raised_41 : decode cL_raised 41 = .ok (.ireturn, 1) := by decide +kernel
theorem dL_raised_42 : decode cL_raised 42 = .ok (.iinc 5 1, 3) := by decide +kernel
theorem dL_raised_45 : decode cL_raised 45 = .ok (.goto (-28), 3) := by decide +kernel
theorem dL_raised_48 : decode cL_raised 48 = .ok (.aload_n 0, 1) := by decide +kernel
theorem dL_raised_49 : decode cL_raised 49 = .ok (.iload_n 1, 1) := by decide +kernel
theorem dL_raised_50 : decode cL_raised 50 = .ok (.iload_n 2, 1) := by decide +kernel
theorem dL_raised_51 : decode cL_raised 51 = .ok (.invokevirtual 18, 3) := by decide +kernel
theorem dL_raised_54 : decode cL_raised 54 = .ok (.iload 4, 2) := by decide +kernel
theorem dL_raised_56 : decode cL_raised 56 = .ok (.if_icmp .ne 7, 3) := by decide +kernel
theorem dL_raised_59 : decode cL_raised 59 = .ok (.iconst 1, 1) := by decide +kernel
theorem dL_raised_60 : decode cL_raised 60 = .ok (.goto 4, 3) := by decide +kernel
theorem dL_raised_63 : decode cL_raised 63 = .ok (.iconst 0, 1) := by decide +kernel
theorem dL_raised_64 : decode cL_raised 64 = .ok (.ireturn, 1) := by decide +kernel
theorem dL_law_0 : decode cL_law 0 = .ok (.new 10, 3) := by decide +kernel
theorem dL_law_3 : decode cL_law 3 = .ok (.dup, 1) := by decide +kernel
theorem dL_law_4 : decode cL_law 4 = .ok (.invokespecial 22, 3) := by decide +kernel
theorem dL_law_7 : decode cL_law 7 = .ok (.astore_n 1, 1) := by decide +kernel
theorem dL_law_8 : decode cL_law 8 = .ok (.iconst 1, 1) := by decide +kernel
theorem dL_law_9 : decode cL_law 9 = .ok (.aload_n 0, 1) := by decide +kernel
theorem dL_law_10 : decode cL_law 10 = .ok (.iconst 0, 1) := by decide +kernel
theorem dL_law_11 : decode cL_law 11 = .ok (.invokestatic 23, 3) := by decide +kernel
theorem dL_law_14 : decode cL_law 14 = .ok (.bipush 7, 2) := by decide +kernel
theorem dL_law_16 : decode cL_law 16 = .ok (.invokestatic 29, 3) := by decide +kernel
theorem dL_law_19 : decode cL_law 19 = .ok (.ishl, 1) := by decide +kernel
theorem dL_law_20 : decode cL_law 20 = .ok (.istore_n 2, 1) := by decide +kernel
theorem dL_law_21 : decode cL_law 21 = .ok (.bipush 64, 2) := by decide +kernel
theorem dL_law_23 : decode cL_law 23 = .ok (.newarray .long, 2) := by decide +kernel
theorem dL_law_25 : decode cL_law 25 = .ok (.astore_n 3, 1) := by decide +kernel
theorem dL_law_26 : decode cL_law 26 = .ok (.bipush 64, 2) := by decide +kernel
theorem dL_law_28 : decode cL_law 28 = .ok (.newarray .long, 2) := by decide +kernel
theorem dL_law_30 : decode cL_law 30 = .ok (.astore 4, 2) := by decide +kernel
theorem dL_law_32 : decode cL_law 32 = .ok (.lconst 0, 1) := by decide +kernel
theorem dL_law_33 : decode cL_law 33 = .ok (.lstore 5, 2) := by decide +kernel
theorem dL_law_35 : decode cL_law 35 = .ok (.iconst 0, 1) := by decide +kernel
theorem dL_law_36 : decode cL_law 36 = .ok (.istore 7, 2) := by decide +kernel
theorem dL_law_38 : decode cL_law 38 = .ok (.iload 7, 2) := by decide +kernel
theorem dL_law_40 : decode cL_law 40 = .ok (.iload_n 2, 1) := by decide +kernel
theorem dL_law_41 : decode cL_law 41 = .ok (.if_icmp .ge 66, 3) := by decide +kernel
theorem dL_law_44 : decode cL_law 44 = .ok (.aload_n 3, 1) := by decide +kernel
theorem dL_law_45 : decode cL_law 45 = .ok (.iload 7, 2) := by decide +kernel
theorem dL_law_47 : decode cL_law 47 = .ok (.aload_n 0, 1) := by decide +kernel
theorem dL_law_48 : decode cL_law 48 = .ok (.iconst 1, 1) := by decide +kernel
theorem dL_law_49 : decode cL_law 49 = .ok (.iload 7, 2) := by decide +kernel
theorem dL_law_51 : decode cL_law 51 = .ok (.iadd, 1) := by decide +kernel
theorem dL_law_52 : decode cL_law 52 = .ok (.invokestatic 23, 3) := by decide +kernel
theorem dL_law_55 : decode cL_law 55 = .ok (.sipush 2001, 3) := by decide +kernel
theorem dL_law_58 : decode cL_law 58 = .ok (.invokestatic 29, 3) := by decide +kernel
theorem dL_law_61 : decode cL_law 61 = .ok (.sipush 1000, 3) := by decide +kernel
theorem dL_law_64 : decode cL_law 64 = .ok (.isub, 1) := by decide +kernel
theorem dL_law_65 : decode cL_law 65 = .ok (.i2l, 1) := by decide +kernel
theorem dL_law_66 : decode cL_law 66 = .ok (.lastore, 1) := by decide +kernel
theorem dL_law_67 : decode cL_law 67 = .ok (.aload 4, 2) := by decide +kernel
theorem dL_law_69 : decode cL_law 69 = .ok (.iload 7, 2) := by decide +kernel
theorem dL_law_71 : decode cL_law 71 = .ok (.aload_n 0, 1) := by decide +kernel
theorem dL_law_72 : decode cL_law 72 = .ok (.bipush 70, 2) := by decide +kernel
theorem dL_law_74 : decode cL_law 74 = .ok (.iload 7, 2) := by decide +kernel
theorem dL_law_76 : decode cL_law 76 = .ok (.iadd, 1) := by decide +kernel
theorem dL_law_77 : decode cL_law 77 = .ok (.invokestatic 23, 3) := by decide +kernel
theorem dL_law_80 : decode cL_law 80 = .ok (.sipush 2001, 3) := by decide +kernel
theorem dL_law_83 : decode cL_law 83 = .ok (.invokestatic 29, 3) := by decide +kernel
theorem dL_law_86 : decode cL_law 86 = .ok (.sipush 1000, 3) := by decide +kernel
theorem dL_law_89 : decode cL_law 89 = .ok (.isub, 1) := by decide +kernel
theorem dL_law_90 : decode cL_law 90 = .ok (.i2l, 1) := by decide +kernel
theorem dL_law_91 : decode cL_law 91 = .ok (.lastore, 1) := by decide +kernel
theorem dL_law_92 : decode cL_law 92 = .ok (.lload 5, 2) := by decide +kernel
theorem dL_law_94 : decode cL_law 94 = .ok (.aload_n 3, 1) := by decide +kernel
theorem dL_law_95 : decode cL_law 95 = .ok (.iload 7, 2) := by decide +kernel
theorem dL_law_97 : decode cL_law 97 = .ok (.laload, 1) := by decide +kernel
theorem dL_law_98 : decode cL_law 98 = .ok (.ladd, 1) := by decide +kernel
theorem dL_law_99 : decode cL_law 99 = .ok (.lstore 5, 2) := by decide +kernel
theorem dL_law_101 : decode cL_law 101 = .ok (.iinc 7 1, 3) := by decide +kernel
theorem dL_law_104 : decode cL_law 104 = .ok (.goto (-66), 3) := by decide +kernel
theorem dL_law_107 : decode cL_law 107 = .ok (.aload_n 1, 1) := by decide +kernel
theorem dL_law_108 : decode cL_law 108 = .ok (.iconst 0, 1) := by decide +kernel
theorem dL_law_109 : decode cL_law 109 = .ok (.iconst 0, 1) := by decide +kernel
theorem dL_law_110 : decode cL_law 110 = .ok (.aload_n 3, 1) := by decide +kernel
theorem dL_law_111 : decode cL_law 111 = .ok (.iload_n 2, 1) := by decide +kernel
theorem dL_law_112 : decode cL_law 112 = .ok (.invokestatic 32, 3) := by decide +kernel
theorem dL_law_115 : decode cL_law 115 = .ok (.ifCond .eq 26, 3) := by decide +kernel
theorem dL_law_118 : decode cL_law 118 = .ok (.aload_n 1, 1) := by decide +kernel
theorem dL_law_119 : decode cL_law 119 = .ok (.iconst 1, 1) := by decide +kernel
theorem dL_law_120 : decode cL_law 120 = .ok (.iconst 1, 1) := by decide +kernel
theorem dL_law_121 : decode cL_law 121 = .ok (.aload 4, 2) := by decide +kernel
theorem dL_law_123 : decode cL_law 123 = .ok (.iload_n 2, 1) := by decide +kernel
theorem dL_law_124 : decode cL_law 124 = .ok (.invokestatic 32, 3) := by decide +kernel
theorem dL_law_127 : decode cL_law 127 = .ok (.ifCond .eq 14, 3) := by decide +kernel
theorem dL_law_130 : decode cL_law 130 = .ok (.aload_n 1, 1) := by decide +kernel
theorem dL_law_131 : decode cL_law 131 = .ok (.iconst 2, 1) := by decide +kernel
theorem dL_law_132 : decode cL_law 132 = .ok (.iconst 2, 1) := by decide +kernel
theorem dL_law_133 : decode cL_law 133 = .ok (.aload_n 3, 1) := by decide +kernel
theorem dL_law_134 : decode cL_law 134 = .ok (.iload_n 2, 1) := by decide +kernel
theorem dL_law_135 : decode cL_law 135 = .ok (.invokestatic 32, 3) := by decide +kernel
theorem dL_law_138 : decode cL_law 138 = .ok (.ifCond .ne 5, 3) := by decide +kernel
theorem dL_law_141 : decode cL_law 141 = .ok (.iconst 0, 1) := by decide +kernel
theorem dL_law_142 : decode cL_law 142 = .ok (.ireturn, 1) := by decide +kernel
theorem dL_law_143 : decode cL_law 143 = .ok (.aload_n 1, 1) := by decide +kernel
theorem dL_law_144 : decode cL_law 144 = .ok (.iconst 0, 1) := by decide +kernel
theorem dL_law_145 : decode cL_law 145 = .ok (.iconst 0, 1) := by decide +kernel
theorem dL_law_146 : decode cL_law 146 = .ok (.iload_n 2, 1) := by decide +kernel
theorem dL_law_147 : decode cL_law 147 = .ok (.invokevirtual 36, 3) := by decide +kernel
theorem dL_law_150 : decode cL_law 150 = .ok (.lstore 7, 2) := by decide +kernel
theorem dL_law_152 : decode cL_law 152 = .ok (.aload_n 1, 1) := by decide +kernel
theorem dL_law_153 : decode cL_law 153 = .ok (.iconst 0, 1) := by decide +kernel
theorem dL_law_154 : decode cL_law 154 = .ok (.iconst 1, 1) := by decide +kernel
theorem dL_law_155 : decode cL_law 155 = .ok (.invokevirtual 40, 3) := by decide +kernel
theorem dL_law_158 : decode cL_law 158 = .ok (.lstore 9, 2) := by decide +kernel
theorem dL_law_160 : decode cL_law 160 = .ok (.aload_n 0, 1) := by decide +kernel
theorem dL_law_161 : decode cL_law 161 = .ok (.sipush 140, 3) := by decide +kernel
theorem dL_law_164 : decode cL_law 164 = .ok (.invokestatic 23, 3) := by decide +kernel
theorem dL_law_167 : decode cL_law 167 = .ok (.bipush 9, 2) := by decide +kernel
theorem dL_law_169 : decode cL_law 169 = .ok (.invokestatic 29, 3) := by decide +kernel
theorem dL_law_172 : decode cL_law 172 = .ok (.iconst 4, 1) := by decide +kernel
theorem dL_law_173 : decode cL_law 173 = .ok (.isub, 1) := by decide +kernel
theorem dL_law_174 : decode cL_law 174 = .ok (.istore 11, 2) := by decide +kernel
theorem dL_law_176 : decode cL_law 176 = .ok (.aload_n 0, 1) := by decide +kernel
theorem dL_law_177 : decode cL_law 177 = .ok (.sipush 141, 3) := by decide +kernel
theorem dL_law_180 : decode cL_law 180 = .ok (.invokestatic 23, 3) := by decide +kernel
theorem dL_law_183 : decode cL_law 183 = .ok (.bipush 9, 2) := by decide +kernel
theorem dL_law_185 : decode cL_law 185 = .ok (.invokestatic 29, 3) := by decide +kernel
theorem dL_law_188 : decode cL_law 188 = .ok (.iconst 4, 1) := by decide +kernel
theorem dL_law_189 : decode cL_law 189 = .ok (.isub, 1) := by decide +kernel
theorem dL_law_190 : decode cL_law 190 = .ok (.istore 12, 2) := by decide +kernel
theorem dL_law_192 : decode cL_law 192 = .ok (.aload_n 1, 1) := by decide +kernel
theorem dL_law_193 : decode cL_law 193 = .ok (.iconst 2, 1) := by decide +kernel
theorem dL_law_194 : decode cL_law 194 = .ok (.iload 11, 2) := by decide +kernel
theorem dL_law_196 : decode cL_law 196 = .ok (.iconst 1, 1) := by decide +kernel
theorem dL_law_197 : decode cL_law 197 = .ok (.iload 12, 2) := by decide +kernel
theorem dL_law_199 : decode cL_law 199 = .ok (.invokevirtual 44, 3) := by decide +kernel
theorem dL_law_202 : decode cL_law 202 = .ok (.iload_n 2, 1) := by decide +kernel
theorem dL_law_203 : decode cL_law 203 = .ok (.if_icmp .ne 33, 3) := by decide +kernel
theorem dL_law_206 : decode cL_law 206 = .ok (.aload_n 1, 1) := by decide +kernel
theorem dL_law_207 : decode cL_law 207 = .ok (.iconst 0, 1) := by decide +kernel
theorem dL_law_208 : decode cL_law 208 = .ok (.iconst 3, 1) := by decide +kernel
theorem dL_law_209 : decode cL_law 209 = .ok (.invokevirtual 48, 3) := by decide +kernel
theorem dL_law_212 : decode cL_law 212 = .ok (.iload_n 2, 1) := by decide +kernel
theorem dL_law_213 : decode cL_law 213 = .ok (.if_icmp .ne 23, 3) := by decide +kernel
theorem dL_law_216 : decode cL_law 216 = .ok (.aload_n 1, 1) := by decide +kernel
theorem dL_law_217 : decode cL_law 217 = .ok (.iconst 1, 1) := by decide +kernel
theorem dL_law_218 : decode cL_law 218 = .ok (.iconst 3, 1) := by decide +kernel
theorem dL_law_219 : decode cL_law 219 = .ok (.invokevirtual 48, 3) := by decide +kernel
theorem dL_law_222 : decode cL_law 222 = .ok (.iload_n 2, 1) := by decide +kernel
theorem dL_law_223 : decode cL_law 223 = .ok (.if_icmp .ne 13, 3) := by decide +kernel
theorem dL_law_226 : decode cL_law 226 = .ok (.aload_n 1, 1) := by decide +kernel
theorem dL_law_227 : decode cL_law 227 = .ok (.iconst 2, 1) := by decide +kernel
theorem dL_law_228 : decode cL_law 228 = .ok (.iconst 3, 1) := by decide +kernel
theorem dL_law_229 : decode cL_law 229 = .ok (.invokevirtual 48, 3) := by decide +kernel
theorem dL_law_232 : decode cL_law 232 = .ok (.iload_n 2, 1) := by decide +kernel
theorem dL_law_233 : decode cL_law 233 = .ok (.if_icmp .eq 5, 3) := by decide +kernel
theorem dL_law_236 : decode cL_law 236 = .ok (.iconst 0, 1) := by decide +kernel
theorem dL_law_237 : decode cL_law 237 = .ok (.ireturn, 1) := by decide +kernel
theorem dL_law_238 : decode cL_law 238 = .ok (.aload_n 1, 1) := by decide +kernel
theorem dL_law_239 : decode cL_law 239 = .ok (.iconst 0, 1) := by decide +kernel
theorem dL_law_240 : decode cL_law 240 = .ok (.iconst 0, 1) := by decide +kernel
theorem dL_law_241 : decode cL_law 241 = .ok (.iload_n 2, 1) := by decide +kernel
theorem dL_law_242 : decode cL_law 242 = .ok (.invokevirtual 36, 3) := by decide +kernel
theorem dL_law_245 : decode cL_law 245 = .ok (.iload_n 2, 1) := by decide +kernel
theorem dL_law_246 : decode cL_law 246 = .ok (.i2l, 1) := by decide +kernel
theorem dL_law_247 : decode cL_law 247 = .ok (.lload 7, 2) := by decide +kernel
theorem dL_law_249 : decode cL_law 249 = .ok (.lmul, 1) := by decide +kernel
theorem dL_law_250 : decode cL_law 250 = .ok (.lcmp, 1) := by decide +kernel
theorem dL_law_251 : decode cL_law 251 = .ok (.ifCond .ne 30, 3) := by decide +kernel
theorem dL_law_254 : decode cL_law 254 = .ok (.aload_n 1, 1) := by decide +kernel
theorem dL_law_255 : decode cL_law 255 = .ok (.iconst 0, 1) := by decide +kernel
theorem dL_law_256 : decode cL_law 256 = .ok (.iconst 1, 1) := by decide +kernel
theorem dL_law_257 : decode cL_law 257 = .ok (.invokevirtual 40, 3) := by decide +kernel
theorem dL_law_260 : decode cL_law 260 = .ok (.iload_n 2, 1) := by decide +kernel
theorem dL_law_261 : decode cL_law 261 = .ok (.i2l, 1) := by decide +kernel
theorem dL_law_262 : decode cL_law 262 = .ok (.lload 9, 2) := by decide +kernel
theorem dL_law_264 : decode cL_law 264 = .ok (.lmul, 1) := by decide +kernel
theorem dL_law_265 : decode cL_law 265 = .ok (.lcmp, 1) := by decide +kernel
theorem dL_law_266 : decode cL_law 266 = .ok (.ifCond .ne 15, 3) := by decide +kernel
theorem dL_law_269 : decode cL_law 269 = .ok (.aload_n 1, 1) := by decide +kernel
theorem dL_law_270 : decode cL_law 270 = .ok (.iconst 0, 1) := by decide +kernel
theorem dL_law_271 : decode cL_law 271 = .ok (.iconst 0, 1) := by decide +kernel
theorem dL_law_272 : decode cL_law 272 = .ok (.invokevirtual 51, 3) := by decide +kernel
theorem dL_law_275 : decode cL_law 275 = .ok (.lload 5, 2) := by decide +kernel
theorem dL_law_277 : decode cL_law 277 = .ok (.lcmp, 1) := by decide +kernel
theorem dL_law_278 : decode cL_law 278 = .ok (.ifCond .eq 5, 3) := by decide +kernel
theorem dL_law_281 : decode cL_law 281 = .ok (.iconst 0, 1) := by decide +kernel
theorem dL_law_282 : decode cL_law 282 = .ok (.ireturn, 1) := by decide +kernel
theorem dL_law_283 : decode cL_law 283 = .ok (.aload_n 0, 1) := by decide +kernel
theorem dL_law_284 : decode cL_law 284 = .ok (.sipush 142, 3) := by decide +kernel
theorem dL_law_287 : decode cL_law 287 = .ok (.invokestatic 23, 3) := by decide +kernel
theorem dL_law_290 : decode cL_law 290 = .ok (.iload_n 2, 1) := by decide +kernel
theorem dL_law_291 : decode cL_law 291 = .ok (.invokestatic 29, 3) := by decide +kernel
theorem dL_law_294 : decode cL_law 294 = .ok (.istore 13, 2) := by decide +kernel
theorem dL_law_296 : decode cL_law 296 = .ok (.aload_n 1, 1) := by decide +kernel
theorem dL_law_297 : decode cL_law 297 = .ok (.iconst 0, 1) := by decide +kernel
theorem dL_law_298 : decode cL_law 298 = .ok (.iconst 0, 1) := by decide +kernel
theorem dL_law_299 : decode cL_law 299 = .ok (.iload 13, 2) := by decide +kernel
theorem dL_law_301 : decode cL_law 301 = .ok (.invokevirtual 36, 3) := by decide +kernel
theorem dL_law_304 : decode cL_law 304 = .ok (.iload 13, 2) := by decide +kernel
theorem dL_law_306 : decode cL_law 306 = .ok (.iconst 1, 1) := by decide +kernel
theorem dL_law_307 : decode cL_law 307 = .ok (.iadd, 1) := by decide +kernel
theorem dL_law_308 : decode cL_law 308 = .ok (.iload_n 2, 1) := by decide +kernel
theorem dL_law_309 : decode cL_law 309 = .ok (.if_icmp .ge 16, 3) := by decide +kernel
theorem dL_law_312 : decode cL_law 312 = .ok (.aload_n 1, 1) := by decide +kernel
theorem dL_law_313 : decode cL_law 313 = .ok (.iconst 0, 1) := by decide +kernel
theorem dL_law_314 : decode cL_law 314 = .ok (.iload 13, 2) := by decide +kernel
theorem dL_law_316 : decode cL_law 316 = .ok (.iconst 1, 1) := by decide +kernel
theorem dL_law_317 : decode cL_law 317 = .ok (.iadd, 1) := by decide +kernel
theorem dL_law_318 : decode cL_law 318 = .ok (.iload_n 2, 1) := by decide +kernel
theorem dL_law_319 : decode cL_law 319 = .ok (.invokevirtual 36, 3) := by decide +kernel
theorem dL_law_322 : decode cL_law 322 = .ok (.goto 4, 3) := by decide +kernel
theorem dL_law_325 : decode cL_law 325 = .ok (.lconst 0, 1) := by decide +kernel
theorem dL_law_326 : decode cL_law 326 = .ok (.ladd, 1) := by decide +kernel
theorem dL_law_327 : decode cL_law 327 = .ok (.lstore 14, 2) := by decide +kernel
theorem dL_law_329 : decode cL_law 329 = .ok (.lload 14, 2) := by decide +kernel
theorem dL_law_331 : decode cL_law 331 = .ok (.iload_n 2, 1) := by decide +kernel
theorem dL_law_332 : decode cL_law 332 = .ok (.i2l, 1) := by decide +kernel
theorem dL_law_333 : decode cL_law 333 = .ok (.lload 7, 2) := by decide +kernel
theorem dL_law_335 : decode cL_law 335 = .ok (.lmul, 1) := by decide +kernel
theorem dL_law_336 : decode cL_law 336 = .ok (.lcmp, 1) := by decide +kernel
theorem dL_law_337 : decode cL_law 337 = .ok (.ifCond .eq 5, 3) := by decide +kernel
theorem dL_law_340 : decode cL_law 340 = .ok (.iconst 0, 1) := by decide +kernel
theorem dL_law_341 : decode cL_law 341 = .ok (.ireturn, 1) := by decide +kernel
theorem dL_law_342 : decode cL_law 342 = .ok (.iconst (-1), 1) := by decide +kernel
theorem dL_law_343 : decode cL_law 343 = .ok (.istore 16, 2) := by decide +kernel
theorem dL_law_345 : decode cL_law 345 = .ok (.iconst 0, 1) := by decide +kernel
theorem dL_law_346 : decode cL_law 346 = .ok (.istore 17, 2) := by decide +kernel
theorem dL_law_348 : decode cL_law 348 = .ok (.iload 17, 2) := by decide +kernel
theorem dL_law_350 : decode cL_law 350 = .ok (.iload_n 2, 1) := by decide +kernel
theorem dL_law_351 : decode cL_law 351 = .ok (.if_icmp .ge 45, 3) := by decide +kernel
theorem dL_law_354 : decode cL_law 354 = .ok (.aload_n 1, 1) := by decide +kernel
theorem dL_law_355 : decode cL_law 355 = .ok (.iconst 2, 1) := by decide +kernel
theorem dL_law_356 : decode cL_law 356 = .ok (.iload 17, 2) := by decide +kernel
theorem dL_law_358 : decode cL_law 358 = .ok (.invokevirtual 51, 3) := by decide +kernel
theorem dL_law_361 : decode cL_law 361 = .ok (.iload 11, 2) := by decide +kernel
theorem dL_law_363 : decode cL_law 363 = .ok (.i2l, 1) := by decide +kernel
theorem dL_law_364 : decode cL_law 364 = .ok (.aload_n 1, 1) := by decide +kernel
theorem dL_law_365 : decode cL_law 365 = .ok (.iconst 0, 1) := by decide +kernel
theorem dL_law_366 : decode cL_law 366 = .ok (.iload 17, 2) := by decide +kernel
theorem dL_law_368 : decode cL_law 368 = .ok (.invokevirtual 51, 3) := by decide +kernel
theorem dL_law_371 : decode cL_law 371 = .ok (.lmul, 1) := by decide +kernel
theorem dL_law_372 : decode cL_law 372 = .ok (.iload 12, 2) := by decide +kernel
theorem dL_law_374 : decode cL_law 374 = .ok (.i2l, 1) := by decide +kernel
theorem dL_law_375 : decode cL_law 375 = .ok (.aload_n 1, 1) := by decide +kernel
theorem dL_law_376 : decode cL_law 376 = .ok (.iconst 1, 1) := by decide +kernel
theorem dL_law_377 : decode cL_law 377 = .ok (.iload 17, 2) := by decide +kernel
theorem dL_law_379 : decode cL_law 379 = .ok (.invokevirtual 51, 3) := by decide +kernel
theorem dL_law_382 : decode cL_law 382 = .ok (.lmul, 1) := by decide +kernel
theorem dL_law_383 : decode cL_law 383 = .ok (.ladd, 1) := by decide +kernel
theorem dL_law_384 : decode cL_law 384 = .ok (.lcmp, 1) := by decide +kernel
theorem dL_law_385 : decode cL_law 385 = .ok (.ifCond .eq 5, 3) := by decide +kernel
theorem dL_law_388 : decode cL_law 388 = .ok (.iconst 0, 1) := by decide +kernel
theorem dL_law_389 : decode cL_law 389 = .ok (.ireturn, 1) := by decide +kernel
theorem dL_law_390 : decode cL_law 390 = .ok (.iinc 17 1, 3) := by decide +kernel
theorem dL_law_393 : decode cL_law 393 = .ok (.goto (-45), 3) := by decide +kernel
theorem dL_law_396 : decode cL_law 396 = .ok (.aload_n 0, 1) := by decide +kernel
theorem dL_law_397 : decode cL_law 397 = .ok (.sipush 143, 3) := by decide +kernel
theorem dL_law_400 : decode cL_law 400 = .ok (.invokestatic 23, 3) := by decide +kernel
theorem dL_law_403 : decode cL_law 403 = .ok (.iload_n 2, 1) := by decide +kernel
theorem dL_law_404 : decode cL_law 404 = .ok (.invokestatic 29, 3) := by decide +kernel
theorem dL_law_407 : decode cL_law 407 = .ok (.istore 17, 2) := by decide +kernel
theorem dL_law_409 : decode cL_law 409 = .ok (.iconst 0, 1) := by decide +kernel
theorem dL_law_410 : decode cL_law 410 = .ok (.istore 18, 2) := by decide +kernel
theorem dL_law_412 : decode cL_law 412 = .ok (.iload 18, 2) := by decide +kernel
theorem dL_law_414 : decode cL_law 414 = .ok (.iload_n 2, 1) := by decide +kernel
theorem dL_law_415 : decode cL_law 415 = .ok (.if_icmp .ge 26, 3) := by decide +kernel
theorem dL_law_418 : decode cL_law 418 = .ok (.aload 4, 2) := by decide +kernel
theorem dL_law_420 : decode cL_law 420 = .ok (.iload 18, 2) := by decide +kernel
theorem dL_law_422 : decode cL_law 422 = .ok (.iload 18, 2) := by decide +kernel
theorem dL_law_424 : decode cL_law 424 = .ok (.iload 17, 2) := by decide +kernel
theorem dL_law_426 : decode cL_law 426 = .ok (.if_icmp .ne 7, 3) := by decide +kernel
theorem dL_law_429 : decode cL_law 429 = .ok (.lconst 1, 1) := by decide +kernel
theorem dL_law_430 : decode cL_law 430 = .ok (.goto 4, 3) := by decide +kernel
theorem dL_law_433 : decode cL_law 433 = .ok (.lconst 0, 1) := by decide +kernel
theorem dL_law_434 : decode cL_law 434 = .ok (.lastore, 1) := by decide +kernel
theorem dL_law_435 : decode cL_law 435 = .ok (.iinc 18 1, 3) := by decide +kernel
theorem dL_law_438 : decode cL_law 438 = .ok (.goto (-26), 3) := by decide +kernel
theorem dL_law_441 : decode cL_law 441 = .ok (.aload_n 1, 1) := by decide +kernel
theorem dL_law_442 : decode cL_law 442 = .ok (.iconst 3, 1) := by decide +kernel
theorem dL_law_443 : decode cL_law 443 = .ok (.iconst 3, 1) := by decide +kernel
theorem dL_law_444 : decode cL_law 444 = .ok (.aload 4, 2) := by decide +kernel
theorem dL_law_446 : decode cL_law 446 = .ok (.iload_n 2, 1) := by decide +kernel
theorem dL_law_447 : decode cL_law 447 = .ok (.invokestatic 32, 3) := by decide +kernel
theorem dL_law_450 : decode cL_law 450 = .ok (.ifCond .eq 13, 3) := by decide +kernel
theorem dL_law_453 : decode cL_law 453 = .ok (.aload_n 1, 1) := by decide +kernel
theorem dL_law_454 : decode cL_law 454 = .ok (.iconst 3, 1) := by decide +kernel
theorem dL_law_455 : decode cL_law 455 = .ok (.iconst 3, 1) := by decide +kernel
theorem dL_law_456 : decode cL_law 456 = .ok (.invokevirtual 48, 3) := by decide +kernel
theorem dL_law_459 : decode cL_law 459 = .ok (.iload_n 2, 1) := by decide +kernel
theorem dL_law_460 : decode cL_law 460 = .ok (.if_icmp .eq 5, 3) := by decide +kernel
theorem dL_law_463 : decode cL_law 463 = .ok (.iconst 0, 1) := by decide +kernel
theorem dL_law_464 : decode cL_law 464 = .ok (.ireturn, 1) := by decide +kernel
theorem dL_law_465 : decode cL_law 465 = .ok (.iconst 0, 1) := by decide +kernel
theorem dL_law_466 : decode cL_law 466 = .ok (.istore 16, 2) := by decide +kernel
theorem dL_law_468 : decode cL_law 468 = .ok (.iconst 1, 1) := by decide +kernel
theorem dL_law_469 : decode cL_law 469 = .ok (.istore 18, 2) := by decide +kernel
theorem dL_law_471 : decode cL_law 471 = .ok (.iload 18, 2) := by decide +kernel
theorem dL_law_473 : decode cL_law 473 = .ok (.iload_n 2, 1) := by decide +kernel
theorem dL_law_474 : decode cL_law 474 = .ok (.if_icmp .ge 39, 3) := by decide +kernel
theorem dL_law_477 : decode cL_law 477 = .ok (.iload 16, 2) := by decide +kernel
theorem dL_law_479 : decode cL_law 479 = .ok (.aload_n 1, 1) := by decide +kernel
theorem dL_law_480 : decode cL_law 480 = .ok (.iconst 3, 1) := by decide +kernel
theorem dL_law_481 : decode cL_law 481 = .ok (.iload 18, 2) := by decide +kernel
theorem dL_law_483 : decode cL_law 483 = .ok (.invokevirtual 51, 3) := by decide +kernel
theorem dL_law_486 : decode cL_law 486 = .ok (.aload_n 1, 1) := by decide +kernel
theorem dL_law_487 : decode cL_law 487 = .ok (.iconst 3, 1) := by decide +kernel
theorem dL_law_488 : decode cL_law 488 = .ok (.iload 18, 2) := by decide +kernel
theorem dL_law_490 : decode cL_law 490 = .ok (.iconst 1, 1) := by decide +kernel
theorem dL_law_491 : decode cL_law 491 = .ok (.isub, 1) := by decide +kernel
theorem dL_law_492 : decode cL_law 492 = .ok (.invokevirtual 51, 3) := by decide +kernel
theorem dL_law_495 : decode cL_law 495 = .ok (.lcmp, 1) := by decide +kernel
theorem dL_law_496 : decode cL_law 496 = .ok (.ifCond .ne 7, 3) := by decide +kernel
theorem dL_law_499 : decode cL_law 499 = .ok (.iconst 0, 1) := by decide +kernel
theorem dL_law_500 : decode cL_law 500 = .ok (.goto 4, 3) := by decide +kernel
theorem dL_law_503 : decode cL_law 503 = .ok (.iconst 1, 1) := by decide +kernel
theorem dL_law_504 : decode cL_law 504 = .ok (.iadd, 1) := by decide +kernel
theorem dL_law_505 : decode cL_law 505 = .ok (.istore 16, 2) := by decide +kernel
theorem dL_law_507 : decode cL_law 507 = .ok (.iinc 18 1, 3) := by decide +kernel
theorem dL_law_510 : decode cL_law 510 = .ok (.goto (-39), 3) := by decide +kernel
theorem dL_law_513 : decode cL_law 513 = .ok (.iload 16, 2) := by decide +kernel
theorem dL_law_515 : decode cL_law 515 = .ok (.iload 17, 2) := by decide +kernel
theorem dL_law_517 : decode cL_law 517 = .ok (.if_icmp .ne 13, 3) := by decide +kernel
theorem dL_law_520 : decode cL_law 520 = .ok (.aload_n 1, 1) := by decide +kernel
theorem dL_law_521 : decode cL_law 521 = .ok (.iconst 0, 1) := by decide +kernel
theorem dL_law_522 : decode cL_law 522 = .ok (.iconst 3, 1) := by decide +kernel
theorem dL_law_523 : decode cL_law 523 = .ok (.invokevirtual 48, 3) := by decide +kernel
theorem dL_law_526 : decode cL_law 526 = .ok (.iload_n 2, 1) := by decide +kernel
theorem dL_law_527 : decode cL_law 527 = .ok (.if_icmp .eq 5, 3) := by decide +kernel
theorem dL_law_530 : decode cL_law 530 = .ok (.iconst 0, 1) := by decide +kernel
theorem dL_law_531 : decode cL_law 531 = .ok (.ireturn, 1) := by decide +kernel
theorem dL_law_532 : decode cL_law 532 = .ok (.iconst 0, 1) := by decide +kernel
theorem dL_law_533 : decode cL_law 533 = .ok (.istore 18, 2) := by decide +kernel
theorem dL_law_535 : decode cL_law 535 = .ok (.iload 18, 2) := by decide +kernel
theorem dL_law_537 : decode cL_law 537 = .ok (.iload_n 2, 1) := by decide +kernel
theorem dL_law_538 : decode cL_law 538 = .ok (.if_icmp .ge 29, 3) := by decide +kernel
theorem dL_law_541 : decode cL_law 541 = .ok (.aload_n 1, 1) := by decide +kernel
theorem dL_law_542 : decode cL_law 542 = .ok (.iconst 0, 1) := by decide +kernel
theorem dL_law_543 : decode cL_law 543 = .ok (.iload 18, 2) := by decide +kernel
theorem dL_law_545 : decode cL_law 545 = .ok (.invokevirtual 51, 3) := by decide +kernel
theorem dL_law_548 : decode cL_law 548 = .ok (.iload_n 2, 1) := by decide +kernel
theorem dL_law_549 : decode cL_law 549 = .ok (.i2l, 1) := by decide +kernel
theorem dL_law_550 : decode cL_law 550 = .ok (.aload_n 3, 1) := by decide +kernel
theorem dL_law_551 : decode cL_law 551 = .ok (.iload 18, 2) := by decide +kernel
theorem dL_law_553 : decode cL_law 553 = .ok (.laload, 1) := by decide +kernel
theorem dL_law_554 : decode cL_law 554 = .ok (.lmul, 1) := by decide +kernel
theorem dL_law_555 : decode cL_law 555 = .ok (.lcmp, 1) := by decide +kernel
theorem dL_law_556 : decode cL_law 556 = .ok (.ifCond .eq 5, 3) := by decide +kernel
theorem dL_law_559 : decode cL_law 559 = .ok (.iconst 0, 1) := by decide +kernel
theorem dL_law_560 : decode cL_law 560 = .ok (.ireturn, 1) := by decide +kernel
theorem dL_law_561 : decode cL_law 561 = .ok (.iinc 18 1, 3) := by decide +kernel
theorem dL_law_564 : decode cL_law 564 = .ok (.goto (-29), 3) := by decide +kernel
theorem dL_law_567 : decode cL_law 567 = .ok (.iconst 1, 1) := by decide +kernel
theorem dL_law_568 : decode cL_law 568 = .ok (.ireturn, 1) := by decide +kernel
