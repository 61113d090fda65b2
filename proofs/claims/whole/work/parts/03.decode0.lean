theorem dX0_init_0 : decode cX0_init 0 = .ok (.aload_n 0, 1) := by decide +kernel
theorem dX0_init_1 : decode cX0_init 1 = .ok (.invokespecial 1, 3) := by decide +kernel
theorem dX0_init_4 : decode cX0_init 4 = .ok (.aload_n 0, 1) := by decide +kernel
theorem dX0_init_5 : decode cX0_init 5 = .ok (.iconst 1, 1) := by decide +kernel
theorem dX0_init_6 : decode cX0_init 6 = .ok (.putfield 7, 3) := by decide +kernel
theorem dX0_init_9 : decode cX0_init 9 = .ok (.return_, 1) := by decide +kernel
theorem dX0_begin_0 : decode cX0_begin 0 = .ok (.aload_n 0, 1) := by decide +kernel
theorem dX0_begin_1 : decode cX0_begin 1 = .ok (.iload_n 1, 1) := by decide +kernel
theorem dX0_begin_2 : decode cX0_begin 2 = .ok (.i2l, 1) := by decide +kernel
theorem dX0_begin_3 : decode cX0_begin 3 = .ok (.putfield 13, 3) := by decide +kernel
theorem dX0_begin_6 : decode cX0_begin 6 = .ok (.aload_n 0, 1) := by decide +kernel
theorem dX0_begin_7 : decode cX0_begin 7 = .ok (.iload_n 2, 1) := by decide +kernel
theorem dX0_begin_8 : decode cX0_begin 8 = .ok (.i2l, 1) := by decide +kernel
theorem dX0_begin_9 : decode cX0_begin 9 = .ok (.putfield 17, 3) := by decide +kernel
theorem dX0_begin_12 : decode cX0_begin 12 = .ok (.aload_n 0, 1) := by decide +kernel
theorem dX0_begin_13 : decode cX0_begin 13 = .ok (.iload_n 3, 1) := by decide +kernel
theorem dX0_begin_14 : decode cX0_begin 14 = .ok (.i2l, 1) := by decide +kernel
theorem dX0_begin_15 : decode cX0_begin 15 = .ok (.putfield 20, 3) := by decide +kernel
theorem dX0_begin_18 : decode cX0_begin 18 = .ok (.aload_n 0, 1) := by decide +kernel
theorem dX0_begin_19 : decode cX0_begin 19 = .ok (.iload 4, 2) := by decide +kernel
theorem dX0_begin_21 : decode cX0_begin 21 = .ok (.putfield 7, 3) := by decide +kernel
theorem dX0_begin_24 : decode cX0_begin 24 = .ok (.aload_n 0, 1) := by decide +kernel
theorem dX0_begin_25 : decode cX0_begin 25 = .ok (.iconst 0, 1) := by decide +kernel
theorem dX0_begin_26 : decode cX0_begin 26 = .ok (.putfield 23, 3) := by decide +kernel
theorem dX0_begin_29 : decode cX0_begin 29 = .ok (.aload_n 0, 1) := by decide +kernel
theorem dX0_begin_30 : decode cX0_begin 30 = .ok (.iconst 0, 1) := by decide +kernel
theorem dX0_begin_31 : decode cX0_begin 31 = .ok (.putfield 26, 3) := by decide +kernel
theorem dX0_begin_34 : decode cX0_begin 34 = .ok (.return_, 1) := by decide +kernel
theorem dX0_take_0 : decode cX0_take 0 = .ok (.aload_n 0, 1) := by decide +kernel
theorem dX0_take_1 : decode cX0_take 1 = .ok (.aload_n 0, 1) := by decide +kernel
theorem dX0_take_2 : decode cX0_take 2 = .ok (.getfield 23, 3) := by decide +kernel
theorem dX0_take_5 : decode cX0_take 5 = .ok (.ifCond .ne 7, 3) := by decide +kernel
theorem dX0_take_8 : decode cX0_take 8 = .ok (.iload_n 1, 1) := by decide +kernel
theorem dX0_take_9 : decode cX0_take 9 = .ok (.goto 11, 3) := by decide +kernel
theorem dX0_take_12 : decode cX0_take 12 = .ok (.aload_n 0, 1) := by decide +kernel
theorem dX0_take_13 : decode cX0_take 13 = .ok (.getfield 29, 3) := by decide +kernel
theorem dX0_take_16 : decode cX0_take 16 = .ok (.iload_n 1, 1) := by decide +kernel
theorem dX0_take_17 : decode cX0_take 17 = .ok (.invokestatic 32, 3) := by decide +kernel
theorem dX0_take_20 : decode cX0_take 20 = .ok (.putfield 29, 3) := by decide +kernel
theorem dX0_take_23 : decode cX0_take 23 = .ok (.aload_n 0, 1) := by decide +kernel
theorem dX0_take_24 : decode cX0_take 24 = .ok (.aload_n 0, 1) := by decide +kernel
theorem dX0_take_25 : decode cX0_take 25 = .ok (.getfield 23, 3) := by decide +kernel
theorem dX0_take_28 : decode cX0_take 28 = .ok (.ifCond .ne 7, 3) := by decide +kernel
theorem dX0_take_31 : decode cX0_take 31 = .ok (.iload_n 1, 1) := by decide +kernel
theorem dX0_take_32 : decode cX0_take 32 = .ok (.goto 11, 3) := by decide +kernel
theorem dX0_take_35 : decode cX0_take 35 = .ok (.aload_n 0, 1) := by decide +kernel
theorem dX0_take_36 : decode cX0_take 36 = .ok (.getfield 38, 3) := by decide +kernel
theorem dX0_take_39 : decode cX0_take 39 = .ok (.iload_n 1, 1) := by decide +kernel
theorem dX0_take_40 : decode cX0_take 40 = .ok (.invokestatic 41, 3) := by decide +kernel
theorem dX0_take_43 : decode cX0_take 43 = .ok (.putfield 38, 3) := by decide +kernel
theorem dX0_take_46 : decode cX0_take 46 = .ok (.aload_n 0, 1) := by decide +kernel
theorem dX0_take_47 : decode cX0_take 47 = .ok (.aload_n 0, 1) := by decide +kernel
theorem dX0_take_48 : decode cX0_take 48 = .ok (.getfield 23, 3) := by decide +kernel
theorem dX0_take_51 : decode cX0_take 51 = .ok (.ifCond .ne 7, 3) := by decide +kernel
theorem dX0_take_54 : decode cX0_take 54 = .ok (.iload_n 2, 1) := by decide +kernel
theorem dX0_take_55 : decode cX0_take 55 = .ok (.goto 11, 3) := by decide +kernel
theorem dX0_take_58 : decode cX0_take 58 = .ok (.aload_n 0, 1) := by decide +kernel
theorem dX0_take_59 : decode cX0_take 59 = .ok (.getfield 44, 3) := by decide +kernel
theorem dX0_take_62 : decode cX0_take 62 = .ok (.iload_n 2, 1) := by decide +kernel
theorem dX0_take_63 : decode cX0_take 63 = .ok (.invokestatic 32, 3) := by decide +kernel
theorem dX0_take_66 : decode cX0_take 66 = .ok (.putfield 44, 3) := by decide +kernel
theorem dX0_take_69 : decode cX0_take 69 = .ok (.aload_n 0, 1) := by decide +kernel
theorem dX0_take_70 : decode cX0_take 70 = .ok (.aload_n 0, 1) := by decide +kernel
theorem dX0_take_71 : decode cX0_take 71 = .ok (.getfield 23, 3) := by decide +kernel
theorem dX0_take_74 : decode cX0_take 74 = .ok (.ifCond .ne 7, 3) := by decide +kernel
theorem dX0_take_77 : decode cX0_take 77 = .ok (.iload_n 2, 1) := by decide +kernel
theorem dX0_take_78 : decode cX0_take 78 = .ok (.goto 11, 3) := by decide +kernel
theorem dX0_take_81 : decode cX0_take 81 = .ok (.aload_n 0, 1) := by decide +kernel
theorem dX0_take_82 : decode cX0_take 82 = .ok (.getfield 47, 3) := by decide +kernel
theorem dX0_take_85 : decode cX0_take 85 = .ok (.iload_n 2, 1) := by decide +kernel
theorem dX0_take_86 : decode cX0_take 86 = .ok (.invokestatic 41, 3) := by decide +kernel
theorem dX0_take_89 : decode cX0_take 89 = .ok (.putfield 47, 3) := by decide +kernel
theorem dX0_take_92 : decode cX0_take 92 = .ok (.aload_n 0, 1) := by decide +kernel
theorem dX0_take_93 : decode cX0_take 93 = .ok (.dup, 1) := by decide +kernel
theorem dX0_take_94 : decode cX0_take 94 = .ok (.getfield 23, 3) := by decide +kernel
theorem dX0_take_97 : decode cX0_take 97 = .ok (.iconst 1, 1) := by decide +kernel
theorem dX0_take_98 : decode cX0_take 98 = .ok (.iadd, 1) := by decide +kernel
theorem dX0_take_99 : decode cX0_take 99 = .ok (.putfield 23, 3) := by decide +kernel
theorem dX0_take_102 : decode cX0_take 102 = .ok (.aload_n 0, 1) := by decide +kernel
theorem dX0_take_103 : decode cX0_take 103 = .ok (.aload_n 0, 1) := by decide +kernel
theorem dX0_take_104 : decode cX0_take 104 = .ok (.iload_n 1, 1) := by decide +kernel
theorem dX0_take_105 : decode cX0_take 105 = .ok (.i2l, 1) := by decide +kernel
theorem dX0_take_106 : decode cX0_take 106 = .ok (.iload_n 2, 1) := by decide +kernel
theorem dX0_take_107 : decode cX0_take 107 = .ok (.i2l, 1) := by decide +kernel
theorem dX0_take_108 : decode cX0_take 108 = .ok (.invokevirtual 50, 3) := by decide +kernel
theorem dX0_take_111 : decode cX0_take 111 = .ok (.ifCond .eq 12, 3) := by decide +kernel
theorem dX0_take_114 : decode cX0_take 114 = .ok (.aload_n 0, 1) := by decide +kernel
theorem dX0_take_115 : decode cX0_take 115 = .ok (.getfield 26, 3) := by decide +kernel
theorem dX0_take_118 : decode cX0_take 118 = .ok (.iconst 1, 1) := by decide +kernel
theorem dX0_take_119 : decode cX0_take 119 = .ok (.iadd, 1) := by decide +kernel
theorem dX0_take_120 : decode cX0_take 120 = .ok (.goto 4, 3) := by decide +kernel
theorem dX0_take_123 : decode cX0_take 123 = .ok (.iconst 0, 1) := by decide +kernel
theorem dX0_take_124 : decode cX0_take 124 = .ok (.putfield 26, 3) := by decide +kernel
theorem dX0_take_127 : decode cX0_take 127 = .ok (.return_, 1) := by decide +kernel
theorem dX0_isOut_0 : decode cX0_isOut 0 = .ok (.lload_n 1, 1) := by decide +kernel
theorem dX0_isOut_1 : decode cX0_isOut 1 = .ok (.aload_n 0, 1) := by decide +kernel
theorem dX0_isOut_2 : decode cX0_isOut 2 = .ok (.getfield 13, 3) := by decide +kernel
theorem dX0_isOut_5 : decode cX0_isOut 5 = .ok (.lsub, 1) := by decide +kernel
theorem dX0_isOut_6 : decode cX0_isOut 6 = .ok (.lstore 5, 2) := by decide +kernel
theorem dX0_isOut_8 : decode cX0_isOut 8 = .ok (.lload_n 3, 1) := by decide +kernel
theorem dX0_isOut_9 : decode cX0_isOut 9 = .ok (.aload_n 0, 1) := by decide +kernel
theorem dX0_isOut_10 : decode cX0_isOut 10 = .ok (.getfield 17, 3) := by decide +kernel
theorem dX0_isOut_13 : decode cX0_isOut 13 = .ok (.lsub, 1) := by decide +kernel
theorem dX0_isOut_14 : decode cX0_isOut 14 = .ok (.lstore 7, 2) := by decide +kernel
theorem dX0_isOut_16 : decode cX0_isOut 16 = .ok (.lload 5, 2) := by decide +kernel
theorem dX0_isOut_18 : decode cX0_isOut 18 = .ok (.lload 5, 2) := by decide +kernel
theorem dX0_isOut_20 : decode cX0_isOut 20 = .ok (.lmul, 1) := by decide +kernel
theorem dX0_isOut_21 : decode cX0_isOut 21 = .ok (.lload 7, 2) := by decide +kernel
theorem dX0_isOut_23 : decode cX0_isOut 23 = .ok (.lload 7, 2) := by decide +kernel
theorem dX0_isOut_25 : decode cX0_isOut 25 = .ok (.lmul, 1) := by decide +kernel
theorem dX0_isOut_26 : decode cX0_isOut 26 = .ok (.ladd, 1) := by decide +kernel
theorem dX0_isOut_27 : decode cX0_isOut 27 = .ok (.aload_n 0, 1) := by decide +kernel
theorem dX0_isOut_28 : decode cX0_isOut 28 = .ok (.getfield 20, 3) := by decide +kernel
theorem dX0_isOut_31 : decode cX0_isOut 31 = .ok (.aload_n 0, 1) := by decide +kernel
theorem dX0_isOut_32 : decode cX0_isOut 32 = .ok (.getfield 20, 3) := by decide +kernel
theorem dX0_isOut_35 : decode cX0_isOut 35 = .ok (.lmul, 1) := by decide +kernel
theorem dX0_isOut_36 : decode cX0_isOut 36 = .ok (.lcmp, 1) := by decide +kernel
theorem dX0_isOut_37 : decode cX0_isOut 37 = .ok (.ifCond .le 7, 3) := by decide +kernel
theorem dX0_isOut_40 : decode cX0_isOut 40 = .ok (.iconst 1, 1) := by decide +kernel
theorem dX0_isOut_41 : decode cX0_isOut 41 = .ok (.goto 4, 3) := by decide +kernel
theorem dX0_isOut_44 : decode cX0_isOut 44 = .ok (.iconst 0, 1) := by decide +kernel
theorem dX0_isOut_45 : decode cX0_isOut 45 = .ok (.ireturn, 1) := by decide +kernel
theorem dX0_state_0 : decode cX0_state 0 = .ok (.aload_n 0, 1) := by decide +kernel
theorem dX0_state_1 : decode cX0_state 1 = .ok (.getfield 26, 3) := by decide +kernel
theorem dX0_state_4 : decode cX0_state 4 = .ok (.ifCond .ne 5, 3) := by decide +kernel
theorem dX0_state_7 : decode cX0_state 7 = .ok (.iconst 0, 1) := by decide +kernel
theorem dX0_state_8 : decode cX0_state 8 = .ok (.ireturn, 1) := by decide +kernel
theorem dX0_state_9 : decode cX0_state 9 = .ok (.aload_n 0, 1) := by decide +kernel
theorem dX0_state_10 : decode cX0_state 10 = .ok (.getfield 26, 3) := by decide +kernel
theorem dX0_state_13 : decode cX0_state 13 = .ok (.aload_n 0, 1) := by decide +kernel
theorem dX0_state_14 : decode cX0_state 14 = .ok (.getfield 7, 3) := by decide +kernel
theorem dX0_state_17 : decode cX0_state 17 = .ok (.if_icmp .lt 7, 3) := by decide +kernel
theorem dX0_state_20 : decode cX0_state 20 = .ok (.iconst 2, 1) := by decide +kernel
theorem dX0_state_21 : decode cX0_state 21 = .ok (.goto 4, 3) := by decide +kernel
theorem dX0_state_24 : decode cX0_state 24 = .ok (.iconst 1, 1) := by decide +kernel
theorem dX0_state_25 : decode cX0_state 25 = .ok (.ireturn, 1) := by decide +kernel
theorem dX0_places_0 : decode cX0_places 0 = .ok (.aload_n 0, 1) := by decide +kernel
theorem dX0_places_1 : decode cX0_places 1 = .ok (.getfield 23, 3) := by decide +kernel
theorem dX0_places_4 : decode cX0_places 4 = .ok (.ireturn, 1) := by decide +kernel
theorem dX0_outOnEnd_0 : decode cX0_outOnEnd 0 = .ok (.aload_n 0, 1) := by decide +kernel
theorem dX0_outOnEnd_1 : decode cX0_outOnEnd 1 = .ok (.getfield 26, 3) := by decide +kernel
theorem dX0_outOnEnd_4 : decode cX0_outOnEnd 4 = .ok (.ireturn, 1) := by decide +kernel
theorem dX0_width_0 : decode cX0_width 0 = .ok (.aload_n 0, 1) := by decide +kernel
theorem dX0_width_1 : decode cX0_width 1 = .ok (.getfield 23, 3) := by decide +kernel
theorem dX0_width_4 : decode cX0_width 4 = .ok (.ifCond .ne 7, 3) := by decide +kernel
theorem dX0_width_7 : decode cX0_width 7 = .ok (.iconst 0, 1) := by decide +kernel
theorem dX0_width_8 : decode cX0_width 8 = .ok (.goto 12, 3) := by decide +kernel
theorem dX0_width_11 : decode cX0_width 11 = .ok (.aload_n 0, 1) := by decide +kernel
theorem dX0_width_12 : decode cX0_width 12 = .ok (.getfield 38, 3) := by decide +kernel
theorem dX0_width_15 : decode cX0_width 15 = .ok (.aload_n 0, 1) := by decide +kernel
theorem dX0_width_16 : decode cX0_width 16 = .ok (.getfield 29, 3) := by decide +kernel
theorem dX0_width_19 : decode cX0_width 19 = .ok (.isub, 1) := by decide +kernel
theorem dX0_width_20 : decode cX0_width 20 = .ok (.ireturn, 1) := by decide +kernel
theorem dX0_depth_0 : decode cX0_depth 0 = .ok (.aload_n 0, 1) := by decide +kernel
theorem dX0_depth_1 : decode cX0_depth 1 = .ok (.getfield 23, 3) := by decide +kernel
theorem dX0_depth_4 : decode cX0_depth 4 = .ok (.ifCond .ne 7, 3) := by decide +kernel
theorem dX0_depth_7 : decode cX0_depth 7 = .ok (.iconst 0, 1) := by decide +kernel
theorem dX0_depth_8 : decode cX0_depth 8 = .ok (.goto 12, 3) := by decide +kernel
theorem dX0_depth_11 : decode cX0_depth 11 = .ok (.aload_n 0, 1) := by decide +kernel
theorem dX0_depth_12 : decode cX0_depth 12 = .ok (.getfield 47, 3) := by decide +kernel
theorem dX0_depth_15 : decode cX0_depth 15 = .ok (.aload_n 0, 1) := by decide +kernel
theorem dX0_depth_16 : decode cX0_depth 16 = .ok (.getfield 44, 3) := by decide +kernel
theorem dX0_depth_19 : decode cX0_depth 19 = .ok (.isub, 1) := by decide +kernel
theorem dX0_depth_20 : decode cX0_depth 20 = .ok (.ireturn, 1) := by decide +kernel
theorem dX1_init_0 : decode cX1_init 0 = .ok (.aload_n 0, 1) := by decide +kernel
theorem dX1_init_1 : decode cX1_init 1 = .ok (.invokespecial 1, 3) := by decide +kernel
theorem dX1_init_4 : decode cX1_init 4 = .ok (.aload_n 0, 1) := by decide +kernel
theorem dX1_init_5 : decode cX1_init 5 = .ok (.new 7, 3) := by decide +kernel
theorem dX1_init_8 : decode cX1_init 8 = .ok (.dup, 1) := by decide +kernel
theorem dX1_init_9 : decode cX1_init 9 = .ok (.invokespecial 9, 3) := by decide +kernel
theorem dX1_init_12 : decode cX1_init 12 = .ok (.putfield 10, 3) := by decide +kernel
theorem dX1_init_15 : decode cX1_init 15 = .ok (.aload_n 0, 1) := by decide +kernel
theorem dX1_init_16 : decode cX1_init 16 = .ok (.bipush 10, 2) := by decide +kernel
theorem dX1_init_18 : decode cX1_init 18 = .ok (.newarray .boolean, 2) := by decide +kernel
theorem dX1_init_20 : decode cX1_init 20 = .ok (.putfield 16, 3) := by decide +kernel
theorem dX1_init_23 : decode cX1_init 23 = .ok (.return_, 1) := by decide +kernel
theorem dX1_load_0 : decode cX1_load 0 = .ok (.aload_n 0, 1) := by decide +kernel
theorem dX1_load_1 : decode cX1_load 1 = .ok (.getfield 10, 3) := by decide +kernel
theorem dX1_load_4 : decode cX1_load 4 = .ok (.aload_n 1, 1) := by decide +kernel
theorem dX1_load_5 : decode cX1_load 5 = .ok (.invokevirtual 20, 3) := by decide +kernel
theorem dX1_load_8 : decode cX1_load 8 = .ok (.aload_n 1, 1) := by decide +kernel
theorem dX1_load_9 : decode cX1_load 9 = .ok (.invokevirtual 24, 3) := by decide +kernel
theorem dX1_load_12 : decode cX1_load 12 = .ok (.invokevirtual 27, 3) := by decide +kernel
theorem dX1_load_15 : decode cX1_load 15 = .ok (.aload_n 0, 1) := by decide +kernel
theorem dX1_load_16 : decode cX1_load 16 = .ok (.getfield 10, 3) := by decide +kernel
theorem dX1_load_19 : decode cX1_load 19 = .ok (.aload_n 1, 1) := by decide +kernel
theorem dX1_load_20 : decode cX1_load 20 = .ok (.iconst 0, 1) := by decide +kernel
theorem dX1_load_21 : decode cX1_load 21 = .ok (.iconst 0, 1) := by decide +kernel
theorem dX1_load_22 : decode cX1_load 22 = .ok (.aload_n 1, 1) := by decide +kernel
theorem dX1_load_23 : decode cX1_load 23 = .ok (.invokevirtual 24, 3) := by decide +kernel
theorem dX1_load_26 : decode cX1_load 26 = .ok (.invokevirtual 31, 3) := by decide +kernel
theorem dX1_load_29 : decode cX1_load 29 = .ok (.iconst 0, 1) := by decide +kernel
theorem dX1_load_30 : decode cX1_load 30 = .ok (.istore_n 2, 1) := by decide +kernel
theorem dX1_load_31 : decode cX1_load 31 = .ok (.iload_n 2, 1) := by decide +kernel
theorem dX1_load_32 : decode cX1_load 32 = .ok (.bipush 10, 2) := by decide +kernel
theorem dX1_load_34 : decode cX1_load 34 = .ok (.if_icmp .ge 16, 3) := by decide +kernel
theorem dX1_load_37 : decode cX1_load 37 = .ok (.aload_n 0, 1) := by decide +kernel
theorem dX1_load_38 : decode cX1_load 38 = .ok (.getfield 16, 3) := by decide +kernel
theorem dX1_load_41 : decode cX1_load 41 = .ok (.iload_n 2, 1) := by decide +kernel
theorem dX1_load_42 : decode cX1_load 42 = .ok (.iconst 0, 1) := by decide +kernel
theorem dX1_load_43 : decode cX1_load 43 = .ok (.bastore, 1) := by decide +kernel
theorem dX1_load_44 : decode cX1_load 44 = .ok (.iinc 2 1, 3) := by decide +kernel
theorem dX1_load_47 : decode cX1_load 47 = .ok (.goto (-16), 3) := by decide +kernel
theorem dX1_load_50 : decode cX1_load 50 = .ok (.return_, 1) := by decide +kernel
theorem dX1_wereSent_0 : decode cX1_wereSent 0 = .ok (.aload_n 0, 1) := by decide +kernel
theorem dX1_wereSent_1 : decode cX1_wereSent 1 = .ok (.getfield 10, 3) := by decide +kernel
theorem dX1_wereSent_4 : decode cX1_wereSent 4 = .ok (.invokevirtual 35, 3) := by decide +kernel
theorem dX1_wereSent_7 : decode cX1_wereSent 7 = .ok (.ireturn, 1) := by decide +kernel
theorem dX1_samplePacks_0 : decode cX1_samplePacks 0 = .ok (.aload_n 0, 1) := by decide +kernel
theorem dX1_samplePacks_1 : decode cX1_samplePacks 1 = .ok (.getfield 10, 3) := by decide +kernel
theorem dX1_samplePacks_4 : decode cX1_samplePacks 4 = .ok (.invokevirtual 24, 3) := by decide +kernel
theorem dX1_samplePacks_7 : decode cX1_samplePacks 7 = .ok (.bipush 8, 2) := by decide +kernel
theorem dX1_samplePacks_9 : decode cX1_samplePacks 9 = .ok (.iadd, 1) := by decide +kernel
theorem dX1_samplePacks_10 : decode cX1_samplePacks 10 = .ok (.iconst 1, 1) := by decide +kernel
theorem dX1_samplePacks_11 : decode cX1_samplePacks 11 = .ok (.isub, 1) := by decide +kernel
theorem dX1_samplePacks_12 : decode cX1_samplePacks 12 = .ok (.bipush 8, 2) := by decide +kernel
theorem dX1_samplePacks_14 : decode cX1_samplePacks 14 = .ok (.idiv, 1) := by decide +kernel
theorem dX1_samplePacks_15 : decode cX1_samplePacks 15 = .ok (.ireturn, 1) := by decide +kernel
theorem dX1_size_0 : decode cX1_size 0 = .ok (.aload_n 0, 1) := by decide +kernel
theorem dX1_size_1 : decode cX1_size 1 = .ok (.invokevirtual 39, 3) := by decide +kernel
theorem dX1_size_4 : decode cX1_size 4 = .ok (.aload_n 0, 1) := by decide +kernel
theorem dX1_size_5 : decode cX1_size 5 = .ok (.invokevirtual 39, 3) := by decide +kernel
theorem dX1_size_8 : decode cX1_size 8 = .ok (.iconst 4, 1) := by decide +kernel
theorem dX1_size_9 : decode cX1_size 9 = .ok (.iadd, 1) := by decide +kernel
theorem dX1_size_10 : decode cX1_size 10 = .ok (.iconst 1, 1) := by decide +kernel
theorem dX1_size_11 : decode cX1_size 11 = .ok (.isub, 1) := by decide +kernel
theorem dX1_size_12 : decode cX1_size 12 = .ok (.iconst 4, 1) := by decide +kernel
theorem dX1_size_13 : decode cX1_size 13 = .ok (.idiv, 1) := by decide +kernel
theorem dX1_size_14 : decode cX1_size 14 = .ok (.iadd, 1) := by decide +kernel
theorem dX1_size_15 : decode cX1_size 15 = .ok (.ireturn, 1) := by decide +kernel
theorem dX1_forget_0 : decode cX1_forget 0 = .ok (.aload_n 0, 1) := by decide +kernel
theorem dX1_forget_1 : decode cX1_forget 1 = .ok (.getfield 16, 3) := by decide +kernel
theorem dX1_forget_4 : decode cX1_forget 4 = .ok (.iload_n 1, 1) := by decide +kernel
theorem dX1_forget_5 : decode cX1_forget 5 = .ok (.baload, 1) := by decide +kernel
theorem dX1_forget_6 : decode cX1_forget 6 = .ok (.istore_n 2, 1) := by decide +kernel
theorem dX1_forget_7 : decode cX1_forget 7 = .ok (.aload_n 0, 1) := by decide +kernel
theorem dX1_forget_8 : decode cX1_forget 8 = .ok (.getfield 16, 3) := by decide +kernel
theorem dX1_forget_11 : decode cX1_forget 11 = .ok (.iload_n 1, 1) := by decide +kernel
theorem dX1_forget_12 : decode cX1_forget 12 = .ok (.iconst 1, 1) := by decide +kernel
theorem dX1_forget_13 : decode cX1_forget 13 = .ok (.bastore, 1) := by decide +kernel
theorem dX1_forget_14 : decode cX1_forget 14 = .ok (.iload_n 2, 1) := by decide +kernel
theorem dX1_forget_15 : decode cX1_forget 15 = .ok (.ifCond .ne 7, 3) := by decide +kernel
theorem dX1_forget_18 : decode cX1_forget 18 = .ok (.iconst 1, 1) := by decide +kernel
theorem dX1_forget_19 : decode cX1_forget 19 = .ok (.goto 4, 3) := by decide +kernel
theorem dX1_forget_22 : decode cX1_forget 22 = .ok (.iconst 0, 1) := by decide +kernel
theorem dX1_forget_23 : decode cX1_forget 23 = .ok (.ireturn, 1) := by decide +kernel
theorem dX1_lostPacks_0 : decode cX1_lostPacks 0 = .ok (.iconst 0, 1) := by decide +kernel
theorem dX1_lostPacks_1 : decode cX1_lostPacks 1 = .ok (.istore_n 1, 1) := by decide +kernel
theorem dX1_lostPacks_2 : decode cX1_lostPacks 2 = .ok (.iconst 0, 1) := by decide +kernel
theorem dX1_lostPacks_3 : decode cX1_lostPacks 3 = .ok (.istore_n 2, 1) := by decide +kernel
theorem dX1_lostPacks_4 : decode cX1_lostPacks 4 = .ok (.iload_n 2, 1) := by decide +kernel
theorem dX1_lostPacks_5 : decode cX1_lostPacks 5 = .ok (.bipush 10, 2) := by decide +kernel
theorem dX1_lostPacks_7 : decode cX1_lostPacks 7 = .ok (.if_icmp .ge 21, 3) := by decide +kernel
theorem dX1_lostPacks_10 : decode cX1_lostPacks 10 = .ok (.aload_n 0, 1) := by decide +kernel
theorem dX1_lostPacks_11 : decode cX1_lostPacks 11 = .ok (.getfield 16, 3) := by decide +kernel
theorem dX1_lostPacks_14 : decode cX1_lostPacks 14 = .ok (.iload_n 2, 1) := by decide +kernel
theorem dX1_lostPacks_15 : decode cX1_lostPacks 15 = .ok (.baload, 1) := by decide +kernel
theorem dX1_lostPacks_16 : decode cX1_lostPacks 16 = .ok (.ifCond .eq 6, 3) := by decide +kernel
theorem dX1_lostPacks_19 : decode cX1_lostPacks 19 = .ok (.iinc 1 1, 3) := by decide +kernel
theorem dX1_lostPacks_22 : decode cX1_lostPacks 22 = .ok (.iinc 2 1, 3) := by decide +kernel
theorem dX1_lostPacks_25 : decode cX1_lostPacks 25 = .ok (.goto (-21), 3) := by decide +kernel
theorem dX1_lostPacks_28 : decode cX1_lostPacks 28 = .ok (.iload_n 1, 1) := by decide +kernel
theorem dX1_lostPacks_29 : decode cX1_lostPacks 29 = .ok (.ireturn, 1) := by decide +kernel
theorem dX1_unload_0 : decode cX1_unload 0 = .ok (.aload_n 1, 1) := by decide +kernel
theorem dX1_unload_1 : decode cX1_unload 1 = .ok (.aload_n 0, 1) := by decide +kernel
theorem dX1_unload_2 : decode cX1_unload 2 = .ok (.getfield 10, 3) := by decide +kernel
theorem dX1_unload_5 : decode cX1_unload 5 = .ok (.invokevirtual 20, 3) := by decide +kernel
theorem dX1_unload_8 : decode cX1_unload 8 = .ok (.aload_n 0, 1) := by decide +kernel
theorem dX1_unload_9 : decode cX1_unload 9 = .ok (.getfield 10, 3) := by decide +kernel
theorem dX1_unload_12 : decode cX1_unload 12 = .ok (.invokevirtual 24, 3) := by decide +kernel
theorem dX1_unload_15 : decode cX1_unload 15 = .ok (.invokevirtual 27, 3) := by decide +kernel
theorem dX1_unload_18 : decode cX1_unload 18 = .ok (.aload_n 1, 1) := by decide +kernel
theorem dX1_unload_19 : decode cX1_unload 19 = .ok (.aload_n 0, 1) := by decide +kernel
theorem dX1_unload_20 : decode cX1_unload 20 = .ok (.getfield 10, 3) := by decide +kernel
theorem dX1_unload_23 : decode cX1_unload 23 = .ok (.iconst 0, 1) := by decide +kernel
theorem dX1_unload_24 : decode cX1_unload 24 = .ok (.iconst 0, 1) := by decide +kernel
theorem dX1_unload_25 : decode cX1_unload 25 = .ok (.aload_n 0, 1) := by decide +kernel
theorem dX1_unload_26 : decode cX1_unload 26 = .ok (.getfield 10, 3) := by decide +kernel
theorem dX1_unload_29 : decode cX1_unload 29 = .ok (.invokevirtual 24, 3) := by decide +kernel
theorem dX1_unload_32 : decode cX1_unload 32 = .ok (.invokevirtual 31, 3) := by decide +kernel
theorem dX1_unload_35 : decode cX1_unload 35 = .ok (.iconst 0, 1) := by decide +kernel
theorem dX1_unload_36 : decode cX1_unload 36 = .ok (.istore_n 2, 1) := by decide +kernel
theorem dX1_unload_37 : decode cX1_unload 37 = .ok (.iload_n 2, 1) := by decide +kernel
theorem dX1_unload_38 : decode cX1_unload 38 = .ok (.aload_n 0, 1) := by decide +kernel
theorem dX1_unload_39 : decode cX1_unload 39 = .ok (.getfield 10, 3) := by decide +kernel
theorem dX1_unload_42 : decode cX1_unload 42 = .ok (.invokevirtual 24, 3) := by decide +kernel
theorem dX1_unload_45 : decode cX1_unload 45 = .ok (.if_icmp .ge 25, 3) := by decide +kernel
theorem dX1_unload_48 : decode cX1_unload 48 = .ok (.aload_n 0, 1) := by decide +kernel
theorem dX1_unload_49 : decode cX1_unload 49 = .ok (.iload_n 2, 1) := by decide +kernel
theorem dX1_unload_50 : decode cX1_unload 50 = .ok (.bipush 8, 2) := by decide +kernel
theorem dX1_unload_52 : decode cX1_unload 52 = .ok (.idiv, 1) := by decide +kernel
theorem dX1_unload_53 : decode cX1_unload 53 = .ok (.invokevirtual 42, 3) := by decide +kernel
theorem dX1_unload_56 : decode cX1_unload 56 = .ok (.ifCond .ne 8, 3) := by decide +kernel
theorem dX1_unload_59 : decode cX1_unload 59 = .ok (.aload_n 1, 1) := by decide +kernel
theorem dX1_unload_60 : decode cX1_unload 60 = .ok (.iload_n 2, 1) := by decide +kernel
theorem dX1_unload_61 : decode cX1_unload 61 = .ok (.invokevirtual 46, 3) := by decide +kernel
theorem dX1_unload_64 : decode cX1_unload 64 = .ok (.iinc 2 1, 3) := by decide +kernel
theorem dX1_unload_67 : decode cX1_unload 67 = .ok (.goto (-30), 3) := by decide +kernel
theorem dX1_unload_70 : decode cX1_unload 70 = .ok (.return_, 1) := by decide +kernel
theorem dX1_comes_0 : decode cX1_comes 0 = .ok (.aload_n 0, 1) := by decide +kernel
theorem dX1_comes_1 : decode cX1_comes 1 = .ok (.invokevirtual 39, 3) := by decide +kernel
theorem dX1_comes_4 : decode cX1_comes 4 = .ok (.iload_n 1, 1) := by decide +kernel
theorem dX1_comes_5 : decode cX1_comes 5 = .ok (.iconst 4, 1) := by decide +kernel
theorem dX1_comes_6 : decode cX1_comes 6 = .ok (.idiv, 1) := by decide +kernel
theorem dX1_comes_7 : decode cX1_comes 7 = .ok (.iadd, 1) := by decide +kernel
theorem dX1_comes_8 : decode cX1_comes 8 = .ok (.istore_n 2, 1) := by decide +kernel
theorem dX1_comes_9 : decode cX1_comes 9 = .ok (.aload_n 0, 1) := by decide +kernel
theorem dX1_comes_10 : decode cX1_comes 10 = .ok (.getfield 16, 3) := by decide +kernel
theorem dX1_comes_13 : decode cX1_comes 13 = .ok (.iload_n 1, 1) := by decide +kernel
theorem dX1_comes_14 : decode cX1_comes 14 = .ok (.baload, 1) := by decide +kernel
theorem dX1_comes_15 : decode cX1_comes 15 = .ok (.ifCond .eq 21, 3) := by decide +kernel
theorem dX1_comes_18 : decode cX1_comes 18 = .ok (.aload_n 0, 1) := by decide +kernel
theorem dX1_comes_19 : decode cX1_comes 19 = .ok (.getfield 16, 3) := by decide +kernel
theorem dX1_comes_22 : decode cX1_comes 22 = .ok (.iload_n 2, 1) := by decide +kernel
theorem dX1_comes_23 : decode cX1_comes 23 = .ok (.baload, 1) := by decide +kernel
theorem dX1_comes_24 : decode cX1_comes 24 = .ok (.ifCond .ne 16, 3) := by decide +kernel
theorem dX1_comes_27 : decode cX1_comes 27 = .ok (.aload_n 0, 1) := by decide +kernel
theorem dX1_comes_28 : decode cX1_comes 28 = .ok (.iload_n 1, 1) := by decide +kernel
theorem dX1_comes_29 : decode cX1_comes 29 = .ok (.invokevirtual 50, 3) := by decide +kernel
theorem dX1_comes_32 : decode cX1_comes 32 = .ok (.iconst 1, 1) := by decide +kernel
theorem dX1_comes_33 : decode cX1_comes 33 = .ok (.if_icmp .ne 7, 3) := by decide +kernel
theorem dX1_comes_36 : decode cX1_comes 36 = .ok (.iconst 1, 1) := by decide +kernel
theorem dX1_comes_37 : decode cX1_comes 37 = .ok (.goto 4, 3) := by decide +kernel
theorem dX1_comes_40 : decode cX1_comes 40 = .ok (.iconst 0, 1) := by decide +kernel
theorem dX1_comes_41 : decode cX1_comes 41 = .ok (.ireturn, 1) := by decide +kernel
theorem dX1_lostBeside_0 : decode cX1_lostBeside 0 = .ok (.iload_n 1, 1) := by decide +kernel
theorem dX1_lostBeside_1 : decode cX1_lostBeside 1 = .ok (.iconst 4, 1) := by decide +kernel
theorem dX1_lostBeside_2 : decode cX1_lostBeside 2 = .ok (.idiv, 1) := by decide +kernel
theorem dX1_lostBeside_3 : decode cX1_lostBeside 3 = .ok (.iconst 4, 1) := by decide +kernel
theorem dX1_lostBeside_4 : decode cX1_lostBeside 4 = .ok (.imul, 1) := by decide +kernel
theorem dX1_lostBeside_5 : decode cX1_lostBeside 5 = .ok (.istore_n 2, 1) := by decide +kernel
theorem dX1_lostBeside_6 : decode cX1_lostBeside 6 = .ok (.iconst 0, 1) := by decide +kernel
theorem dX1_lostBeside_7 : decode cX1_lostBeside 7 = .ok (.istore_n 3, 1) := by decide +kernel
theorem dX1_lostBeside_8 : decode cX1_lostBeside 8 = .ok (.iload_n 2, 1) := by decide +kernel
theorem dX1_lostBeside_9 : decode cX1_lostBeside 9 = .ok (.istore 4, 2) := by decide +kernel
theorem dX1_lostBeside_11 : decode cX1_lostBeside 11 = .ok (.iload 4, 2) := by decide +kernel
theorem dX1_lostBeside_13 : decode cX1_lostBeside 13 = .ok (.iload_n 2, 1) := by decide +kernel
theorem dX1_lostBeside_14 : decode cX1_lostBeside 14 = .ok (.iconst 4, 1) := by decide +kernel
theorem dX1_lostBeside_15 : decode cX1_lostBeside 15 = .ok (.iadd, 1) := by decide +kernel
theorem dX1_lostBeside_16 : decode cX1_lostBeside 16 = .ok (.if_icmp .ge 31, 3) := by decide +kernel
theorem dX1_lostBeside_19 : decode cX1_lostBeside 19 = .ok (.iload 4, 2) := by decide +kernel
theorem dX1_lostBeside_21 : decode cX1_lostBeside 21 = .ok (.aload_n 0, 1) := by decide +kernel
theorem dX1_lostBeside_22 : decode cX1_lostBeside 22 = .ok (.invokevirtual 39, 3) := by decide +kernel
theorem dX1_lostBeside_25 : decode cX1_lostBeside 25 = .ok (.if_icmp .ge 22, 3) := by decide +kernel
theorem dX1_lostBeside_28 : decode cX1_lostBeside 28 = .ok (.aload_n 0, 1) := by decide +kernel
theorem dX1_lostBeside_29 : decode cX1_lostBeside 29 = .ok (.getfield 16, 3) := by decide +kernel
theorem dX1_lostBeside_32 : decode cX1_lostBeside 32 = .ok (.iload 4, 2) := by decide +kernel
theorem dX1_lostBeside_34 : decode cX1_lostBeside 34 = .ok (.baload, 1) := by decide +kernel
theorem dX1_lostBeside_35 : decode cX1_lostBeside 35 = .ok (.ifCond .eq 6, 3) := by decide +kernel
theorem dX1_lostBeside_38 : decode cX1_lostBeside 38 = .ok (.iinc 3 1, 3) := by decide +kernel
theorem dX1_lostBeside_41 : decode cX1_lostBeside 41 = .ok (.iinc 4 1, 3) := by decide +kernel
theorem dX1_lostBeside_44 : decode cX1_lostBeside 44 = .ok (.goto (-33), 3) := by decide +kernel
theorem dX1_lostBeside_47 : decode cX1_lostBeside 47 = .ok (.iload_n 3, 1) := by decide +kernel
theorem dX1_lostBeside_48 : decode cX1_lostBeside 48 = .ok (.ireturn, 1) := by decide +kernel
theorem dX2_init_0 : decode cX2_init 0 = .ok (.aload_n 0, 1) := by decide +kernel
theorem dX2_init_1 : decode cX2_init 1 = .ok (.invokespecial 3, 3) := by decide +kernel
theorem dX2_init_4 : decode cX2_init 4 = .ok (.aload_n 0, 1) := by decide +kernel
theorem dX2_init_5 : decode cX2_init 5 = .ok (.bipush 64, 2) := by decide +kernel
theorem dX2_init_7 : decode cX2_init 7 = .ok (.newarray .long, 2) := by decide +kernel
theorem dX2_init_9 : decode cX2_init 9 = .ok (.putfield 9, 3) := by decide +kernel
theorem dX2_init_12 : decode cX2_init 12 = .ok (.aload_n 0, 1) := by decide +kernel
theorem dX2_init_13 : decode cX2_init 13 = .ok (.bipush 64, 2) := by decide +kernel
theorem dX2_init_15 : decode cX2_init 15 = .ok (.newarray .long, 2) := by decide +kernel
theorem dX2_init_17 : decode cX2_init 17 = .ok (.putfield 15, 3) := by decide +kernel
theorem dX2_init_20 : decode cX2_init 20 = .ok (.aload_n 0, 1) := by decide +kernel
theorem dX2_init_21 : decode cX2_init 21 = .ok (.bipush 64, 2) := by decide +kernel
theorem dX2_init_23 : decode cX2_init 23 = .ok (.newarray .int, 2) := by decide +kernel
theorem dX2_init_25 : decode cX2_init 25 = .ok (.putfield 18, 3) := by decide +kernel
theorem dX2_init_28 : decode cX2_init 28 = .ok (.aload_n 0, 1) := by decide +kernel
theorem dX2_init_29 : decode cX2_init 29 = .ok (.bipush 64, 2) := by decide +kernel
theorem dX2_init_31 : decode cX2_init 31 = .ok (.newarray .long, 2) := by decide +kernel
theorem dX2_init_33 : decode cX2_init 33 = .ok (.putfield 22, 3) := by decide +kernel
theorem dX2_init_36 : decode cX2_init 36 = .ok (.return_, 1) := by decide +kernel
theorem dX2_size_0 : decode cX2_size 0 = .ok (.aload_n 0, 1) := by decide +kernel
theorem dX2_size_1 : decode cX2_size 1 = .ok (.getfield 25, 3) := by decide +kernel
theorem dX2_size_4 : decode cX2_size 4 = .ok (.ireturn, 1) := by decide +kernel
theorem dX2_valueAt_0 : decode cX2_valueAt 0 = .ok (.aload_n 0, 1) := by decide +kernel
theorem dX2_valueAt_1 : decode cX2_valueAt 1 = .ok (.getfield 9, 3) := by decide +kernel
theorem dX2_valueAt_4 : decode cX2_valueAt 4 = .ok (.iload_n 1, 1) := by decide +kernel
theorem dX2_valueAt_5 : decode cX2_valueAt 5 = .ok (.laload, 1) := by decide +kernel
theorem dX2_valueAt_6 : decode cX2_valueAt 6 = .ok (.lreturn, 1) := by decide +kernel
theorem dX2_take_0 : decode cX2_take 0 = .ok (.aload_n 0, 1) := by decide +kernel
theorem dX2_take_1 : decode cX2_take 1 = .ok (.aload_n 1, 1) := by decide +kernel
theorem dX2_take_2 : decode cX2_take 2 = .ok (.invokevirtual 29, 3) := by decide +kernel
theorem dX2_take_5 : decode cX2_take 5 = .ok (.putfield 25, 3) := by decide +kernel
theorem dX2_take_8 : decode cX2_take 8 = .ok (.iconst 0, 1) := by decide +kernel
theorem dX2_take_9 : decode cX2_take 9 = .ok (.istore_n 2, 1) := by decide +kernel
theorem dX2_take_10 : decode cX2_take 10 = .ok (.iload_n 2, 1) := by decide +kernel
theorem dX2_take_11 : decode cX2_take 11 = .ok (.aload_n 0, 1) := by decide +kernel
theorem dX2_take_12 : decode cX2_take 12 = .ok (.getfield 25, 3) := by decide +kernel
theorem dX2_take_15 : decode cX2_take 15 = .ok (.if_icmp .ge 21, 3) := by decide +kernel
theorem dX2_take_18 : decode cX2_take 18 = .ok (.aload_n 0, 1) := by decide +kernel
theorem dX2_take_19 : decode cX2_take 19 = .ok (.getfield 9, 3) := by decide +kernel
theorem dX2_take_22 : decode cX2_take 22 = .ok (.iload_n 2, 1) := by decide +kernel
theorem dX2_take_23 : decode cX2_take 23 = .ok (.aload_n 1, 1) := by decide +kernel
theorem dX2_take_24 : decode cX2_take 24 = .ok (.iload_n 2, 1) := by decide +kernel
theorem dX2_take_25 : decode cX2_take 25 = .ok (.invokevirtual 34, 3) := by decide +kernel
theorem dX2_take_28 : decode cX2_take 28 = .ok (.i2l, 1) := by decide +kernel
theorem dX2_take_29 : decode cX2_take 29 = .ok (.lastore, 1) := by decide +kernel
theorem dX2_take_30 : decode cX2_take 30 = .ok (.iinc 2 1, 3) := by decide +kernel
theorem dX2_take_33 : decode cX2_take 33 = .ok (.goto (-23), 3) := by decide +kernel
theorem dX2_take_36 : decode cX2_take 36 = .ok (.return_, 1) := by decide +kernel
theorem dX2_change_0 : decode cX2_change 0 = .ok (.iload_n 1, 1) := by decide +kernel
theorem dX2_change_1 : decode cX2_change 1 = .ok (.iconst 1, 1) := by decide +kernel
theorem dX2_change_2 : decode cX2_change 2 = .ok (.if_icmp .eq 8, 3) := by decide +kernel
theorem dX2_change_5 : decode cX2_change 5 = .ok (.iload_n 1, 1) := by decide +kernel
theorem dX2_change_6 : decode cX2_change 6 = .ok (.iconst 2, 1) := by decide +kernel
theorem dX2_change_7 : decode cX2_change 7 = .ok (.if_icmp .ne 7, 3) := by decide +kernel
theorem dX2_change_10 : decode cX2_change 10 = .ok (.iconst 1, 1) := by decide +kernel
theorem dX2_change_11 : decode cX2_change 11 = .ok (.goto 4, 3) := by decide +kernel
theorem dX2_change_14 : decode cX2_change 14 = .ok (.iconst 0, 1) := by decide +kernel
theorem dX2_change_15 : decode cX2_change 15 = .ok (.istore_n 2, 1) := by decide +kernel
theorem dX2_change_16 : decode cX2_change 16 = .ok (.iload_n 2, 1) := by decide +kernel
theorem dX2_change_17 : decode cX2_change 17 = .ok (.ifCond .eq 11, 3) := by decide +kernel
theorem dX2_change_20 : decode cX2_change 20 = .ok (.aload_n 0, 1) := by decide +kernel
theorem dX2_change_21 : decode cX2_change 21 = .ok (.getfield 25, 3) := by decide +kernel
theorem dX2_change_24 : decode cX2_change 24 = .ok (.iconst 2, 1) := by decide +kernel
theorem dX2_change_25 : decode cX2_change 25 = .ok (.if_icmp .lt 15, 3) := by decide +kernel
theorem dX2_change_28 : decode cX2_change 28 = .ok (.iload_n 1, 1) := by decide +kernel
theorem dX2_change_29 : decode cX2_change 29 = .ok (.iconst 3, 1) := by decide +kernel
theorem dX2_change_30 : decode cX2_change 30 = .ok (.if_icmp .ne 13, 3) := by decide +kernel
theorem dX2_change_33 : decode cX2_change 33 = .ok (.aload_n 0, 1) := by decide +kernel
theorem dX2_change_34 : decode cX2_change 34 = .ok (.invokevirtual 38, 3) := by decide +kernel
theorem dX2_change_37 : decode cX2_change 37 = .ok (.ifCond .ne 6, 3) := by decide +kernel
theorem dX2_change_40 : decode cX2_change 40 = .ok (.bipush (-3), 2) := by decide +kernel
theorem dX2_change_42 : decode cX2_change 42 = .ok (.ireturn, 1) := by decide +kernel
theorem dX2_change_43 : decode cX2_change 43 = .ok (.iload_n 2, 1) := by decide +kernel
theorem dX2_change_44 : decode cX2_change 44 = .ok (.ifCond .eq 16, 3) := by decide +kernel
theorem dX2_change_47 : decode cX2_change 47 = .ok (.aload_n 0, 1) := by decide +kernel
theorem dX2_change_48 : decode cX2_change 48 = .ok (.ldc2_w 42, 3) := by decide +kernel
theorem dX2_change_51 : decode cX2_change 51 = .ok (.invokevirtual 44, 3) := by decide +kernel
theorem dX2_change_54 : decode cX2_change 54 = .ok (.ifCond .eq 6, 3) := by decide +kernel
theorem dX2_change_57 : decode cX2_change 57 = .ok (.bipush (-16), 2) := by decide +kernel
theorem dX2_change_59 : decode cX2_change 59 = .ok (.ireturn, 1) := by decide +kernel
theorem dX2_change_60 : decode cX2_change 60 = .ok (.iload_n 1, 1) := by decide +kernel
theorem dX2_change_61 : decode cX2_change 61 = .ok (.tableswitch 48 0 2 #[27, 34, 41], 27) := by decide +kernel
theorem dX2_change_88 : decode cX2_change 88 = .ok (.aload_n 0, 1) := by decide +kernel
theorem dX2_change_89 : decode cX2_change 89 = .ok (.invokevirtual 48, 3) := by decide +kernel
theorem dX2_change_92 : decode cX2_change 92 = .ok (.goto 21, 3) := by decide +kernel
theorem dX2_change_95 : decode cX2_change 95 = .ok (.aload_n 0, 1) := by decide +kernel
theorem dX2_change_96 : decode cX2_change 96 = .ok (.invokevirtual 51, 3) := by decide +kernel
theorem dX2_change_99 : decode cX2_change 99 = .ok (.goto 14, 3) := by decide +kernel
theorem dX2_change_102 : decode cX2_change 102 = .ok (.aload_n 0, 1) := by decide +kernel
theorem dX2_change_103 : decode cX2_change 103 = .ok (.invokevirtual 54, 3) := by decide +kernel
theorem dX2_change_106 : decode cX2_change 106 = .ok (.goto 7, 3) := by decide +kernel
theorem dX2_change_109 : decode cX2_change 109 = .ok (.aload_n 0, 1) := by decide +kernel
theorem dX2_change_110 : decode cX2_change 110 = .ok (.invokevirtual 57, 3) := by decide +kernel
theorem dX2_change_113 : decode cX2_change 113 = .ok (.aload_n 0, 1) := by decide +kernel
theorem dX2_change_114 : decode cX2_change 114 = .ok (.invokevirtual 60, 3) := by decide +kernel
theorem dX2_change_117 : decode cX2_change 117 = .ok (.ireturn, 1) := by decide +kernel
theorem dX2_isPowerOfTwo_0 : decode cX2_isPowerOfTwo 0 = .ok (.aload_n 0, 1) := by decide +kernel
theorem dX2_isPowerOfTwo_1 : decode cX2_isPowerOfTwo 1 = .ok (.getfield 25, 3) := by decide +kernel
theorem dX2_isPowerOfTwo_4 : decode cX2_isPowerOfTwo 4 = .ok (.ifCond .le 21, 3) := by decide +kernel
theorem dX2_isPowerOfTwo_7 : decode cX2_isPowerOfTwo 7 = .ok (.aload_n 0, 1) := by decide +kernel
theorem dX2_isPowerOfTwo_8 : decode cX2_isPowerOfTwo 8 = .ok (.getfield 25, 3) := by decide +kernel
theorem dX2_isPowerOfTwo_11 : decode cX2_isPowerOfTwo 11 = .ok (.aload_n 0, 1) := by decide +kernel
theorem dX2_isPowerOfTwo_12 : decode cX2_isPowerOfTwo 12 = .ok (.getfield 25, 3) := by decide +kernel
theorem dX2_isPowerOfTwo_15 : decode cX2_isPowerOfTwo 15 = .ok (.iconst 1, 1) := by decide +kernel
theorem dX2_isPowerOfTwo_16 : decode cX2_isPowerOfTwo 16 = .ok (.isub, 1) := by decide +kernel
theorem dX2_isPowerOfTwo_17 : decode cX2_isPowerOfTwo 17 = .ok (.iand, 1) := by decide +kernel
theorem dX2_isPowerOfTwo_18 : decode cX2_isPowerOfTwo 18 = .ok (.ifCond .ne 7, 3) := by decide +kernel
theorem dX2_isPowerOfTwo_21 : decode cX2_isPowerOfTwo 21 = .ok (.iconst 1, 1) := by decide +kernel
theorem dX2_isPowerOfTwo_22 : decode cX2_isPowerOfTwo 22 = .ok (.goto 4, 3) := by decide +kernel
theorem dX2_isPowerOfTwo_25 : decode cX2_isPowerOfTwo 25 = .ok (.iconst 0, 1) := by decide +kernel
theorem dX2_isPowerOfTwo_26 : decode cX2_isPowerOfTwo 26 = .ok (.ireturn, 1) := by decide +kernel
theorem dX2_makeLevel_0 : decode cX2_makeLevel 0 = .ok (.aload_n 0, 1) := by decide +kernel
theorem dX2_makeLevel_1 : decode cX2_makeLevel 1 = .ok (.invokevirtual 63, 3) := by decide +kernel
theorem dX2_makeLevel_4 : decode cX2_makeLevel 4 = .ok (.lstore_n 1, 1) := by decide +kernel
theorem dX2_makeLevel_5 : decode cX2_makeLevel 5 = .ok (.iconst 0, 1) := by decide +kernel
theorem dX2_makeLevel_6 : decode cX2_makeLevel 6 = .ok (.istore_n 3, 1) := by decide +kernel
theorem dX2_makeLevel_7 : decode cX2_makeLevel 7 = .ok (.iload_n 3, 1) := by decide +kernel
theorem dX2_makeLevel_8 : decode cX2_makeLevel 8 = .ok (.aload_n 0, 1) := by decide +kernel
theorem dX2_makeLevel_9 : decode cX2_makeLevel 9 = .ok (.getfield 25, 3) := by decide +kernel
theorem dX2_makeLevel_12 : decode cX2_makeLevel 12 = .ok (.if_icmp .ge 29, 3) := by decide +kernel
theorem dX2_makeLevel_15 : decode cX2_makeLevel 15 = .ok (.aload_n 0, 1) := by decide +kernel
theorem dX2_makeLevel_16 : decode cX2_makeLevel 16 = .ok (.getfield 15, 3) := by decide +kernel
theorem dX2_makeLevel_19 : decode cX2_makeLevel 19 = .ok (.iload_n 3, 1) := by decide +kernel
theorem dX2_makeLevel_20 : decode cX2_makeLevel 20 = .ok (.aload_n 0, 1) := by decide +kernel
theorem dX2_makeLevel_21 : decode cX2_makeLevel 21 = .ok (.getfield 25, 3) := by decide +kernel
theorem dX2_makeLevel_24 : decode cX2_makeLevel 24 = .ok (.i2l, 1) := by decide +kernel
theorem dX2_makeLevel_25 : decode cX2_makeLevel 25 = .ok (.aload_n 0, 1) := by decide +kernel
theorem dX2_makeLevel_26 : decode cX2_makeLevel 26 = .ok (.getfield 9, 3) := by decide +kernel
theorem dX2_makeLevel_29 : decode cX2_makeLevel 29 = .ok (.iload_n 3, 1) := by decide +kernel
theorem dX2_makeLevel_30 : decode cX2_makeLevel 30 = .ok (.laload, 1) := by decide +kernel
theorem dX2_makeLevel_31 : decode cX2_makeLevel 31 = .ok (.lmul, 1) := by decide +kernel
theorem dX2_makeLevel_32 : decode cX2_makeLevel 32 = .ok (.lload_n 1, 1) := by decide +kernel
theorem dX2_makeLevel_33 : decode cX2_makeLevel 33 = .ok (.lsub, 1) := by decide +kernel
theorem dX2_makeLevel_34 : decode cX2_makeLevel 34 = .ok (.lastore, 1) := by decide +kernel
theorem dX2_makeLevel_35 : decode cX2_makeLevel 35 = .ok (.iinc 3 1, 3) := by decide +kernel
theorem dX2_makeLevel_38 : decode cX2_makeLevel 38 = .ok (.goto (-31), 3) := by decide +kernel
theorem dX2_makeLevel_41 : decode cX2_makeLevel 41 = .ok (.return_, 1) := by decide +kernel
theorem dX2_makeFlat_0 : decode cX2_makeFlat 0 = .ok (.aload_n 0, 1) := by decide +kernel
theorem dX2_makeFlat_1 : decode cX2_makeFlat 1 = .ok (.getfield 25, 3) := by decide +kernel
theorem dX2_makeFlat_4 : decode cX2_makeFlat 4 = .ok (.i2l, 1) := by decide +kernel
theorem dX2_makeFlat_5 : decode cX2_makeFlat 5 = .ok (.lstore_n 1, 1) := by decide +kernel
theorem dX2_makeFlat_6 : decode cX2_makeFlat 6 = .ok (.lload_n 1, 1) := by decide +kernel
theorem dX2_makeFlat_7 : decode cX2_makeFlat 7 = .ok (.lload_n 1, 1) := by decide +kernel
theorem dX2_makeFlat_8 : decode cX2_makeFlat 8 = .ok (.lmul, 1) := by decide +kernel
theorem dX2_makeFlat_9 : decode cX2_makeFlat 9 = .ok (.lconst 1, 1) := by decide +kernel
theorem dX2_makeFlat_10 : decode cX2_makeFlat 10 = .ok (.lsub, 1) := by decide +kernel
theorem dX2_makeFlat_11 : decode cX2_makeFlat 11 = .ok (.lstore_n 3, 1) := by decide +kernel
theorem dX2_makeFlat_12 : decode cX2_makeFlat 12 = .ok (.aload_n 0, 1) := by decide +kernel
theorem dX2_makeFlat_13 : decode cX2_makeFlat 13 = .ok (.invokevirtual 63, 3) := by decide +kernel
theorem dX2_makeFlat_16 : decode cX2_makeFlat 16 = .ok (.lstore 5, 2) := by decide +kernel
theorem dX2_makeFlat_18 : decode cX2_makeFlat 18 = .ok (.lconst 0, 1) := by decide +kernel
theorem dX2_makeFlat_19 : decode cX2_makeFlat 19 = .ok (.lstore 7, 2) := by decide +kernel
theorem dX2_makeFlat_21 : decode cX2_makeFlat 21 = .ok (.iconst 0, 1) := by decide +kernel
theorem dX2_makeFlat_22 : decode cX2_makeFlat 22 = .ok (.istore 9, 2) := by decide +kernel
theorem dX2_makeFlat_24 : decode cX2_makeFlat 24 = .ok (.iload 9, 2) := by decide +kernel
theorem dX2_makeFlat_26 : decode cX2_makeFlat 26 = .ok (.aload_n 0, 1) := by decide +kernel
theorem dX2_makeFlat_27 : decode cX2_makeFlat 27 = .ok (.getfield 25, 3) := by decide +kernel
theorem dX2_makeFlat_30 : decode cX2_makeFlat 30 = .ok (.if_icmp .ge 31, 3) := by decide +kernel
theorem dX2_makeFlat_33 : decode cX2_makeFlat 33 = .ok (.lload 7, 2) := by decide +kernel
theorem dX2_makeFlat_35 : decode cX2_makeFlat 35 = .ok (.iconst 2, 1) := by decide +kernel
theorem dX2_makeFlat_36 : decode cX2_makeFlat 36 = .ok (.iload 9, 2) := by decide +kernel
theorem dX2_makeFlat_38 : decode cX2_makeFlat 38 = .ok (.imul, 1) := by decide +kernel
theorem dX2_makeFlat_39 : decode cX2_makeFlat 39 = .ok (.i2l, 1) := by decide +kernel
theorem dX2_makeFlat_40 : decode cX2_makeFlat 40 = .ok (.lload_n 1, 1) := by decide +kernel
theorem dX2_makeFlat_41 : decode cX2_makeFlat 41 = .ok (.lsub, 1) := by decide +kernel
theorem dX2_makeFlat_42 : decode cX2_makeFlat 42 = .ok (.lconst 1, 1) := by decide +kernel
theorem dX2_makeFlat_43 : decode cX2_makeFlat 43 = .ok (.ladd, 1) := by decide +kernel
theorem dX2_makeFlat_44 : decode cX2_makeFlat 44 = .ok (.aload_n 0, 1) := by decide +kernel
theorem dX2_makeFlat_45 : decode cX2_makeFlat 45 = .ok (.getfield 9, 3) := by decide +kernel
theorem dX2_makeFlat_48 : decode cX2_makeFlat 48 = .ok (.iload 9, 2) := by decide +kernel
theorem dX2_makeFlat_50 : decode cX2_makeFlat 50 = .ok (.laload, 1) := by decide +kernel
theorem dX2_makeFlat_51 : decode cX2_makeFlat 51 = .ok (.lmul, 1) := by decide +kernel
theorem dX2_makeFlat_52 : decode cX2_makeFlat 52 = .ok (.ladd, 1) := by decide +kernel
theorem dX2_makeFlat_53 : decode cX2_makeFlat 53 = .ok (.lstore 7, 2) := by decide +kernel
theorem dX2_makeFlat_55 : decode cX2_makeFlat 55 = .ok (.iinc 9 1, 3) := by decide +kernel
theorem dX2_makeFlat_58 : decode cX2_makeFlat 58 = .ok (.goto (-34), 3) := by decide +kernel
theorem dX2_makeFlat_61 : decode cX2_makeFlat 61 = .ok (.iconst 0, 1) := by decide +kernel
theorem dX2_makeFlat_62 : decode cX2_makeFlat 62 = .ok (.istore 9, 2) := by decide +kernel
theorem dX2_makeFlat_64 : decode cX2_makeFlat 64 = .ok (.iload 9, 2) := by decide +kernel
theorem dX2_makeFlat_66 : decode cX2_makeFlat 66 = .ok (.aload_n 0, 1) := by decide +kernel
theorem dX2_makeFlat_67 : decode cX2_makeFlat 67 = .ok (.getfield 25, 3) := by decide +kernel
theorem dX2_makeFlat_70 : decode cX2_makeFlat 70 = .ok (.if_icmp .ge 49, 3) := by decide +kernel
theorem dX2_makeFlat_73 : decode cX2_makeFlat 73 = .ok (.aload_n 0, 1) := by decide +kernel
theorem dX2_makeFlat_74 : decode cX2_makeFlat 74 = .ok (.getfield 15, 3) := by decide +kernel
theorem dX2_makeFlat_77 : decode cX2_makeFlat 77 = .ok (.iload 9, 2) := by decide +kernel
theorem dX2_makeFlat_79 : decode cX2_makeFlat 79 = .ok (.lload_n 1, 1) := by decide +kernel
theorem dX2_makeFlat_80 : decode cX2_makeFlat 80 = .ok (.lload_n 3, 1) := by decide +kernel
theorem dX2_makeFlat_81 : decode cX2_makeFlat 81 = .ok (.lmul, 1) := by decide +kernel
theorem dX2_makeFlat_82 : decode cX2_makeFlat 82 = .ok (.aload_n 0, 1) := by decide +kernel
theorem dX2_makeFlat_83 : decode cX2_makeFlat 83 = .ok (.getfield 9, 3) := by decide +kernel
theorem dX2_makeFlat_86 : decode cX2_makeFlat 86 = .ok (.iload 9, 2) := by decide +kernel
theorem dX2_makeFlat_88 : decode cX2_makeFlat 88 = .ok (.laload, 1) := by decide +kernel
theorem dX2_makeFlat_89 : decode cX2_makeFlat 89 = .ok (.lmul, 1) := by decide +kernel
theorem dX2_makeFlat_90 : decode cX2_makeFlat 90 = .ok (.lload_n 3, 1) := by decide +kernel
theorem dX2_makeFlat_91 : decode cX2_makeFlat 91 = .ok (.lload 5, 2) := by decide +kernel
theorem dX2_makeFlat_93 : decode cX2_makeFlat 93 = .ok (.lmul, 1) := by decide +kernel
theorem dX2_makeFlat_94 : decode cX2_makeFlat 94 = .ok (.lsub, 1) := by decide +kernel
theorem dX2_makeFlat_95 : decode cX2_makeFlat 95 = .ok (.ldc2_w 67, 3) := by decide +kernel
theorem dX2_makeFlat_98 : decode cX2_makeFlat 98 = .ok (.iconst 2, 1) := by decide +kernel
theorem dX2_makeFlat_99 : decode cX2_makeFlat 99 = .ok (.iload 9, 2) := by decide +kernel
theorem dX2_makeFlat_101 : decode cX2_makeFlat 101 = .ok (.imul, 1) := by decide +kernel
theorem dX2_makeFlat_102 : decode cX2_makeFlat 102 = .ok (.i2l, 1) := by decide +kernel
theorem dX2_makeFlat_103 : decode cX2_makeFlat 103 = .ok (.lload_n 1, 1) := by decide +kernel
theorem dX2_makeFlat_104 : decode cX2_makeFlat 104 = .ok (.lsub, 1) := by decide +kernel
theorem dX2_makeFlat_105 : decode cX2_makeFlat 105 = .ok (.lconst 1, 1) := by decide +kernel
theorem dX2_makeFlat_106 : decode cX2_makeFlat 106 = .ok (.ladd, 1) := by decide +kernel
theorem dX2_makeFlat_107 : decode cX2_makeFlat 107 = .ok (.lmul, 1) := by decide +kernel
theorem dX2_makeFlat_108 : decode cX2_makeFlat 108 = .ok (.lload 7, 2) := by decide +kernel
theorem dX2_makeFlat_110 : decode cX2_makeFlat 110 = .ok (.lmul, 1) := by decide +kernel
theorem dX2_makeFlat_111 : decode cX2_makeFlat 111 = .ok (.lsub, 1) := by decide +kernel
theorem dX2_makeFlat_112 : decode cX2_makeFlat 112 = .ok (.lastore, 1) := by decide +kernel
theorem dX2_makeFlat_113 : decode cX2_makeFlat 113 = .ok (.iinc 9 1, 3) := by decide +kernel
theorem dX2_makeFlat_116 : decode cX2_makeFlat 116 = .ok (.goto (-52), 3) := by decide +kernel
theorem dX2_makeFlat_119 : decode cX2_makeFlat 119 = .ok (.return_, 1) := by decide +kernel
theorem dX2_makeTwice_0 : decode cX2_makeTwice 0 = .ok (.lconst 0, 1) := by decide +kernel
theorem dX2_makeTwice_1 : decode cX2_makeTwice 1 = .ok (.lstore_n 1, 1) := by decide +kernel
theorem dX2_makeTwice_2 : decode cX2_makeTwice 2 = .ok (.lconst 0, 1) := by decide +kernel
theorem dX2_makeTwice_3 : decode cX2_makeTwice 3 = .ok (.lstore_n 3, 1) := by decide +kernel
theorem dX2_makeTwice_4 : decode cX2_makeTwice 4 = .ok (.iconst 0, 1) := by decide +kernel
theorem dX2_makeTwice_5 : decode cX2_makeTwice 5 = .ok (.istore 5, 2) := by decide +kernel
theorem dX2_makeTwice_7 : decode cX2_makeTwice 7 = .ok (.iload 5, 2) := by decide +kernel
theorem dX2_makeTwice_9 : decode cX2_makeTwice 9 = .ok (.aload_n 0, 1) := by decide +kernel
theorem dX2_makeTwice_10 : decode cX2_makeTwice 10 = .ok (.getfield 25, 3) := by decide +kernel
theorem dX2_makeTwice_13 : decode cX2_makeTwice 13 = .ok (.if_icmp .ge 31, 3) := by decide +kernel
theorem dX2_makeTwice_16 : decode cX2_makeTwice 16 = .ok (.aload_n 0, 1) := by decide +kernel
theorem dX2_makeTwice_17 : decode cX2_makeTwice 17 = .ok (.getfield 15, 3) := by decide +kernel
theorem dX2_makeTwice_20 : decode cX2_makeTwice 20 = .ok (.iload 5, 2) := by decide +kernel
theorem dX2_makeTwice_22 : decode cX2_makeTwice 22 = .ok (.lload_n 3, 1) := by decide +kernel
theorem dX2_makeTwice_23 : decode cX2_makeTwice 23 = .ok (.lastore, 1) := by decide +kernel
theorem dX2_makeTwice_24 : decode cX2_makeTwice 24 = .ok (.lload_n 1, 1) := by decide +kernel
theorem dX2_makeTwice_25 : decode cX2_makeTwice 25 = .ok (.aload_n 0, 1) := by decide +kernel
theorem dX2_makeTwice_26 : decode cX2_makeTwice 26 = .ok (.getfield 9, 3) := by decide +kernel
theorem dX2_makeTwice_29 : decode cX2_makeTwice 29 = .ok (.iload 5, 2) := by decide +kernel
theorem dX2_makeTwice_31 : decode cX2_makeTwice 31 = .ok (.laload, 1) := by decide +kernel
theorem dX2_makeTwice_32 : decode cX2_makeTwice 32 = .ok (.ladd, 1) := by decide +kernel
theorem dX2_makeTwice_33 : decode cX2_makeTwice 33 = .ok (.lstore_n 1, 1) := by decide +kernel
theorem dX2_makeTwice_34 : decode cX2_makeTwice 34 = .ok (.lload_n 3, 1) := by decide +kernel
theorem dX2_makeTwice_35 : decode cX2_makeTwice 35 = .ok (.lload_n 1, 1) := by decide +kernel
theorem dX2_makeTwice_36 : decode cX2_makeTwice 36 = .ok (.ladd, 1) := by decide +kernel
theorem dX2_makeTwice_37 : decode cX2_makeTwice 37 = .ok (.lstore_n 3, 1) := by decide +kernel
theorem dX2_makeTwice_38 : decode cX2_makeTwice 38 = .ok (.iinc 5 1, 3) := by decide +kernel
theorem dX2_makeTwice_41 : decode cX2_makeTwice 41 = .ok (.goto (-34), 3) := by decide +kernel
theorem dX2_makeTwice_44 : decode cX2_makeTwice 44 = .ok (.aload_n 0, 1) := by decide +kernel
theorem dX2_makeTwice_45 : decode cX2_makeTwice 45 = .ok (.getfield 25, 3) := by decide +kernel
theorem dX2_makeTwice_48 : decode cX2_makeTwice 48 = .ok (.ifCond .le 17, 3) := by decide +kernel
theorem dX2_makeTwice_51 : decode cX2_makeTwice 51 = .ok (.aload_n 0, 1) := by decide +kernel
theorem dX2_makeTwice_52 : decode cX2_makeTwice 52 = .ok (.getfield 15, 3) := by decide +kernel
theorem dX2_makeTwice_55 : decode cX2_makeTwice 55 = .ok (.aload_n 0, 1) := by decide +kernel
theorem dX2_makeTwice_56 : decode cX2_makeTwice 56 = .ok (.getfield 25, 3) := by decide +kernel
theorem dX2_makeTwice_59 : decode cX2_makeTwice 59 = .ok (.iconst 1, 1) := by decide +kernel
theorem dX2_makeTwice_60 : decode cX2_makeTwice 60 = .ok (.isub, 1) := by decide +kernel
theorem dX2_makeTwice_61 : decode cX2_makeTwice 61 = .ok (.laload, 1) := by decide +kernel
theorem dX2_makeTwice_62 : decode cX2_makeTwice 62 = .ok (.goto 4, 3) := by decide +kernel
theorem dX2_makeTwice_65 : decode cX2_makeTwice 65 = .ok (.lconst 0, 1) := by decide +kernel
theorem dX2_makeTwice_66 : decode cX2_makeTwice 66 = .ok (.lstore 5, 2) := by decide +kernel
theorem dX2_makeTwice_68 : decode cX2_makeTwice 68 = .ok (.iconst 0, 1) := by decide +kernel
theorem dX2_makeTwice_69 : decode cX2_makeTwice 69 = .ok (.istore 7, 2) := by decide +kernel
theorem dX2_makeTwice_71 : decode cX2_makeTwice 71 = .ok (.iload 7, 2) := by decide +kernel
theorem dX2_makeTwice_73 : decode cX2_makeTwice 73 = .ok (.aload_n 0, 1) := by decide +kernel
theorem dX2_makeTwice_74 : decode cX2_makeTwice 74 = .ok (.getfield 25, 3) := by decide +kernel
theorem dX2_makeTwice_77 : decode cX2_makeTwice 77 = .ok (.if_icmp .ge 38, 3) := by decide +kernel
theorem dX2_makeTwice_80 : decode cX2_makeTwice 80 = .ok (.aload_n 0, 1) := by decide +kernel
theorem dX2_makeTwice_81 : decode cX2_makeTwice 81 = .ok (.getfield 15, 3) := by decide +kernel
theorem dX2_makeTwice_84 : decode cX2_makeTwice 84 = .ok (.iload 7, 2) := by decide +kernel
theorem dX2_makeTwice_86 : decode cX2_makeTwice 86 = .ok (.aload_n 0, 1) := by decide +kernel
theorem dX2_makeTwice_87 : decode cX2_makeTwice 87 = .ok (.getfield 25, 3) := by decide +kernel
theorem dX2_makeTwice_90 : decode cX2_makeTwice 90 = .ok (.iconst 1, 1) := by decide +kernel
theorem dX2_makeTwice_91 : decode cX2_makeTwice 91 = .ok (.isub, 1) := by decide +kernel
theorem dX2_makeTwice_92 : decode cX2_makeTwice 92 = .ok (.i2l, 1) := by decide +kernel
theorem dX2_makeTwice_93 : decode cX2_makeTwice 93 = .ok (.aload_n 0, 1) := by decide +kernel
theorem dX2_makeTwice_94 : decode cX2_makeTwice 94 = .ok (.getfield 15, 3) := by decide +kernel
theorem dX2_makeTwice_97 : decode cX2_makeTwice 97 = .ok (.iload 7, 2) := by decide +kernel
theorem dX2_makeTwice_99 : decode cX2_makeTwice 99 = .ok (.laload, 1) := by decide +kernel
theorem dX2_makeTwice_100 : decode cX2_makeTwice 100 = .ok (.lmul, 1) := by decide +kernel
theorem dX2_makeTwice_101 : decode cX2_makeTwice 101 = .ok (.iload 7, 2) := by decide +kernel
theorem dX2_makeTwice_103 : decode cX2_makeTwice 103 = .ok (.i2l, 1) := by decide +kernel
theorem dX2_makeTwice_104 : decode cX2_makeTwice 104 = .ok (.lload 5, 2) := by decide +kernel
theorem dX2_makeTwice_106 : decode cX2_makeTwice 106 = .ok (.lmul, 1) := by decide +kernel
theorem dX2_makeTwice_107 : decode cX2_makeTwice 107 = .ok (.lsub, 1) := by decide +kernel
theorem dX2_makeTwice_108 : decode cX2_makeTwice 108 = .ok (.lastore, 1) := by decide +kernel
theorem dX2_makeTwice_109 : decode cX2_makeTwice 109 = .ok (.iinc 7 1, 3) := by decide +kernel
theorem dX2_makeTwice_112 : decode cX2_makeTwice 112 = .ok (.goto (-41), 3) := by decide +kernel
theorem dX2_makeTwice_115 : decode cX2_makeTwice 115 = .ok (.return_, 1) := by decide +kernel
theorem dX2_makeTones_0 : decode cX2_makeTones 0 = .ok (.iconst 0, 1) := by decide +kernel
theorem dX2_makeTones_1 : decode cX2_makeTones 1 = .ok (.istore_n 1, 1) := by decide +kernel
theorem dX2_makeTones_2 : decode cX2_makeTones 2 = .ok (.iload_n 1, 1) := by decide +kernel
theorem dX2_makeTones_3 : decode cX2_makeTones 3 = .ok (.aload_n 0, 1) := by decide +kernel
theorem dX2_makeTones_4 : decode cX2_makeTones 4 = .ok (.getfield 25, 3) := by decide +kernel
theorem dX2_makeTones_7 : decode cX2_makeTones 7 = .ok (.if_icmp .ge 88, 3) := by decide +kernel
theorem dX2_makeTones_10 : decode cX2_makeTones 10 = .ok (.aload_n 0, 1) := by decide +kernel
theorem dX2_makeTones_11 : decode cX2_makeTones 11 = .ok (.iload_n 1, 1) := by decide +kernel
theorem dX2_makeTones_12 : decode cX2_makeTones 12 = .ok (.invokevirtual 69, 3) := by decide +kernel
theorem dX2_makeTones_15 : decode cX2_makeTones 15 = .ok (.istore_n 2, 1) := by decide +kernel
theorem dX2_makeTones_16 : decode cX2_makeTones 16 = .ok (.lconst 0, 1) := by decide +kernel
theorem dX2_makeTones_17 : decode cX2_makeTones 17 = .ok (.lstore_n 3, 1) := by decide +kernel
theorem dX2_makeTones_18 : decode cX2_makeTones 18 = .ok (.iconst 0, 1) := by decide +kernel
theorem dX2_makeTones_19 : decode cX2_makeTones 19 = .ok (.istore 5, 2) := by decide +kernel
theorem dX2_makeTones_21 : decode cX2_makeTones 21 = .ok (.iload 5, 2) := by decide +kernel
theorem dX2_makeTones_23 : decode cX2_makeTones 23 = .ok (.aload_n 0, 1) := by decide +kernel
theorem dX2_makeTones_24 : decode cX2_makeTones 24 = .ok (.getfield 25, 3) := by decide +kernel
theorem dX2_makeTones_27 : decode cX2_makeTones 27 = .ok (.if_icmp .ge 55, 3) := by decide +kernel
theorem dX2_makeTones_30 : decode cX2_makeTones 30 = .ok (.iload 5, 2) := by decide +kernel
theorem dX2_makeTones_32 : decode cX2_makeTones 32 = .ok (.iload_n 2, 1) := by decide +kernel
theorem dX2_makeTones_33 : decode cX2_makeTones 33 = .ok (.iand, 1) := by decide +kernel
theorem dX2_makeTones_34 : decode cX2_makeTones 34 = .ok (.invokestatic 72, 3) := by decide +kernel
theorem dX2_makeTones_37 : decode cX2_makeTones 37 = .ok (.iconst 1, 1) := by decide +kernel
theorem dX2_makeTones_38 : decode cX2_makeTones 38 = .ok (.iand, 1) := by decide +kernel
theorem dX2_makeTones_39 : decode cX2_makeTones 39 = .ok (.iconst 1, 1) := by decide +kernel
theorem dX2_makeTones_40 : decode cX2_makeTones 40 = .ok (.if_icmp .ne 7, 3) := by decide +kernel
theorem dX2_makeTones_43 : decode cX2_makeTones 43 = .ok (.iconst 1, 1) := by decide +kernel
theorem dX2_makeTones_44 : decode cX2_makeTones 44 = .ok (.goto 4, 3) := by decide +kernel
theorem dX2_makeTones_47 : decode cX2_makeTones 47 = .ok (.iconst 0, 1) := by decide +kernel
theorem dX2_makeTones_48 : decode cX2_makeTones 48 = .ok (.istore 6, 2) := by decide +kernel
theorem dX2_makeTones_50 : decode cX2_makeTones 50 = .ok (.lload_n 3, 1) := by decide +kernel
theorem dX2_makeTones_51 : decode cX2_makeTones 51 = .ok (.iload 6, 2) := by decide +kernel
theorem dX2_makeTones_53 : decode cX2_makeTones 53 = .ok (.ifCond .eq 14, 3) := by decide +kernel
theorem dX2_makeTones_56 : decode cX2_makeTones 56 = .ok (.aload_n 0, 1) := by decide +kernel
theorem dX2_makeTones_57 : decode cX2_makeTones 57 = .ok (.getfield 9, 3) := by decide +kernel
theorem dX2_makeTones_60 : decode cX2_makeTones 60 = .ok (.iload 5, 2) := by decide +kernel
theorem dX2_makeTones_62 : decode cX2_makeTones 62 = .ok (.laload, 1) := by decide +kernel
theorem dX2_makeTones_63 : decode cX2_makeTones 63 = .ok (.lneg, 1) := by decide +kernel
theorem dX2_makeTones_64 : decode cX2_makeTones 64 = .ok (.goto 10, 3) := by decide +kernel
theorem dX2_makeTones_67 : decode cX2_makeTones 67 = .ok (.aload_n 0, 1) := by decide +kernel
theorem dX2_makeTones_68 : decode cX2_makeTones 68 = .ok (.getfield 9, 3) := by decide +kernel
theorem dX2_makeTones_71 : decode cX2_makeTones 71 = .ok (.iload 5, 2) := by decide +kernel
theorem dX2_makeTones_73 : decode cX2_makeTones 73 = .ok (.laload, 1) := by decide +kernel
theorem dX2_makeTones_74 : decode cX2_makeTones 74 = .ok (.ladd, 1) := by decide +kernel
theorem dX2_makeTones_75 : decode cX2_makeTones 75 = .ok (.lstore_n 3, 1) := by decide +kernel
theorem dX2_makeTones_76 : decode cX2_makeTones 76 = .ok (.iinc 5 1, 3) := by decide +kernel
theorem dX2_makeTones_79 : decode cX2_makeTones 79 = .ok (.goto (-58), 3) := by decide +kernel
theorem dX2_makeTones_82 : decode cX2_makeTones 82 = .ok (.aload_n 0, 1) := by decide +kernel
theorem dX2_makeTones_83 : decode cX2_makeTones 83 = .ok (.getfield 15, 3) := by decide +kernel
theorem dX2_makeTones_86 : decode cX2_makeTones 86 = .ok (.iload_n 1, 1) := by decide +kernel
theorem dX2_makeTones_87 : decode cX2_makeTones 87 = .ok (.lload_n 3, 1) := by decide +kernel
theorem dX2_makeTones_88 : decode cX2_makeTones 88 = .ok (.lastore, 1) := by decide +kernel
theorem dX2_makeTones_89 : decode cX2_makeTones 89 = .ok (.iinc 1 1, 3) := by decide +kernel
theorem dX2_makeTones_92 : decode cX2_makeTones 92 = .ok (.goto (-90), 3) := by decide +kernel
theorem dX2_makeTones_95 : decode cX2_makeTones 95 = .ok (.return_, 1) := by decide +kernel
theorem dX2_toneMask_0 : decode cX2_toneMask 0 = .ok (.iload_n 1, 1) := by decide +kernel
theorem dX2_toneMask_1 : decode cX2_toneMask 1 = .ok (.iload_n 1, 1) := by decide +kernel
theorem dX2_toneMask_2 : decode cX2_toneMask 2 = .ok (.iconst 1, 1) := by decide +kernel
theorem dX2_toneMask_3 : decode cX2_toneMask 3 = .ok (.ishr, 1) := by decide +kernel
theorem dX2_toneMask_4 : decode cX2_toneMask 4 = .ok (.ixor, 1) := by decide +kernel
theorem dX2_toneMask_5 : decode cX2_toneMask 5 = .ok (.istore_n 2, 1) := by decide +kernel
theorem dX2_toneMask_6 : decode cX2_toneMask 6 = .ok (.iconst 0, 1) := by decide +kernel
theorem dX2_toneMask_7 : decode cX2_toneMask 7 = .ok (.istore_n 3, 1) := by decide +kernel
theorem dX2_toneMask_8 : decode cX2_toneMask 8 = .ok (.iconst 0, 1) := by decide +kernel
theorem dX2_toneMask_9 : decode cX2_toneMask 9 = .ok (.istore 4, 2) := by decide +kernel
theorem dX2_toneMask_11 : decode cX2_toneMask 11 = .ok (.iload 4, 2) := by decide +kernel
theorem dX2_toneMask_13 : decode cX2_toneMask 13 = .ok (.bipush 6, 2) := by decide +kernel
theorem dX2_toneMask_15 : decode cX2_toneMask 15 = .ok (.if_icmp .ge 31, 3) := by decide +kernel
theorem dX2_toneMask_18 : decode cX2_toneMask 18 = .ok (.iconst 1, 1) := by decide +kernel
theorem dX2_toneMask_19 : decode cX2_toneMask 19 = .ok (.iload 4, 2) := by decide +kernel
theorem dX2_toneMask_21 : decode cX2_toneMask 21 = .ok (.ishl, 1) := by decide +kernel
theorem dX2_toneMask_22 : decode cX2_toneMask 22 = .ok (.aload_n 0, 1) := by decide +kernel
theorem dX2_toneMask_23 : decode cX2_toneMask 23 = .ok (.getfield 25, 3) := by decide +kernel
theorem dX2_toneMask_26 : decode cX2_toneMask 26 = .ok (.if_icmp .ge 20, 3) := by decide +kernel
theorem dX2_toneMask_29 : decode cX2_toneMask 29 = .ok (.iload_n 3, 1) := by decide +kernel
theorem dX2_toneMask_30 : decode cX2_toneMask 30 = .ok (.iconst 1, 1) := by decide +kernel
theorem dX2_toneMask_31 : decode cX2_toneMask 31 = .ok (.ishl, 1) := by decide +kernel
theorem dX2_toneMask_32 : decode cX2_toneMask 32 = .ok (.iload_n 2, 1) := by decide +kernel
theorem dX2_toneMask_33 : decode cX2_toneMask 33 = .ok (.iload 4, 2) := by decide +kernel
theorem dX2_toneMask_35 : decode cX2_toneMask 35 = .ok (.ishr, 1) := by decide +kernel
theorem dX2_toneMask_36 : decode cX2_toneMask 36 = .ok (.iconst 1, 1) := by decide +kernel
theorem dX2_toneMask_37 : decode cX2_toneMask 37 = .ok (.iand, 1) := by decide +kernel
theorem dX2_toneMask_38 : decode cX2_toneMask 38 = .ok (.ior, 1) := by decide +kernel
theorem dX2_toneMask_39 : decode cX2_toneMask 39 = .ok (.istore_n 3, 1) := by decide +kernel
theorem dX2_toneMask_40 : decode cX2_toneMask 40 = .ok (.iinc 4 1, 3) := by decide +kernel
theorem dX2_toneMask_43 : decode cX2_toneMask 43 = .ok (.goto (-32), 3) := by decide +kernel
theorem dX2_toneMask_46 : decode cX2_toneMask 46 = .ok (.iload_n 3, 1) := by decide +kernel
theorem dX2_toneMask_47 : decode cX2_toneMask 47 = .ok (.ireturn, 1) := by decide +kernel
theorem dX2_sum_0 : decode cX2_sum 0 = .ok (.lconst 0, 1) := by decide +kernel
theorem dX2_sum_1 : decode cX2_sum 1 = .ok (.lstore_n 1, 1) := by decide +kernel
theorem dX2_sum_2 : decode cX2_sum 2 = .ok (.iconst 0, 1) := by decide +kernel
theorem dX2_sum_3 : decode cX2_sum 3 = .ok (.istore_n 3, 1) := by decide +kernel
theorem dX2_sum_4 : decode cX2_sum 4 = .ok (.iload_n 3, 1) := by decide +kernel
theorem dX2_sum_5 : decode cX2_sum 5 = .ok (.aload_n 0, 1) := by decide +kernel
theorem dX2_sum_6 : decode cX2_sum 6 = .ok (.getfield 25, 3) := by decide +kernel
theorem dX2_sum_9 : decode cX2_sum 9 = .ok (.if_icmp .ge 18, 3) := by decide +kernel
theorem dX2_sum_12 : decode cX2_sum 12 = .ok (.lload_n 1, 1) := by decide +kernel
theorem dX2_sum_13 : decode cX2_sum 13 = .ok (.aload_n 0, 1) := by decide +kernel
theorem dX2_sum_14 : decode cX2_sum 14 = .ok (.getfield 9, 3) := by decide +kernel
theorem dX2_sum_17 : decode cX2_sum 17 = .ok (.iload_n 3, 1) := by decide +kernel
theorem dX2_sum_18 : decode cX2_sum 18 = .ok (.laload, 1) := by decide +kernel
theorem dX2_sum_19 : decode cX2_sum 19 = .ok (.ladd, 1) := by decide +kernel
theorem dX2_sum_20 : decode cX2_sum 20 = .ok (.lstore_n 1, 1) := by decide +kernel
theorem dX2_sum_21 : decode cX2_sum 21 = .ok (.iinc 3 1, 3) := by decide +kernel
theorem dX2_sum_24 : decode cX2_sum 24 = .ok (.goto (-20), 3) := by decide +kernel
theorem dX2_sum_27 : decode cX2_sum 27 = .ok (.lload_n 1, 1) := by decide +kernel
theorem dX2_sum_28 : decode cX2_sum 28 = .ok (.lreturn, 1) := by decide +kernel
theorem dX2_becomeFresh_0 : decode cX2_becomeFresh 0 = .ok (.iconst 0, 1) := by decide +kernel
theorem dX2_becomeFresh_1 : decode cX2_becomeFresh 1 = .ok (.istore_n 1, 1) := by decide +kernel
theorem dX2_becomeFresh_2 : decode cX2_becomeFresh 2 = .ok (.iload_n 1, 1) := by decide +kernel
theorem dX2_becomeFresh_3 : decode cX2_becomeFresh 3 = .ok (.aload_n 0, 1) := by decide +kernel
theorem dX2_becomeFresh_4 : decode cX2_becomeFresh 4 = .ok (.getfield 25, 3) := by decide +kernel
theorem dX2_becomeFresh_7 : decode cX2_becomeFresh 7 = .ok (.if_icmp .ge 27, 3) := by decide +kernel
theorem dX2_becomeFresh_10 : decode cX2_becomeFresh 10 = .ok (.aload_n 0, 1) := by decide +kernel
theorem dX2_becomeFresh_11 : decode cX2_becomeFresh 11 = .ok (.getfield 15, 3) := by decide +kernel
theorem dX2_becomeFresh_14 : decode cX2_becomeFresh 14 = .ok (.iload_n 1, 1) := by decide +kernel
theorem dX2_becomeFresh_15 : decode cX2_becomeFresh 15 = .ok (.laload, 1) := by decide +kernel
theorem dX2_becomeFresh_16 : decode cX2_becomeFresh 16 = .ok (.ldc2_w 77, 3) := by decide +kernel
theorem dX2_becomeFresh_19 : decode cX2_becomeFresh 19 = .ok (.invokestatic 79, 3) := by decide +kernel
theorem dX2_becomeFresh_22 : decode cX2_becomeFresh 22 = .ok (.ifCond .ne 6, 3) := by decide +kernel
theorem dX2_becomeFresh_25 : decode cX2_becomeFresh 25 = .ok (.bipush (-16), 2) := by decide +kernel
theorem dX2_becomeFresh_27 : decode cX2_becomeFresh 27 = .ok (.ireturn, 1) := by decide +kernel
theorem dX2_becomeFresh_28 : decode cX2_becomeFresh 28 = .ok (.iinc 1 1, 3) := by decide +kernel
theorem dX2_becomeFresh_31 : decode cX2_becomeFresh 31 = .ok (.goto (-29), 3) := by decide +kernel
theorem dX2_becomeFresh_34 : decode cX2_becomeFresh 34 = .ok (.aload_n 0, 1) := by decide +kernel
theorem dX2_becomeFresh_35 : decode cX2_becomeFresh 35 = .ok (.getfield 15, 3) := by decide +kernel
theorem dX2_becomeFresh_38 : decode cX2_becomeFresh 38 = .ok (.iconst 0, 1) := by decide +kernel
theorem dX2_becomeFresh_39 : decode cX2_becomeFresh 39 = .ok (.aload_n 0, 1) := by decide +kernel
theorem dX2_becomeFresh_40 : decode cX2_becomeFresh 40 = .ok (.getfield 9, 3) := by decide +kernel
theorem dX2_becomeFresh_43 : decode cX2_becomeFresh 43 = .ok (.iconst 0, 1) := by decide +kernel
theorem dX2_becomeFresh_44 : decode cX2_becomeFresh 44 = .ok (.aload_n 0, 1) := by decide +kernel
theorem dX2_becomeFresh_45 : decode cX2_becomeFresh 45 = .ok (.getfield 25, 3) := by decide +kernel
theorem dX2_becomeFresh_48 : decode cX2_becomeFresh 48 = .ok (.invokestatic 83, 3) := by decide +kernel
theorem dX2_becomeFresh_51 : decode cX2_becomeFresh 51 = .ok (.aload_n 0, 1) := by decide +kernel
theorem dX2_becomeFresh_52 : decode cX2_becomeFresh 52 = .ok (.getfield 25, 3) := by decide +kernel
theorem dX2_becomeFresh_55 : decode cX2_becomeFresh 55 = .ok (.ireturn, 1) := by decide +kernel
theorem dX2_keepOnly_0 : decode cX2_keepOnly 0 = .ok (.iconst 0, 1) := by decide +kernel
theorem dX2_keepOnly_1 : decode cX2_keepOnly 1 = .ok (.istore_n 3, 1) := by decide +kernel
theorem dX2_keepOnly_2 : decode cX2_keepOnly 2 = .ok (.iconst 0, 1) := by decide +kernel
theorem dX2_keepOnly_3 : decode cX2_keepOnly 3 = .ok (.istore 4, 2) := by decide +kernel
theorem dX2_keepOnly_5 : decode cX2_keepOnly 5 = .ok (.iload 4, 2) := by decide +kernel
theorem dX2_keepOnly_7 : decode cX2_keepOnly 7 = .ok (.aload_n 0, 1) := by decide +kernel
theorem dX2_keepOnly_8 : decode cX2_keepOnly 8 = .ok (.getfield 25, 3) := by decide +kernel
theorem dX2_keepOnly_11 : decode cX2_keepOnly 11 = .ok (.if_icmp .ge 49, 3) := by decide +kernel
theorem dX2_keepOnly_14 : decode cX2_keepOnly 14 = .ok (.iload 4, 2) := by decide +kernel
theorem dX2_keepOnly_16 : decode cX2_keepOnly 16 = .ok (.iload_n 1, 1) := by decide +kernel
theorem dX2_keepOnly_17 : decode cX2_keepOnly 17 = .ok (.if_icmp .lt 9, 3) := by decide +kernel
theorem dX2_keepOnly_20 : decode cX2_keepOnly 20 = .ok (.iload 4, 2) := by decide +kernel
theorem dX2_keepOnly_22 : decode cX2_keepOnly 22 = .ok (.iload_n 2, 1) := by decide +kernel
theorem dX2_keepOnly_23 : decode cX2_keepOnly 23 = .ok (.if_icmp .le 31, 3) := by decide +kernel
theorem dX2_keepOnly_26 : decode cX2_keepOnly 26 = .ok (.iload_n 3, 1) := by decide +kernel
theorem dX2_keepOnly_27 : decode cX2_keepOnly 27 = .ok (.aload_n 0, 1) := by decide +kernel
theorem dX2_keepOnly_28 : decode cX2_keepOnly 28 = .ok (.getfield 9, 3) := by decide +kernel
theorem dX2_keepOnly_31 : decode cX2_keepOnly 31 = .ok (.iload 4, 2) := by decide +kernel
theorem dX2_keepOnly_33 : decode cX2_keepOnly 33 = .ok (.laload, 1) := by decide +kernel
theorem dX2_keepOnly_34 : decode cX2_keepOnly 34 = .ok (.lconst 0, 1) := by decide +kernel
theorem dX2_keepOnly_35 : decode cX2_keepOnly 35 = .ok (.lcmp, 1) := by decide +kernel
theorem dX2_keepOnly_36 : decode cX2_keepOnly 36 = .ok (.ifCond .eq 7, 3) := by decide +kernel
theorem dX2_keepOnly_39 : decode cX2_keepOnly 39 = .ok (.iconst 1, 1) := by decide +kernel
theorem dX2_keepOnly_40 : decode cX2_keepOnly 40 = .ok (.goto 4, 3) := by decide +kernel
theorem dX2_keepOnly_43 : decode cX2_keepOnly 43 = .ok (.iconst 0, 1) := by decide +kernel
theorem dX2_keepOnly_44 : decode cX2_keepOnly 44 = .ok (.iadd, 1) := by decide +kernel
theorem dX2_keepOnly_45 : decode cX2_keepOnly 45 = .ok (.istore_n 3, 1) := by decide +kernel
theorem dX2_keepOnly_46 : decode cX2_keepOnly 46 = .ok (.aload_n 0, 1) := by decide +kernel
theorem dX2_keepOnly_47 : decode cX2_keepOnly 47 = .ok (.getfield 9, 3) := by decide +kernel
theorem dX2_keepOnly_50 : decode cX2_keepOnly 50 = .ok (.iload 4, 2) := by decide +kernel
theorem dX2_keepOnly_52 : decode cX2_keepOnly 52 = .ok (.lconst 0, 1) := by decide +kernel
theorem dX2_keepOnly_53 : decode cX2_keepOnly 53 = .ok (.lastore, 1) := by decide +kernel
theorem dX2_keepOnly_54 : decode cX2_keepOnly 54 = .ok (.iinc 4 1, 3) := by decide +kernel
theorem dX2_keepOnly_57 : decode cX2_keepOnly 57 = .ok (.goto (-52), 3) := by decide +kernel
theorem dX2_keepOnly_60 : decode cX2_keepOnly 60 = .ok (.iload_n 3, 1) := by decide +kernel
theorem dX2_keepOnly_61 : decode cX2_keepOnly 61 = .ok (.ireturn, 1) := by decide +kernel
theorem dX2_blend_0 : decode cX2_blend 0 = .ok (.iconst 0, 1) := by decide +kernel
theorem dX2_blend_1 : decode cX2_blend 1 = .ok (.istore 4, 2) := by decide +kernel
theorem dX2_blend_3 : decode cX2_blend 3 = .ok (.iload 4, 2) := by decide +kernel
theorem dX2_blend_5 : decode cX2_blend 5 = .ok (.aload_n 0, 1) := by decide +kernel
theorem dX2_blend_6 : decode cX2_blend 6 = .ok (.getfield 25, 3) := by decide +kernel
theorem dX2_blend_9 : decode cX2_blend 9 = .ok (.if_icmp .ge 37, 3) := by decide +kernel
theorem dX2_blend_12 : decode cX2_blend 12 = .ok (.aload_n 0, 1) := by decide +kernel
theorem dX2_blend_13 : decode cX2_blend 13 = .ok (.getfield 15, 3) := by decide +kernel
theorem dX2_blend_16 : decode cX2_blend 16 = .ok (.iload 4, 2) := by decide +kernel
theorem dX2_blend_18 : decode cX2_blend 18 = .ok (.iload_n 1, 1) := by decide +kernel
theorem dX2_blend_19 : decode cX2_blend 19 = .ok (.i2l, 1) := by decide +kernel
theorem dX2_blend_20 : decode cX2_blend 20 = .ok (.aload_n 0, 1) := by decide +kernel
theorem dX2_blend_21 : decode cX2_blend 21 = .ok (.getfield 9, 3) := by decide +kernel
theorem dX2_blend_24 : decode cX2_blend 24 = .ok (.iload 4, 2) := by decide +kernel
theorem dX2_blend_26 : decode cX2_blend 26 = .ok (.laload, 1) := by decide +kernel
theorem dX2_blend_27 : decode cX2_blend 27 = .ok (.lmul, 1) := by decide +kernel
theorem dX2_blend_28 : decode cX2_blend 28 = .ok (.iload_n 3, 1) := by decide +kernel
theorem dX2_blend_29 : decode cX2_blend 29 = .ok (.i2l, 1) := by decide +kernel
theorem dX2_blend_30 : decode cX2_blend 30 = .ok (.aload_n 2, 1) := by decide +kernel
theorem dX2_blend_31 : decode cX2_blend 31 = .ok (.getfield 9, 3) := by decide +kernel
theorem dX2_blend_34 : decode cX2_blend 34 = .ok (.iload 4, 2) := by decide +kernel
theorem dX2_blend_36 : decode cX2_blend 36 = .ok (.laload, 1) := by decide +kernel
theorem dX2_blend_37 : decode cX2_blend 37 = .ok (.lmul, 1) := by decide +kernel
theorem dX2_blend_38 : decode cX2_blend 38 = .ok (.ladd, 1) := by decide +kernel
theorem dX2_blend_39 : decode cX2_blend 39 = .ok (.lastore, 1) := by decide +kernel
theorem dX2_blend_40 : decode cX2_blend 40 = .ok (.iinc 4 1, 3) := by decide +kernel
theorem dX2_blend_43 : decode cX2_blend 43 = .ok (.goto (-40), 3) := by decide +kernel
theorem dX2_blend_46 : decode cX2_blend 46 = .ok (.aload_n 0, 1) := by decide +kernel
theorem dX2_blend_47 : decode cX2_blend 47 = .ok (.invokevirtual 60, 3) := by decide +kernel
theorem dX2_blend_50 : decode cX2_blend 50 = .ok (.ireturn, 1) := by decide +kernel
theorem dX2_anyExceeds_0 : decode cX2_anyExceeds 0 = .ok (.aload_n 0, 1) := by decide +kernel
theorem dX2_anyExceeds_1 : decode cX2_anyExceeds 1 = .ok (.lload_n 1, 1) := by decide +kernel
theorem dX2_anyExceeds_2 : decode cX2_anyExceeds 2 = .ok (.iconst 0, 1) := by decide +kernel
theorem dX2_anyExceeds_3 : decode cX2_anyExceeds 3 = .ok (.bipush 64, 2) := by decide +kernel
theorem dX2_anyExceeds_5 : decode cX2_anyExceeds 5 = .ok (.invokevirtual 89, 3) := by decide +kernel
theorem dX2_anyExceeds_8 : decode cX2_anyExceeds 8 = .ok (.ireturn, 1) := by decide +kernel
theorem dX2_exceeds_0 : decode cX2_exceeds 0 = .ok (.iload_n 3, 1) := by decide +kernel
theorem dX2_exceeds_1 : decode cX2_exceeds 1 = .ok (.istore 5, 2) := by decide +kernel
theorem dX2_exceeds_3 : decode cX2_exceeds 3 = .ok (.iload 5, 2) := by decide +kernel
theorem dX2_exceeds_5 : decode cX2_exceeds 5 = .ok (.aload_n 0, 1) := by decide +kernel
theorem dX2_exceeds_6 : decode cX2_exceeds 6 = .ok (.getfield 25, 3) := by decide +kernel
theorem dX2_exceeds_9 : decode cX2_exceeds 9 = .ok (.if_icmp .ge 32, 3) := by decide +kernel
theorem dX2_exceeds_12 : decode cX2_exceeds 12 = .ok (.iload 5, 2) := by decide +kernel
theorem dX2_exceeds_14 : decode cX2_exceeds 14 = .ok (.iload 4, 2) := by decide +kernel
theorem dX2_exceeds_16 : decode cX2_exceeds 16 = .ok (.if_icmp .gt 25, 3) := by decide +kernel
theorem dX2_exceeds_19 : decode cX2_exceeds 19 = .ok (.aload_n 0, 1) := by decide +kernel
theorem dX2_exceeds_20 : decode cX2_exceeds 20 = .ok (.getfield 9, 3) := by decide +kernel
theorem dX2_exceeds_23 : decode cX2_exceeds 23 = .ok (.iload 5, 2) := by decide +kernel
theorem dX2_exceeds_25 : decode cX2_exceeds 25 = .ok (.laload, 1) := by decide +kernel
theorem dX2_exceeds_26 : decode cX2_exceeds 26 = .ok (.lload_n 1, 1) := by decide +kernel
theorem dX2_exceeds_27 : decode cX2_exceeds 27 = .ok (.invokestatic 79, 3) := by decide +kernel
theorem dX2_exceeds_30 : decode cX2_exceeds 30 = .ok (.ifCond .ne 5, 3) := by decide +kernel
theorem dX2_exceeds_33 : decode cX2_exceeds 33 = .ok (.iconst 1, 1) := by decide +kernel
theorem dX2_exceeds_34 : decode cX2_exceeds 34 = .ok (.ireturn, 1) := by decide +kernel
theorem dX2_exceeds_35 : decode cX2_exceeds 35 = .ok (.iinc 5 1, 3) := by decide +kernel
theorem dX2_exceeds_38 : decode cX2_exceeds 38 = .ok (.goto (-35), 3) := by decide +kernel
theorem dX2_exceeds_41 : decode cX2_exceeds 41 = .ok (.iconst 0, 1) := by decide +kernel
theorem dX2_exceeds_42 : decode cX2_exceeds 42 = .ok (.ireturn, 1) := by decide +kernel
theorem dX2_squares_0 : decode cX2_squares 0 = .ok (.lconst 0, 1) := by decide +kernel
theorem dX2_squares_1 : decode cX2_squares 1 = .ok (.lstore_n 3, 1) := by decide +kernel
theorem dX2_squares_2 : decode cX2_squares 2 = .ok (.iload_n 1, 1) := by decide +kernel
theorem dX2_squares_3 : decode cX2_squares 3 = .ok (.istore 5, 2) := by decide +kernel
theorem dX2_squares_5 : decode cX2_squares 5 = .ok (.iload 5, 2) := by decide +kernel
theorem dX2_squares_7 : decode cX2_squares 7 = .ok (.aload_n 0, 1) := by decide +kernel
theorem dX2_squares_8 : decode cX2_squares 8 = .ok (.getfield 25, 3) := by decide +kernel
theorem dX2_squares_11 : decode cX2_squares 11 = .ok (.if_icmp .ge 33, 3) := by decide +kernel
theorem dX2_squares_14 : decode cX2_squares 14 = .ok (.iload 5, 2) := by decide +kernel
theorem dX2_squares_16 : decode cX2_squares 16 = .ok (.iload_n 2, 1) := by decide +kernel
theorem dX2_squares_17 : decode cX2_squares 17 = .ok (.if_icmp .gt 27, 3) := by decide +kernel
theorem dX2_squares_20 : decode cX2_squares 20 = .ok (.lload_n 3, 1) := by decide +kernel
theorem dX2_squares_21 : decode cX2_squares 21 = .ok (.aload_n 0, 1) := by decide +kernel
theorem dX2_squares_22 : decode cX2_squares 22 = .ok (.getfield 9, 3) := by decide +kernel
theorem dX2_squares_25 : decode cX2_squares 25 = .ok (.iload 5, 2) := by decide +kernel
theorem dX2_squares_27 : decode cX2_squares 27 = .ok (.laload, 1) := by decide +kernel
theorem dX2_squares_28 : decode cX2_squares 28 = .ok (.aload_n 0, 1) := by decide +kernel
theorem dX2_squares_29 : decode cX2_squares 29 = .ok (.getfield 9, 3) := by decide +kernel
theorem dX2_squares_32 : decode cX2_squares 32 = .ok (.iload 5, 2) := by decide +kernel
theorem dX2_squares_34 : decode cX2_squares 34 = .ok (.laload, 1) := by decide +kernel
theorem dX2_squares_35 : decode cX2_squares 35 = .ok (.lmul, 1) := by decide +kernel
theorem dX2_squares_36 : decode cX2_squares 36 = .ok (.ladd, 1) := by decide +kernel
theorem dX2_squares_37 : decode cX2_squares 37 = .ok (.lstore_n 3, 1) := by decide +kernel
theorem dX2_squares_38 : decode cX2_squares 38 = .ok (.iinc 5 1, 3) := by decide +kernel
theorem dX2_squares_41 : decode cX2_squares 41 = .ok (.goto (-36), 3) := by decide +kernel
theorem dX2_squares_44 : decode cX2_squares 44 = .ok (.lload_n 3, 1) := by decide +kernel
theorem dX2_squares_45 : decode cX2_squares 45 = .ok (.lreturn, 1) := by decide +kernel
theorem dX2_products_0 : decode cX2_products 0 = .ok (.lconst 0, 1) := by decide +kernel
theorem dX2_products_1 : decode cX2_products 1 = .ok (.lstore_n 2, 1) := by decide +kernel
theorem dX2_products_2 : decode cX2_products 2 = .ok (.iconst 0, 1) := by decide +kernel
theorem dX2_products_3 : decode cX2_products 3 = .ok (.istore 4, 2) := by decide +kernel
theorem dX2_products_5 : decode cX2_products 5 = .ok (.iload 4, 2) := by decide +kernel
theorem dX2_products_7 : decode cX2_products 7 = .ok (.aload_n 0, 1) := by decide +kernel
theorem dX2_products_8 : decode cX2_products 8 = .ok (.getfield 25, 3) := by decide +kernel
theorem dX2_products_11 : decode cX2_products 11 = .ok (.if_icmp .ge 27, 3) := by decide +kernel
theorem dX2_products_14 : decode cX2_products 14 = .ok (.lload_n 2, 1) := by decide +kernel
theorem dX2_products_15 : decode cX2_products 15 = .ok (.aload_n 0, 1) := by decide +kernel
theorem dX2_products_16 : decode cX2_products 16 = .ok (.getfield 9, 3) := by decide +kernel
theorem dX2_products_19 : decode cX2_products 19 = .ok (.iload 4, 2) := by decide +kernel
theorem dX2_products_21 : decode cX2_products 21 = .ok (.laload, 1) := by decide +kernel
theorem dX2_products_22 : decode cX2_products 22 = .ok (.aload_n 1, 1) := by decide +kernel
theorem dX2_products_23 : decode cX2_products 23 = .ok (.getfield 9, 3) := by decide +kernel
theorem dX2_products_26 : decode cX2_products 26 = .ok (.iload 4, 2) := by decide +kernel
theorem dX2_products_28 : decode cX2_products 28 = .ok (.laload, 1) := by decide +kernel
theorem dX2_products_29 : decode cX2_products 29 = .ok (.lmul, 1) := by decide +kernel
theorem dX2_products_30 : decode cX2_products 30 = .ok (.ladd, 1) := by decide +kernel
theorem dX2_products_31 : decode cX2_products 31 = .ok (.lstore_n 2, 1) := by decide +kernel
theorem dX2_products_32 : decode cX2_products 32 = .ok (.iinc 4 1, 3) := by decide +kernel
theorem dX2_products_35 : decode cX2_products 35 = .ok (.goto (-30), 3) := by decide +kernel
theorem dX2_products_38 : decode cX2_products 38 = .ok (.lload_n 2, 1) := by decide +kernel
theorem dX2_products_39 : decode cX2_products 39 = .ok (.lreturn, 1) := by decide +kernel
theorem dX2_findWaves_0 : decode cX2_findWaves 0 = .ok (.iconst 0, 1) := by decide +kernel
theorem dX2_findWaves_1 : decode cX2_findWaves 1 = .ok (.istore_n 1, 1) := by decide +kernel
theorem dX2_findWaves_2 : decode cX2_findWaves 2 = .ok (.iconst 0, 1) := by decide +kernel
theorem dX2_findWaves_3 : decode cX2_findWaves 3 = .ok (.istore_n 2, 1) := by decide +kernel
theorem dX2_findWaves_4 : decode cX2_findWaves 4 = .ok (.iconst 0, 1) := by decide +kernel
theorem dX2_findWaves_5 : decode cX2_findWaves 5 = .ok (.istore_n 3, 1) := by decide +kernel
theorem dX2_findWaves_6 : decode cX2_findWaves 6 = .ok (.iload_n 3, 1) := by decide +kernel
theorem dX2_findWaves_7 : decode cX2_findWaves 7 = .ok (.aload_n 0, 1) := by decide +kernel
theorem dX2_findWaves_8 : decode cX2_findWaves 8 = .ok (.getfield 25, 3) := by decide +kernel
theorem dX2_findWaves_11 : decode cX2_findWaves 11 = .ok (.if_icmp .ge 61, 3) := by decide +kernel
theorem dX2_findWaves_14 : decode cX2_findWaves 14 = .ok (.iload_n 2, 1) := by decide +kernel
theorem dX2_findWaves_15 : decode cX2_findWaves 15 = .ok (.istore 4, 2) := by decide +kernel
theorem dX2_findWaves_17 : decode cX2_findWaves 17 = .ok (.aload_n 0, 1) := by decide +kernel
theorem dX2_findWaves_18 : decode cX2_findWaves 18 = .ok (.getfield 9, 3) := by decide +kernel
theorem dX2_findWaves_21 : decode cX2_findWaves 21 = .ok (.iload_n 3, 1) := by decide +kernel
theorem dX2_findWaves_22 : decode cX2_findWaves 22 = .ok (.laload, 1) := by decide +kernel
theorem dX2_findWaves_23 : decode cX2_findWaves 23 = .ok (.lconst 0, 1) := by decide +kernel
theorem dX2_findWaves_24 : decode cX2_findWaves 24 = .ok (.lcmp, 1) := by decide +kernel
theorem dX2_findWaves_25 : decode cX2_findWaves 25 = .ok (.ifCond .eq 20, 3) := by decide +kernel
theorem dX2_findWaves_28 : decode cX2_findWaves 28 = .ok (.aload_n 0, 1) := by decide +kernel
theorem dX2_findWaves_29 : decode cX2_findWaves 29 = .ok (.getfield 9, 3) := by decide +kernel
theorem dX2_findWaves_32 : decode cX2_findWaves 32 = .ok (.iload_n 3, 1) := by decide +kernel
theorem dX2_findWaves_33 : decode cX2_findWaves 33 = .ok (.laload, 1) := by decide +kernel
theorem dX2_findWaves_34 : decode cX2_findWaves 34 = .ok (.lconst 0, 1) := by decide +kernel
theorem dX2_findWaves_35 : decode cX2_findWaves 35 = .ok (.lcmp, 1) := by decide +kernel
theorem dX2_findWaves_36 : decode cX2_findWaves 36 = .ok (.ifCond .le 7, 3) := by decide +kernel
theorem dX2_findWaves_39 : decode cX2_findWaves 39 = .ok (.iconst 1, 1) := by decide +kernel
theorem dX2_findWaves_40 : decode cX2_findWaves 40 = .ok (.goto 4, 3) := by decide +kernel
theorem dX2_findWaves_43 : decode cX2_findWaves 43 = .ok (.iconst (-1), 1) := by decide +kernel
theorem dX2_findWaves_44 : decode cX2_findWaves 44 = .ok (.istore_n 2, 1) := by decide +kernel
theorem dX2_findWaves_45 : decode cX2_findWaves 45 = .ok (.iload_n 2, 1) := by decide +kernel
theorem dX2_findWaves_46 : decode cX2_findWaves 46 = .ok (.iconst 1, 1) := by decide +kernel
theorem dX2_findWaves_47 : decode cX2_findWaves 47 = .ok (.if_icmp .ne 19, 3) := by decide +kernel
theorem dX2_findWaves_50 : decode cX2_findWaves 50 = .ok (.iload 4, 2) := by decide +kernel
theorem dX2_findWaves_52 : decode cX2_findWaves 52 = .ok (.iconst (-1), 1) := by decide +kernel
theorem dX2_findWaves_53 : decode cX2_findWaves 53 = .ok (.if_icmp .ne 13, 3) := by decide +kernel
theorem dX2_findWaves_56 : decode cX2_findWaves 56 = .ok (.aload_n 0, 1) := by decide +kernel
theorem dX2_findWaves_57 : decode cX2_findWaves 57 = .ok (.getfield 18, 3) := by decide +kernel
theorem dX2_findWaves_60 : decode cX2_findWaves 60 = .ok (.iload_n 1, 1) := by decide +kernel
theorem dX2_findWaves_61 : decode cX2_findWaves 61 = .ok (.iload_n 3, 1) := by decide +kernel
theorem dX2_findWaves_62 : decode cX2_findWaves 62 = .ok (.iastore, 1) := by decide +kernel
theorem dX2_findWaves_63 : decode cX2_findWaves 63 = .ok (.iinc 1 1, 3) := by decide +kernel
theorem dX2_findWaves_66 : decode cX2_findWaves 66 = .ok (.iinc 3 1, 3) := by decide +kernel
theorem dX2_findWaves_69 : decode cX2_findWaves 69 = .ok (.goto (-63), 3) := by decide +kernel
theorem dX2_findWaves_72 : decode cX2_findWaves 72 = .ok (.iload_n 1, 1) := by decide +kernel
theorem dX2_findWaves_73 : decode cX2_findWaves 73 = .ok (.iconst 1, 1) := by decide +kernel
theorem dX2_findWaves_74 : decode cX2_findWaves 74 = .ok (.isub, 1) := by decide +kernel
theorem dX2_findWaves_75 : decode cX2_findWaves 75 = .ok (.iconst 0, 1) := by decide +kernel
theorem dX2_findWaves_76 : decode cX2_findWaves 76 = .ok (.invokestatic 93, 3) := by decide +kernel
theorem dX2_findWaves_79 : decode cX2_findWaves 79 = .ok (.ireturn, 1) := by decide +kernel
theorem dX2_waveFact_0 : decode cX2_waveFact 0 = .ok (.aload_n 0, 1) := by decide +kernel
theorem dX2_waveFact_1 : decode cX2_waveFact 1 = .ok (.getfield 9, 3) := by decide +kernel
theorem dX2_waveFact_4 : decode cX2_waveFact 4 = .ok (.aload_n 0, 1) := by decide +kernel
theorem dX2_waveFact_5 : decode cX2_waveFact 5 = .ok (.getfield 18, 3) := by decide +kernel
theorem dX2_waveFact_8 : decode cX2_waveFact 8 = .ok (.iload_n 1, 1) := by decide +kernel
theorem dX2_waveFact_9 : decode cX2_waveFact 9 = .ok (.iaload, 1) := by decide +kernel
theorem dX2_waveFact_10 : decode cX2_waveFact 10 = .ok (.laload, 1) := by decide +kernel
theorem dX2_waveFact_11 : decode cX2_waveFact 11 = .ok (.lstore_n 3, 1) := by decide +kernel
theorem dX2_waveFact_12 : decode cX2_waveFact 12 = .ok (.lload_n 3, 1) := by decide +kernel
theorem dX2_waveFact_13 : decode cX2_waveFact 13 = .ok (.lstore 5, 2) := by decide +kernel
theorem dX2_waveFact_15 : decode cX2_waveFact 15 = .ok (.aload_n 0, 1) := by decide +kernel
theorem dX2_waveFact_16 : decode cX2_waveFact 16 = .ok (.getfield 18, 3) := by decide +kernel
theorem dX2_waveFact_19 : decode cX2_waveFact 19 = .ok (.iload_n 1, 1) := by decide +kernel
theorem dX2_waveFact_20 : decode cX2_waveFact 20 = .ok (.iaload, 1) := by decide +kernel
theorem dX2_waveFact_21 : decode cX2_waveFact 21 = .ok (.istore 7, 2) := by decide +kernel
theorem dX2_waveFact_23 : decode cX2_waveFact 23 = .ok (.iload 7, 2) := by decide +kernel
theorem dX2_waveFact_25 : decode cX2_waveFact 25 = .ok (.aload_n 0, 1) := by decide +kernel
theorem dX2_waveFact_26 : decode cX2_waveFact 26 = .ok (.getfield 18, 3) := by decide +kernel
theorem dX2_waveFact_29 : decode cX2_waveFact 29 = .ok (.iload_n 1, 1) := by decide +kernel
theorem dX2_waveFact_30 : decode cX2_waveFact 30 = .ok (.iconst 1, 1) := by decide +kernel
theorem dX2_waveFact_31 : decode cX2_waveFact 31 = .ok (.iadd, 1) := by decide +kernel
theorem dX2_waveFact_32 : decode cX2_waveFact 32 = .ok (.iaload, 1) := by decide +kernel
theorem dX2_waveFact_33 : decode cX2_waveFact 33 = .ok (.if_icmp .ge 35, 3) := by decide +kernel
theorem dX2_waveFact_36 : decode cX2_waveFact 36 = .ok (.lload_n 3, 1) := by decide +kernel
theorem dX2_waveFact_37 : decode cX2_waveFact 37 = .ok (.aload_n 0, 1) := by decide +kernel
theorem dX2_waveFact_38 : decode cX2_waveFact 38 = .ok (.getfield 9, 3) := by decide +kernel
theorem dX2_waveFact_41 : decode cX2_waveFact 41 = .ok (.iload 7, 2) := by decide +kernel
theorem dX2_waveFact_43 : decode cX2_waveFact 43 = .ok (.laload, 1) := by decide +kernel
theorem dX2_waveFact_44 : decode cX2_waveFact 44 = .ok (.invokestatic 99, 3) := by decide +kernel
theorem dX2_waveFact_47 : decode cX2_waveFact 47 = .ok (.lstore_n 3, 1) := by decide +kernel
theorem dX2_waveFact_48 : decode cX2_waveFact 48 = .ok (.lload 5, 2) := by decide +kernel
theorem dX2_waveFact_50 : decode cX2_waveFact 50 = .ok (.aload_n 0, 1) := by decide +kernel
theorem dX2_waveFact_51 : decode cX2_waveFact 51 = .ok (.getfield 9, 3) := by decide +kernel
theorem dX2_waveFact_54 : decode cX2_waveFact 54 = .ok (.iload 7, 2) := by decide +kernel
theorem dX2_waveFact_56 : decode cX2_waveFact 56 = .ok (.laload, 1) := by decide +kernel
theorem dX2_waveFact_57 : decode cX2_waveFact 57 = .ok (.invokestatic 102, 3) := by decide +kernel
theorem dX2_waveFact_60 : decode cX2_waveFact 60 = .ok (.lstore 5, 2) := by decide +kernel
theorem dX2_waveFact_62 : decode cX2_waveFact 62 = .ok (.iinc 7 1, 3) := by decide +kernel
theorem dX2_waveFact_65 : decode cX2_waveFact 65 = .ok (.goto (-42), 3) := by decide +kernel
theorem dX2_waveFact_68 : decode cX2_waveFact 68 = .ok (.iload_n 2, 1) := by decide +kernel
theorem dX2_waveFact_69 : decode cX2_waveFact 69 = .ok (.tableswitch 61 0 3 #[31, 39, 56, 58], 31) := by decide +kernel
theorem dX2_waveFact_100 : decode cX2_waveFact 100 = .ok (.aload_n 0, 1) := by decide +kernel
theorem dX2_waveFact_101 : decode cX2_waveFact 101 = .ok (.getfield 18, 3) := by decide +kernel
theorem dX2_waveFact_104 : decode cX2_waveFact 104 = .ok (.iload_n 1, 1) := by decide +kernel
theorem dX2_waveFact_105 : decode cX2_waveFact 105 = .ok (.iaload, 1) := by decide +kernel
theorem dX2_waveFact_106 : decode cX2_waveFact 106 = .ok (.i2l, 1) := by decide +kernel
theorem dX2_waveFact_107 : decode cX2_waveFact 107 = .ok (.lreturn, 1) := by decide +kernel
theorem dX2_waveFact_108 : decode cX2_waveFact 108 = .ok (.aload_n 0, 1) := by decide +kernel
theorem dX2_waveFact_109 : decode cX2_waveFact 109 = .ok (.getfield 18, 3) := by decide +kernel
theorem dX2_waveFact_112 : decode cX2_waveFact 112 = .ok (.iload_n 1, 1) := by decide +kernel
theorem dX2_waveFact_113 : decode cX2_waveFact 113 = .ok (.iconst 1, 1) := by decide +kernel
theorem dX2_waveFact_114 : decode cX2_waveFact 114 = .ok (.iadd, 1) := by decide +kernel
theorem dX2_waveFact_115 : decode cX2_waveFact 115 = .ok (.iaload, 1) := by decide +kernel
theorem dX2_waveFact_116 : decode cX2_waveFact 116 = .ok (.aload_n 0, 1) := by decide +kernel
theorem dX2_waveFact_117 : decode cX2_waveFact 117 = .ok (.getfield 18, 3) := by decide +kernel
theorem dX2_waveFact_120 : decode cX2_waveFact 120 = .ok (.iload_n 1, 1) := by decide +kernel
theorem dX2_waveFact_121 : decode cX2_waveFact 121 = .ok (.iaload, 1) := by decide +kernel
theorem dX2_waveFact_122 : decode cX2_waveFact 122 = .ok (.isub, 1) := by decide +kernel
theorem dX2_waveFact_123 : decode cX2_waveFact 123 = .ok (.i2l, 1) := by decide +kernel
theorem dX2_waveFact_124 : decode cX2_waveFact 124 = .ok (.lreturn, 1) := by decide +kernel
theorem dX2_waveFact_125 : decode cX2_waveFact 125 = .ok (.lload_n 3, 1) := by decide +kernel
theorem dX2_waveFact_126 : decode cX2_waveFact 126 = .ok (.lreturn, 1) := by decide +kernel
theorem dX2_waveFact_127 : decode cX2_waveFact 127 = .ok (.lload 5, 2) := by decide +kernel
theorem dX2_waveFact_129 : decode cX2_waveFact 129 = .ok (.lreturn, 1) := by decide +kernel
theorem dX2_waveFact_130 : decode cX2_waveFact 130 = .ok (.lload_n 3, 1) := by decide +kernel
theorem dX2_waveFact_131 : decode cX2_waveFact 131 = .ok (.lload 5, 2) := by decide +kernel
theorem dX2_waveFact_133 : decode cX2_waveFact 133 = .ok (.lsub, 1) := by decide +kernel
theorem dX2_waveFact_134 : decode cX2_waveFact 134 = .ok (.lreturn, 1) := by decide +kernel
theorem dX2_highestTogether_0 : decode cX2_highestTogether 0 = .ok (.iconst 0, 1) := by decide +kernel
theorem dX2_highestTogether_1 : decode cX2_highestTogether 1 = .ok (.istore_n 3, 1) := by decide +kernel
theorem dX2_highestTogether_2 : decode cX2_highestTogether 2 = .ok (.iload_n 3, 1) := by decide +kernel
theorem dX2_highestTogether_3 : decode cX2_highestTogether 3 = .ok (.iload_n 1, 1) := by decide +kernel
theorem dX2_highestTogether_4 : decode cX2_highestTogether 4 = .ok (.if_icmp .ge 20, 3) := by decide +kernel
theorem dX2_highestTogether_7 : decode cX2_highestTogether 7 = .ok (.aload_n 0, 1) := by decide +kernel
theorem dX2_highestTogether_8 : decode cX2_highestTogether 8 = .ok (.aload_n 0, 1) := by decide +kernel
theorem dX2_highestTogether_9 : decode cX2_highestTogether 9 = .ok (.iload_n 3, 1) := by decide +kernel
theorem dX2_highestTogether_10 : decode cX2_highestTogether 10 = .ok (.iconst 4, 1) := by decide +kernel
theorem dX2_highestTogether_11 : decode cX2_highestTogether 11 = .ok (.invokevirtual 105, 3) := by decide +kernel
theorem dX2_highestTogether_14 : decode cX2_highestTogether 14 = .ok (.iload_n 3, 1) := by decide +kernel
theorem dX2_highestTogether_15 : decode cX2_highestTogether 15 = .ok (.invokevirtual 109, 3) := by decide +kernel
theorem dX2_highestTogether_18 : decode cX2_highestTogether 18 = .ok (.iinc 3 1, 3) := by decide +kernel
theorem dX2_highestTogether_21 : decode cX2_highestTogether 21 = .ok (.goto (-19), 3) := by decide +kernel
theorem dX2_highestTogether_24 : decode cX2_highestTogether 24 = .ok (.lconst 0, 1) := by decide +kernel
theorem dX2_highestTogether_25 : decode cX2_highestTogether 25 = .ok (.lstore_n 3, 1) := by decide +kernel
theorem dX2_highestTogether_26 : decode cX2_highestTogether 26 = .ok (.iconst 0, 1) := by decide +kernel
theorem dX2_highestTogether_27 : decode cX2_highestTogether 27 = .ok (.istore 5, 2) := by decide +kernel
theorem dX2_highestTogether_29 : decode cX2_highestTogether 29 = .ok (.iload 5, 2) := by decide +kernel
theorem dX2_highestTogether_31 : decode cX2_highestTogether 31 = .ok (.iload_n 2, 1) := by decide +kernel
theorem dX2_highestTogether_32 : decode cX2_highestTogether 32 = .ok (.if_icmp .ge 19, 3) := by decide +kernel
theorem dX2_highestTogether_35 : decode cX2_highestTogether 35 = .ok (.lload_n 3, 1) := by decide +kernel
theorem dX2_highestTogether_36 : decode cX2_highestTogether 36 = .ok (.aload_n 0, 1) := by decide +kernel
theorem dX2_highestTogether_37 : decode cX2_highestTogether 37 = .ok (.getfield 22, 3) := by decide +kernel
theorem dX2_highestTogether_40 : decode cX2_highestTogether 40 = .ok (.iload 5, 2) := by decide +kernel
theorem dX2_highestTogether_42 : decode cX2_highestTogether 42 = .ok (.laload, 1) := by decide +kernel
theorem dX2_highestTogether_43 : decode cX2_highestTogether 43 = .ok (.ladd, 1) := by decide +kernel
theorem dX2_highestTogether_44 : decode cX2_highestTogether 44 = .ok (.lstore_n 3, 1) := by decide +kernel
theorem dX2_highestTogether_45 : decode cX2_highestTogether 45 = .ok (.iinc 5 1, 3) := by decide +kernel
theorem dX2_highestTogether_48 : decode cX2_highestTogether 48 = .ok (.goto (-19), 3) := by decide +kernel
theorem dX2_highestTogether_51 : decode cX2_highestTogether 51 = .ok (.lload_n 3, 1) := by decide +kernel
theorem dX2_highestTogether_52 : decode cX2_highestTogether 52 = .ok (.lreturn, 1) := by decide +kernel
theorem dX2_sortIn_0 : decode cX2_sortIn 0 = .ok (.iload_n 3, 1) := by decide +kernel
theorem dX2_sortIn_1 : decode cX2_sortIn 1 = .ok (.istore 4, 2) := by decide +kernel
theorem dX2_sortIn_3 : decode cX2_sortIn 3 = .ok (.iload_n 3, 1) := by decide +kernel
theorem dX2_sortIn_4 : decode cX2_sortIn 4 = .ok (.istore 5, 2) := by decide +kernel
theorem dX2_sortIn_6 : decode cX2_sortIn 6 = .ok (.iload 5, 2) := by decide +kernel
theorem dX2_sortIn_8 : decode cX2_sortIn 8 = .ok (.ifCond .le 45, 3) := by decide +kernel
theorem dX2_sortIn_11 : decode cX2_sortIn 11 = .ok (.aload_n 0, 1) := by decide +kernel
theorem dX2_sortIn_12 : decode cX2_sortIn 12 = .ok (.getfield 22, 3) := by decide +kernel
theorem dX2_sortIn_15 : decode cX2_sortIn 15 = .ok (.iload 5, 2) := by decide +kernel
theorem dX2_sortIn_17 : decode cX2_sortIn 17 = .ok (.iconst 1, 1) := by decide +kernel
theorem dX2_sortIn_18 : decode cX2_sortIn 18 = .ok (.isub, 1) := by decide +kernel
theorem dX2_sortIn_19 : decode cX2_sortIn 19 = .ok (.laload, 1) := by decide +kernel
theorem dX2_sortIn_20 : decode cX2_sortIn 20 = .ok (.lload_n 1, 1) := by decide +kernel
theorem dX2_sortIn_21 : decode cX2_sortIn 21 = .ok (.lcmp, 1) := by decide +kernel
theorem dX2_sortIn_22 : decode cX2_sortIn 22 = .ok (.ifCond .ge 31, 3) := by decide +kernel
theorem dX2_sortIn_25 : decode cX2_sortIn 25 = .ok (.aload_n 0, 1) := by decide +kernel
theorem dX2_sortIn_26 : decode cX2_sortIn 26 = .ok (.getfield 22, 3) := by decide +kernel
theorem dX2_sortIn_29 : decode cX2_sortIn 29 = .ok (.iload 5, 2) := by decide +kernel
theorem dX2_sortIn_31 : decode cX2_sortIn 31 = .ok (.aload_n 0, 1) := by decide +kernel
theorem dX2_sortIn_32 : decode cX2_sortIn 32 = .ok (.getfield 22, 3) := by decide +kernel
theorem dX2_sortIn_35 : decode cX2_sortIn 35 = .ok (.iload 5, 2) := by decide +kernel
theorem dX2_sortIn_37 : decode cX2_sortIn 37 = .ok (.iconst 1, 1) := by decide +kernel
theorem dX2_sortIn_38 : decode cX2_sortIn 38 = .ok (.isub, 1) := by decide +kernel
theorem dX2_sortIn_39 : decode cX2_sortIn 39 = .ok (.laload, 1) := by decide +kernel
theorem dX2_sortIn_40 : decode cX2_sortIn 40 = .ok (.lastore, 1) := by decide +kernel
theorem dX2_sortIn_41 : decode cX2_sortIn 41 = .ok (.iload 5, 2) := by decide +kernel
theorem dX2_sortIn_43 : decode cX2_sortIn 43 = .ok (.iconst 1, 1) := by decide +kernel
theorem dX2_sortIn_44 : decode cX2_sortIn 44 = .ok (.isub, 1) := by decide +kernel
theorem dX2_sortIn_45 : decode cX2_sortIn 45 = .ok (.istore 4, 2) := by decide +kernel
theorem dX2_sortIn_47 : decode cX2_sortIn 47 = .ok (.iinc 5 (-1), 3) := by decide +kernel
theorem dX2_sortIn_50 : decode cX2_sortIn 50 = .ok (.goto (-44), 3) := by decide +kernel
theorem dX2_sortIn_53 : decode cX2_sortIn 53 = .ok (.aload_n 0, 1) := by decide +kernel
theorem dX2_sortIn_54 : decode cX2_sortIn 54 = .ok (.getfield 22, 3) := by decide +kernel
theorem dX2_sortIn_57 : decode cX2_sortIn 57 = .ok (.iload 4, 2) := by decide +kernel
theorem dX2_sortIn_59 : decode cX2_sortIn 59 = .ok (.lload_n 1, 1) := by decide +kernel
theorem dX2_sortIn_60 : decode cX2_sortIn 60 = .ok (.lastore, 1) := by decide +kernel
theorem dX2_sortIn_61 : decode cX2_sortIn 61 = .ok (.return_, 1) := by decide +kernel
theorem dX2_wavesInRows_0 : decode cX2_wavesInRows 0 = .ok (.aload_n 0, 1) := by decide +kernel
theorem dX2_wavesInRows_1 : decode cX2_wavesInRows 1 = .ok (.invokevirtual 113, 3) := by decide +kernel
theorem dX2_wavesInRows_4 : decode cX2_wavesInRows 4 = .ok (.istore_n 3, 1) := by decide +kernel
theorem dX2_wavesInRows_5 : decode cX2_wavesInRows 5 = .ok (.iconst 0, 1) := by decide +kernel
theorem dX2_wavesInRows_6 : decode cX2_wavesInRows 6 = .ok (.istore 4, 2) := by decide +kernel
theorem dX2_wavesInRows_8 : decode cX2_wavesInRows 8 = .ok (.iconst 0, 1) := by decide +kernel
theorem dX2_wavesInRows_9 : decode cX2_wavesInRows 9 = .ok (.istore 5, 2) := by decide +kernel
theorem dX2_wavesInRows_11 : decode cX2_wavesInRows 11 = .ok (.iconst 0, 1) := by decide +kernel
theorem dX2_wavesInRows_12 : decode cX2_wavesInRows 12 = .ok (.istore 6, 2) := by decide +kernel
theorem dX2_wavesInRows_14 : decode cX2_wavesInRows 14 = .ok (.iload 6, 2) := by decide +kernel
theorem dX2_wavesInRows_16 : decode cX2_wavesInRows 16 = .ok (.iload_n 3, 1) := by decide +kernel
theorem dX2_wavesInRows_17 : decode cX2_wavesInRows 17 = .ok (.if_icmp .ge 40, 3) := by decide +kernel
theorem dX2_wavesInRows_20 : decode cX2_wavesInRows 20 = .ok (.aload_n 0, 1) := by decide +kernel
theorem dX2_wavesInRows_21 : decode cX2_wavesInRows 21 = .ok (.iload 6, 2) := by decide +kernel
theorem dX2_wavesInRows_23 : decode cX2_wavesInRows 23 = .ok (.iconst 4, 1) := by decide +kernel
theorem dX2_wavesInRows_24 : decode cX2_wavesInRows 24 = .ok (.invokevirtual 105, 3) := by decide +kernel
theorem dX2_wavesInRows_27 : decode cX2_wavesInRows 27 = .ok (.lload_n 1, 1) := by decide +kernel
theorem dX2_wavesInRows_28 : decode cX2_wavesInRows 28 = .ok (.lcmp, 1) := by decide +kernel
theorem dX2_wavesInRows_29 : decode cX2_wavesInRows 29 = .ok (.ifCond .le 10, 3) := by decide +kernel
theorem dX2_wavesInRows_32 : decode cX2_wavesInRows 32 = .ok (.iload 5, 2) := by decide +kernel
theorem dX2_wavesInRows_34 : decode cX2_wavesInRows 34 = .ok (.iconst 1, 1) := by decide +kernel
theorem dX2_wavesInRows_35 : decode cX2_wavesInRows 35 = .ok (.iadd, 1) := by decide +kernel
theorem dX2_wavesInRows_36 : decode cX2_wavesInRows 36 = .ok (.goto 4, 3) := by decide +kernel
theorem dX2_wavesInRows_39 : decode cX2_wavesInRows 39 = .ok (.iconst 0, 1) := by decide +kernel
theorem dX2_wavesInRows_40 : decode cX2_wavesInRows 40 = .ok (.istore 5, 2) := by decide +kernel
theorem dX2_wavesInRows_42 : decode cX2_wavesInRows 42 = .ok (.iload 5, 2) := by decide +kernel
theorem dX2_wavesInRows_44 : decode cX2_wavesInRows 44 = .ok (.iconst 2, 1) := by decide +kernel
theorem dX2_wavesInRows_45 : decode cX2_wavesInRows 45 = .ok (.if_icmp .ne 6, 3) := by decide +kernel
theorem dX2_wavesInRows_48 : decode cX2_wavesInRows 48 = .ok (.iinc 4 1, 3) := by decide +kernel
theorem dX2_wavesInRows_51 : decode cX2_wavesInRows 51 = .ok (.iinc 6 1, 3) := by decide +kernel
theorem dX2_wavesInRows_54 : decode cX2_wavesInRows 54 = .ok (.goto (-40), 3) := by decide +kernel
theorem dX2_wavesInRows_57 : decode cX2_wavesInRows 57 = .ok (.iload 4, 2) := by decide +kernel
theorem dX2_wavesInRows_59 : decode cX2_wavesInRows 59 = .ok (.ireturn, 1) := by decide +kernel
theorem dX2_longestRowOfWaves_0 : decode cX2_longestRowOfWaves 0 = .ok (.aload_n 0, 1) := by decide +kernel
theorem dX2_longestRowOfWaves_1 : decode cX2_longestRowOfWaves 1 = .ok (.invokevirtual 113, 3) := by decide +kernel
theorem dX2_longestRowOfWaves_4 : decode cX2_longestRowOfWaves 4 = .ok (.istore_n 3, 1) := by decide +kernel
theorem dX2_longestRowOfWaves_5 : decode cX2_longestRowOfWaves 5 = .ok (.iconst 0, 1) := by decide +kernel
theorem dX2_longestRowOfWaves_6 : decode cX2_longestRowOfWaves 6 = .ok (.istore 4, 2) := by decide +kernel
theorem dX2_longestRowOfWaves_8 : decode cX2_longestRowOfWaves 8 = .ok (.iconst 0, 1) := by decide +kernel
theorem dX2_longestRowOfWaves_9 : decode cX2_longestRowOfWaves 9 = .ok (.istore 5, 2) := by decide +kernel
theorem dX2_longestRowOfWaves_11 : decode cX2_longestRowOfWaves 11 = .ok (.iconst 0, 1) := by decide +kernel
theorem dX2_longestRowOfWaves_12 : decode cX2_longestRowOfWaves 12 = .ok (.istore 6, 2) := by decide +kernel
theorem dX2_longestRowOfWaves_14 : decode cX2_longestRowOfWaves 14 = .ok (.iload 6, 2) := by decide +kernel
theorem dX2_longestRowOfWaves_16 : decode cX2_longestRowOfWaves 16 = .ok (.iload_n 3, 1) := by decide +kernel
theorem dX2_longestRowOfWaves_17 : decode cX2_longestRowOfWaves 17 = .ok (.if_icmp .ge 40, 3) := by decide +kernel
theorem dX2_longestRowOfWaves_20 : decode cX2_longestRowOfWaves 20 = .ok (.aload_n 0, 1) := by decide +kernel
theorem dX2_longestRowOfWaves_21 : decode cX2_longestRowOfWaves 21 = .ok (.iload 6, 2) := by decide +kernel
theorem dX2_longestRowOfWaves_23 : decode cX2_longestRowOfWaves 23 = .ok (.iconst 4, 1) := by decide +kernel
theorem dX2_longestRowOfWaves_24 : decode cX2_longestRowOfWaves 24 = .ok (.invokevirtual 105, 3) := by decide +kernel
theorem dX2_longestRowOfWaves_27 : decode cX2_longestRowOfWaves 27 = .ok (.lload_n 1, 1) := by decide +kernel
theorem dX2_longestRowOfWaves_28 : decode cX2_longestRowOfWaves 28 = .ok (.lcmp, 1) := by decide +kernel
theorem dX2_longestRowOfWaves_29 : decode cX2_longestRowOfWaves 29 = .ok (.ifCond .le 10, 3) := by decide +kernel
theorem dX2_longestRowOfWaves_32 : decode cX2_longestRowOfWaves 32 = .ok (.iload 5, 2) := by decide +kernel
theorem dX2_longestRowOfWaves_34 : decode cX2_longestRowOfWaves 34 = .ok (.iconst 1, 1) := by decide +kernel
theorem dX2_longestRowOfWaves_35 : decode cX2_longestRowOfWaves 35 = .ok (.iadd, 1) := by decide +kernel
theorem dX2_longestRowOfWaves_36 : decode cX2_longestRowOfWaves 36 = .ok (.goto 4, 3) := by decide +kernel
theorem dX2_longestRowOfWaves_39 : decode cX2_longestRowOfWaves 39 = .ok (.iconst 0, 1) := by decide +kernel
theorem dX2_longestRowOfWaves_40 : decode cX2_longestRowOfWaves 40 = .ok (.istore 5, 2) := by decide +kernel
theorem dX2_longestRowOfWaves_42 : decode cX2_longestRowOfWaves 42 = .ok (.iload 4, 2) := by decide +kernel
theorem dX2_longestRowOfWaves_44 : decode cX2_longestRowOfWaves 44 = .ok (.iload 5, 2) := by decide +kernel
theorem dX2_longestRowOfWaves_46 : decode cX2_longestRowOfWaves 46 = .ok (.invokestatic 93, 3) := by decide +kernel
theorem dX2_longestRowOfWaves_49 : decode cX2_longestRowOfWaves 49 = .ok (.istore 4, 2) := by decide +kernel
theorem dX2_longestRowOfWaves_51 : decode cX2_longestRowOfWaves 51 = .ok (.iinc 6 1, 3) := by decide +kernel
theorem dX2_longestRowOfWaves_54 : decode cX2_longestRowOfWaves 54 = .ok (.goto (-40), 3) := by decide +kernel
theorem dX2_longestRowOfWaves_57 : decode cX2_longestRowOfWaves 57 = .ok (.iload 4, 2) := by decide +kernel
theorem dX2_longestRowOfWaves_59 : decode cX2_longestRowOfWaves 59 = .ok (.ireturn, 1) := by decide +kernel
theorem dX2_digestOn_0 : decode cX2_digestOn 0 = .ok (.ldc2_w 116, 3) := by decide +kernel
theorem dX2_digestOn_3 : decode cX2_digestOn 3 = .ok (.lload_n 1, 1) := by decide +kernel
theorem dX2_digestOn_4 : decode cX2_digestOn 4 = .ok (.lmul, 1) := by decide +kernel
theorem dX2_digestOn_5 : decode cX2_digestOn 5 = .ok (.aload_n 0, 1) := by decide +kernel
theorem dX2_digestOn_6 : decode cX2_digestOn 6 = .ok (.getfield 25, 3) := by decide +kernel
theorem dX2_digestOn_9 : decode cX2_digestOn 9 = .ok (.i2l, 1) := by decide +kernel
theorem dX2_digestOn_10 : decode cX2_digestOn 10 = .ok (.ladd, 1) := by decide +kernel
theorem dX2_digestOn_11 : decode cX2_digestOn 11 = .ok (.lstore_n 3, 1) := by decide +kernel
theorem dX2_digestOn_12 : decode cX2_digestOn 12 = .ok (.iconst 0, 1) := by decide +kernel
theorem dX2_digestOn_13 : decode cX2_digestOn 13 = .ok (.istore 5, 2) := by decide +kernel
theorem dX2_digestOn_15 : decode cX2_digestOn 15 = .ok (.iload 5, 2) := by decide +kernel
theorem dX2_digestOn_17 : decode cX2_digestOn 17 = .ok (.aload_n 0, 1) := by decide +kernel
theorem dX2_digestOn_18 : decode cX2_digestOn 18 = .ok (.getfield 25, 3) := by decide +kernel
theorem dX2_digestOn_21 : decode cX2_digestOn 21 = .ok (.if_icmp .ge 23, 3) := by decide +kernel
theorem dX2_digestOn_24 : decode cX2_digestOn 24 = .ok (.ldc2_w 116, 3) := by decide +kernel
theorem dX2_digestOn_27 : decode cX2_digestOn 27 = .ok (.lload_n 3, 1) := by decide +kernel
theorem dX2_digestOn_28 : decode cX2_digestOn 28 = .ok (.lmul, 1) := by decide +kernel
theorem dX2_digestOn_29 : decode cX2_digestOn 29 = .ok (.aload_n 0, 1) := by decide +kernel
theorem dX2_digestOn_30 : decode cX2_digestOn 30 = .ok (.getfield 9, 3) := by decide +kernel
theorem dX2_digestOn_33 : decode cX2_digestOn 33 = .ok (.iload 5, 2) := by decide +kernel
theorem dX2_digestOn_35 : decode cX2_digestOn 35 = .ok (.laload, 1) := by decide +kernel
theorem dX2_digestOn_36 : decode cX2_digestOn 36 = .ok (.ladd, 1) := by decide +kernel
theorem dX2_digestOn_37 : decode cX2_digestOn 37 = .ok (.lstore_n 3, 1) := by decide +kernel
theorem dX2_digestOn_38 : decode cX2_digestOn 38 = .ok (.iinc 5 1, 3) := by decide +kernel
theorem dX2_digestOn_41 : decode cX2_digestOn 41 = .ok (.goto (-26), 3) := by decide +kernel
theorem dX2_digestOn_44 : decode cX2_digestOn 44 = .ok (.lload_n 3, 1) := by decide +kernel
theorem dX2_digestOn_45 : decode cX2_digestOn 45 = .ok (.lreturn, 1) := by decide +kernel
theorem dX3_init_0 : decode cX3_init 0 = .ok (.aload_n 0, 1) := by decide +kernel
theorem dX3_init_1 : decode cX3_init 1 = .ok (.invokespecial 3, 3) := by decide +kernel
theorem dX3_init_4 : decode cX3_init 4 = .ok (.aload_n 0, 1) := by decide +kernel
theorem dX3_init_5 : decode cX3_init 5 = .ok (.bipush 64, 2) := by decide +kernel
theorem dX3_init_7 : decode cX3_init 7 = .ok (.newarray .int, 2) := by decide +kernel
theorem dX3_init_9 : decode cX3_init 9 = .ok (.putfield 9, 3) := by decide +kernel
theorem dX3_init_12 : decode cX3_init 12 = .ok (.aload_n 0, 1) := by decide +kernel
theorem dX3_init_13 : decode cX3_init 13 = .ok (.bipush 64, 2) := by decide +kernel
theorem dX3_init_15 : decode cX3_init 15 = .ok (.newarray .int, 2) := by decide +kernel
theorem dX3_init_17 : decode cX3_init 17 = .ok (.putfield 15, 3) := by decide +kernel
theorem dX3_init_20 : decode cX3_init 20 = .ok (.aload_n 0, 1) := by decide +kernel
theorem dX3_init_21 : decode cX3_init 21 = .ok (.bipush 64, 2) := by decide +kernel
theorem dX3_init_23 : decode cX3_init 23 = .ok (.newarray .boolean, 2) := by decide +kernel
theorem dX3_init_25 : decode cX3_init 25 = .ok (.putfield 18, 3) := by decide +kernel
theorem dX3_init_28 : decode cX3_init 28 = .ok (.return_, 1) := by decide +kernel
theorem dX3_begin_0 : decode cX3_begin 0 = .ok (.aload_n 0, 1) := by decide +kernel
theorem dX3_begin_1 : decode cX3_begin 1 = .ok (.iconst 1, 1) := by decide +kernel
theorem dX3_begin_2 : decode cX3_begin 2 = .ok (.putfield 22, 3) := by decide +kernel
theorem dX3_begin_5 : decode cX3_begin 5 = .ok (.aload_n 0, 1) := by decide +kernel
theorem dX3_begin_6 : decode cX3_begin 6 = .ok (.iload_n 1, 1) := by decide +kernel
theorem dX3_begin_7 : decode cX3_begin 7 = .ok (.putfield 26, 3) := by decide +kernel
theorem dX3_begin_10 : decode cX3_begin 10 = .ok (.aload_n 0, 1) := by decide +kernel
theorem dX3_begin_11 : decode cX3_begin 11 = .ok (.iload_n 2, 1) := by decide +kernel
theorem dX3_begin_12 : decode cX3_begin 12 = .ok (.putfield 30, 3) := by decide +kernel
theorem dX3_begin_15 : decode cX3_begin 15 = .ok (.aload_n 0, 1) := by decide +kernel
theorem dX3_begin_16 : decode cX3_begin 16 = .ok (.getfield 9, 3) := by decide +kernel
theorem dX3_begin_19 : decode cX3_begin 19 = .ok (.iconst 0, 1) := by decide +kernel
theorem dX3_begin_20 : decode cX3_begin 20 = .ok (.invokestatic 33, 3) := by decide +kernel
theorem dX3_begin_23 : decode cX3_begin 23 = .ok (.aload_n 0, 1) := by decide +kernel
theorem dX3_begin_24 : decode cX3_begin 24 = .ok (.getfield 15, 3) := by decide +kernel
theorem dX3_begin_27 : decode cX3_begin 27 = .ok (.iconst 1, 1) := by decide +kernel
theorem dX3_begin_28 : decode cX3_begin 28 = .ok (.invokestatic 33, 3) := by decide +kernel
theorem dX3_begin_31 : decode cX3_begin 31 = .ok (.return_, 1) := by decide +kernel
theorem dX3_end_0 : decode cX3_end 0 = .ok (.aload_n 0, 1) := by decide +kernel
theorem dX3_end_1 : decode cX3_end 1 = .ok (.iconst 0, 1) := by decide +kernel
theorem dX3_end_2 : decode cX3_end 2 = .ok (.putfield 22, 3) := by decide +kernel
theorem dX3_end_5 : decode cX3_end 5 = .ok (.aload_n 0, 1) := by decide +kernel
theorem dX3_end_6 : decode cX3_end 6 = .ok (.getfield 30, 3) := by decide +kernel
theorem dX3_end_9 : decode cX3_end 9 = .ok (.ireturn, 1) := by decide +kernel
theorem dX3_isThere_0 : decode cX3_isThere 0 = .ok (.aload_n 0, 1) := by decide +kernel
theorem dX3_isThere_1 : decode cX3_isThere 1 = .ok (.getfield 22, 3) := by decide +kernel
theorem dX3_isThere_4 : decode cX3_isThere 4 = .ok (.ireturn, 1) := by decide +kernel
theorem dX3_sort_0 : decode cX3_sort 0 = .ok (.aload_n 0, 1) := by decide +kernel
theorem dX3_sort_1 : decode cX3_sort 1 = .ok (.getfield 26, 3) := by decide +kernel
theorem dX3_sort_4 : decode cX3_sort 4 = .ok (.ireturn, 1) := by decide +kernel
theorem dX3_size_0 : decode cX3_size 0 = .ok (.aload_n 0, 1) := by decide +kernel
theorem dX3_size_1 : decode cX3_size 1 = .ok (.getfield 30, 3) := by decide +kernel
theorem dX3_size_4 : decode cX3_size 4 = .ok (.ireturn, 1) := by decide +kernel
theorem dX3_has_0 : decode cX3_has 0 = .ok (.iload_n 1, 1) := by decide +kernel
theorem dX3_has_1 : decode cX3_has 1 = .ok (.ifCond .lt 15, 3) := by decide +kernel
theorem dX3_has_4 : decode cX3_has 4 = .ok (.iload_n 1, 1) := by decide +kernel
theorem dX3_has_5 : decode cX3_has 5 = .ok (.aload_n 0, 1) := by decide +kernel
theorem dX3_has_6 : decode cX3_has 6 = .ok (.getfield 30, 3) := by decide +kernel
theorem dX3_has_9 : decode cX3_has 9 = .ok (.if_icmp .ge 7, 3) := by decide +kernel
theorem dX3_has_12 : decode cX3_has 12 = .ok (.iconst 1, 1) := by decide +kernel
theorem dX3_has_13 : decode cX3_has 13 = .ok (.goto 4, 3) := by decide +kernel
theorem dX3_has_16 : decode cX3_has 16 = .ok (.iconst 0, 1) := by decide +kernel
theorem dX3_has_17 : decode cX3_has 17 = .ok (.ireturn, 1) := by decide +kernel
theorem dX3_hasStretch_0 : decode cX3_hasStretch 0 = .ok (.iload_n 1, 1) := by decide +kernel
theorem dX3_hasStretch_1 : decode cX3_hasStretch 1 = .ok (.ifCond .lt 25, 3) := by decide +kernel
theorem dX3_hasStretch_4 : decode cX3_hasStretch 4 = .ok (.iload_n 1, 1) := by decide +kernel
theorem dX3_hasStretch_5 : decode cX3_hasStretch 5 = .ok (.aload_n 0, 1) := by decide +kernel
theorem dX3_hasStretch_6 : decode cX3_hasStretch 6 = .ok (.getfield 30, 3) := by decide +kernel
theorem dX3_hasStretch_9 : decode cX3_hasStretch 9 = .ok (.if_icmp .gt 17, 3) := by decide +kernel
theorem dX3_hasStretch_12 : decode cX3_hasStretch 12 = .ok (.iload_n 2, 1) := by decide +kernel
theorem dX3_hasStretch_13 : decode cX3_hasStretch 13 = .ok (.aload_n 0, 1) := by decide +kernel
theorem dX3_hasStretch_14 : decode cX3_hasStretch 14 = .ok (.getfield 30, 3) := by decide +kernel
theorem dX3_hasStretch_17 : decode cX3_hasStretch 17 = .ok (.iload_n 1, 1) := by decide +kernel
theorem dX3_hasStretch_18 : decode cX3_hasStretch 18 = .ok (.isub, 1) := by decide +kernel
theorem dX3_hasStretch_19 : decode cX3_hasStretch 19 = .ok (.if_icmp .gt 7, 3) := by decide +kernel
theorem dX3_hasStretch_22 : decode cX3_hasStretch 22 = .ok (.iconst 1, 1) := by decide +kernel
theorem dX3_hasStretch_23 : decode cX3_hasStretch 23 = .ok (.goto 4, 3) := by decide +kernel
theorem dX3_hasStretch_26 : decode cX3_hasStretch 26 = .ok (.iconst 0, 1) := by decide +kernel
theorem dX3_hasStretch_27 : decode cX3_hasStretch 27 = .ok (.ireturn, 1) := by decide +kernel
theorem dX3_fits_0 : decode cX3_fits 0 = .ok (.aload_n 0, 1) := by decide +kernel
theorem dX3_fits_1 : decode cX3_fits 1 = .ok (.getfield 26, 3) := by decide +kernel
theorem dX3_fits_4 : decode cX3_fits 4 = .ok (.lookupswitch 66 #[(0, 28), (1, 46)], 28) := by decide +kernel
theorem dX3_fits_32 : decode cX3_fits 32 = .ok (.iload_n 1, 1) := by decide +kernel
theorem dX3_fits_33 : decode cX3_fits 33 = .ok (.bipush (-128), 2) := by decide +kernel
theorem dX3_fits_35 : decode cX3_fits 35 = .ok (.if_icmp .lt 13, 3) := by decide +kernel
theorem dX3_fits_38 : decode cX3_fits 38 = .ok (.iload_n 1, 1) := by decide +kernel
theorem dX3_fits_39 : decode cX3_fits 39 = .ok (.bipush 127, 2) := by decide +kernel
theorem dX3_fits_41 : decode cX3_fits 41 = .ok (.if_icmp .gt 7, 3) := by decide +kernel
theorem dX3_fits_44 : decode cX3_fits 44 = .ok (.iconst 1, 1) := by decide +kernel
theorem dX3_fits_45 : decode cX3_fits 45 = .ok (.goto 4, 3) := by decide +kernel
theorem dX3_fits_48 : decode cX3_fits 48 = .ok (.iconst 0, 1) := by decide +kernel
theorem dX3_fits_49 : decode cX3_fits 49 = .ok (.ireturn, 1) := by decide +kernel
theorem dX3_fits_50 : decode cX3_fits 50 = .ok (.iload_n 1, 1) := by decide +kernel
theorem dX3_fits_51 : decode cX3_fits 51 = .ok (.sipush (-32768), 3) := by decide +kernel
theorem dX3_fits_54 : decode cX3_fits 54 = .ok (.if_icmp .lt 14, 3) := by decide +kernel
theorem dX3_fits_57 : decode cX3_fits 57 = .ok (.iload_n 1, 1) := by decide +kernel
theorem dX3_fits_58 : decode cX3_fits 58 = .ok (.sipush 32767, 3) := by decide +kernel
theorem dX3_fits_61 : decode cX3_fits 61 = .ok (.if_icmp .gt 7, 3) := by decide +kernel
theorem dX3_fits_64 : decode cX3_fits 64 = .ok (.iconst 1, 1) := by decide +kernel
theorem dX3_fits_65 : decode cX3_fits 65 = .ok (.goto 4, 3) := by decide +kernel
theorem dX3_fits_68 : decode cX3_fits 68 = .ok (.iconst 0, 1) := by decide +kernel
theorem dX3_fits_69 : decode cX3_fits 69 = .ok (.ireturn, 1) := by decide +kernel
theorem dX3_fits_70 : decode cX3_fits 70 = .ok (.iconst 1, 1) := by decide +kernel
theorem dX3_fits_71 : decode cX3_fits 71 = .ok (.ireturn, 1) := by decide +kernel
theorem dX3_tell_0 : decode cX3_tell 0 = .ok (.aload_n 0, 1) := by decide +kernel
theorem dX3_tell_1 : decode cX3_tell 1 = .ok (.getfield 9, 3) := by decide +kernel
theorem dX3_tell_4 : decode cX3_tell 4 = .ok (.iload_n 1, 1) := by decide +kernel
theorem dX3_tell_5 : decode cX3_tell 5 = .ok (.iload_n 2, 1) := by decide +kernel
theorem dX3_tell_6 : decode cX3_tell 6 = .ok (.iastore, 1) := by decide +kernel
theorem dX3_tell_7 : decode cX3_tell 7 = .ok (.aload_n 0, 1) := by decide +kernel
theorem dX3_tell_8 : decode cX3_tell 8 = .ok (.getfield 15, 3) := by decide +kernel
theorem dX3_tell_11 : decode cX3_tell 11 = .ok (.iload_n 1, 1) := by decide +kernel
theorem dX3_tell_12 : decode cX3_tell 12 = .ok (.iconst 1, 1) := by decide +kernel
theorem dX3_tell_13 : decode cX3_tell 13 = .ok (.iastore, 1) := by decide +kernel
theorem dX3_tell_14 : decode cX3_tell 14 = .ok (.return_, 1) := by decide +kernel
theorem dX3_forget_0 : decode cX3_forget 0 = .ok (.aload_n 0, 1) := by decide +kernel
theorem dX3_forget_1 : decode cX3_forget 1 = .ok (.getfield 9, 3) := by decide +kernel
theorem dX3_forget_4 : decode cX3_forget 4 = .ok (.iload_n 1, 1) := by decide +kernel
theorem dX3_forget_5 : decode cX3_forget 5 = .ok (.iconst 0, 1) := by decide +kernel
theorem dX3_forget_6 : decode cX3_forget 6 = .ok (.iastore, 1) := by decide +kernel
theorem dX3_forget_7 : decode cX3_forget 7 = .ok (.aload_n 0, 1) := by decide +kernel
theorem dX3_forget_8 : decode cX3_forget 8 = .ok (.getfield 15, 3) := by decide +kernel
theorem dX3_forget_11 : decode cX3_forget 11 = .ok (.iload_n 1, 1) := by decide +kernel
theorem dX3_forget_12 : decode cX3_forget 12 = .ok (.iconst 0, 1) := by decide +kernel
theorem dX3_forget_13 : decode cX3_forget 13 = .ok (.iastore, 1) := by decide +kernel
theorem dX3_forget_14 : decode cX3_forget 14 = .ok (.return_, 1) := by decide +kernel
theorem dX3_isLost_0 : decode cX3_isLost 0 = .ok (.aload_n 0, 1) := by decide +kernel
theorem dX3_isLost_1 : decode cX3_isLost 1 = .ok (.getfield 15, 3) := by decide +kernel
theorem dX3_isLost_4 : decode cX3_isLost 4 = .ok (.iload_n 1, 1) := by decide +kernel
theorem dX3_isLost_5 : decode cX3_isLost 5 = .ok (.iaload, 1) := by decide +kernel
theorem dX3_isLost_6 : decode cX3_isLost 6 = .ok (.ifCond .ne 7, 3) := by decide +kernel
theorem dX3_isLost_9 : decode cX3_isLost 9 = .ok (.iconst 1, 1) := by decide +kernel
theorem dX3_isLost_10 : decode cX3_isLost 10 = .ok (.goto 4, 3) := by decide +kernel
theorem dX3_isLost_13 : decode cX3_isLost 13 = .ok (.iconst 0, 1) := by decide +kernel
theorem dX3_isLost_14 : decode cX3_isLost 14 = .ok (.ireturn, 1) := by decide +kernel
theorem dX3_stateAt_0 : decode cX3_stateAt 0 = .ok (.aload_n 0, 1) := by decide +kernel
theorem dX3_stateAt_1 : decode cX3_stateAt 1 = .ok (.getfield 15, 3) := by decide +kernel
theorem dX3_stateAt_4 : decode cX3_stateAt 4 = .ok (.iload_n 1, 1) := by decide +kernel
theorem dX3_stateAt_5 : decode cX3_stateAt 5 = .ok (.iaload, 1) := by decide +kernel
theorem dX3_stateAt_6 : decode cX3_stateAt 6 = .ok (.ireturn, 1) := by decide +kernel
theorem dX3_valueAt_0 : decode cX3_valueAt 0 = .ok (.aload_n 0, 1) := by decide +kernel
theorem dX3_valueAt_1 : decode cX3_valueAt 1 = .ok (.getfield 9, 3) := by decide +kernel
theorem dX3_valueAt_4 : decode cX3_valueAt 4 = .ok (.iload_n 1, 1) := by decide +kernel
theorem dX3_valueAt_5 : decode cX3_valueAt 5 = .ok (.iaload, 1) := by decide +kernel
theorem dX3_valueAt_6 : decode cX3_valueAt 6 = .ok (.ireturn, 1) := by decide +kernel
theorem dX3_take_0 : decode cX3_take 0 = .ok (.aload_n 1, 1) := by decide +kernel
theorem dX3_take_1 : decode cX3_take 1 = .ok (.getfield 9, 3) := by decide +kernel
theorem dX3_take_4 : decode cX3_take 4 = .ok (.iload_n 2, 1) := by decide +kernel
theorem dX3_take_5 : decode cX3_take 5 = .ok (.aload_n 0, 1) := by decide +kernel
theorem dX3_take_6 : decode cX3_take 6 = .ok (.getfield 9, 3) := by decide +kernel
theorem dX3_take_9 : decode cX3_take 9 = .ok (.iload_n 3, 1) := by decide +kernel
theorem dX3_take_10 : decode cX3_take 10 = .ok (.iload 4, 2) := by decide +kernel
theorem dX3_take_12 : decode cX3_take 12 = .ok (.invokestatic 39, 3) := by decide +kernel
theorem dX3_take_15 : decode cX3_take 15 = .ok (.aload_n 1, 1) := by decide +kernel
theorem dX3_take_16 : decode cX3_take 16 = .ok (.getfield 15, 3) := by decide +kernel
theorem dX3_take_19 : decode cX3_take 19 = .ok (.iload_n 2, 1) := by decide +kernel
theorem dX3_take_20 : decode cX3_take 20 = .ok (.aload_n 0, 1) := by decide +kernel
theorem dX3_take_21 : decode cX3_take 21 = .ok (.getfield 15, 3) := by decide +kernel
theorem dX3_take_24 : decode cX3_take 24 = .ok (.iload_n 3, 1) := by decide +kernel
theorem dX3_take_25 : decode cX3_take 25 = .ok (.iload 4, 2) := by decide +kernel
theorem dX3_take_27 : decode cX3_take 27 = .ok (.invokestatic 39, 3) := by decide +kernel
theorem dX3_take_30 : decode cX3_take 30 = .ok (.return_, 1) := by decide +kernel
theorem dX3_loseSpikes_0 : decode cX3_loseSpikes 0 = .ok (.iconst 0, 1) := by decide +kernel
theorem dX3_loseSpikes_1 : decode cX3_loseSpikes 1 = .ok (.istore_n 2, 1) := by decide +kernel
theorem dX3_loseSpikes_2 : decode cX3_loseSpikes 2 = .ok (.iload_n 2, 1) := by decide +kernel
theorem dX3_loseSpikes_3 : decode cX3_loseSpikes 3 = .ok (.aload_n 0, 1) := by decide +kernel
theorem dX3_loseSpikes_4 : decode cX3_loseSpikes 4 = .ok (.getfield 30, 3) := by decide +kernel
theorem dX3_loseSpikes_7 : decode cX3_loseSpikes 7 = .ok (.if_icmp .ge 21, 3) := by decide +kernel
theorem dX3_loseSpikes_10 : decode cX3_loseSpikes 10 = .ok (.aload_n 0, 1) := by decide +kernel
theorem dX3_loseSpikes_11 : decode cX3_loseSpikes 11 = .ok (.getfield 18, 3) := by decide +kernel
theorem dX3_loseSpikes_14 : decode cX3_loseSpikes 14 = .ok (.iload_n 2, 1) := by decide +kernel
theorem dX3_loseSpikes_15 : decode cX3_loseSpikes 15 = .ok (.aload_n 0, 1) := by decide +kernel
theorem dX3_loseSpikes_16 : decode cX3_loseSpikes 16 = .ok (.iload_n 2, 1) := by decide +kernel
theorem dX3_loseSpikes_17 : decode cX3_loseSpikes 17 = .ok (.iload_n 1, 1) := by decide +kernel
theorem dX3_loseSpikes_18 : decode cX3_loseSpikes 18 = .ok (.invokevirtual 45, 3) := by decide +kernel
theorem dX3_loseSpikes_21 : decode cX3_loseSpikes 21 = .ok (.bastore, 1) := by decide +kernel
theorem dX3_loseSpikes_22 : decode cX3_loseSpikes 22 = .ok (.iinc 2 1, 3) := by decide +kernel
theorem dX3_loseSpikes_25 : decode cX3_loseSpikes 25 = .ok (.goto (-23), 3) := by decide +kernel
theorem dX3_loseSpikes_28 : decode cX3_loseSpikes 28 = .ok (.iconst 0, 1) := by decide +kernel
theorem dX3_loseSpikes_29 : decode cX3_loseSpikes 29 = .ok (.istore_n 2, 1) := by decide +kernel
theorem dX3_loseSpikes_30 : decode cX3_loseSpikes 30 = .ok (.iconst 0, 1) := by decide +kernel
theorem dX3_loseSpikes_31 : decode cX3_loseSpikes 31 = .ok (.istore_n 3, 1) := by decide +kernel
theorem dX3_loseSpikes_32 : decode cX3_loseSpikes 32 = .ok (.iload_n 3, 1) := by decide +kernel
theorem dX3_loseSpikes_33 : decode cX3_loseSpikes 33 = .ok (.aload_n 0, 1) := by decide +kernel
theorem dX3_loseSpikes_34 : decode cX3_loseSpikes 34 = .ok (.getfield 30, 3) := by decide +kernel
theorem dX3_loseSpikes_37 : decode cX3_loseSpikes 37 = .ok (.if_icmp .ge 26, 3) := by decide +kernel
theorem dX3_loseSpikes_40 : decode cX3_loseSpikes 40 = .ok (.aload_n 0, 1) := by decide +kernel
theorem dX3_loseSpikes_41 : decode cX3_loseSpikes 41 = .ok (.getfield 18, 3) := by decide +kernel
theorem dX3_loseSpikes_44 : decode cX3_loseSpikes 44 = .ok (.iload_n 3, 1) := by decide +kernel
theorem dX3_loseSpikes_45 : decode cX3_loseSpikes 45 = .ok (.baload, 1) := by decide +kernel
theorem dX3_loseSpikes_46 : decode cX3_loseSpikes 46 = .ok (.ifCond .eq 11, 3) := by decide +kernel
theorem dX3_loseSpikes_49 : decode cX3_loseSpikes 49 = .ok (.aload_n 0, 1) := by decide +kernel
theorem dX3_loseSpikes_50 : decode cX3_loseSpikes 50 = .ok (.iload_n 3, 1) := by decide +kernel
theorem dX3_loseSpikes_51 : decode cX3_loseSpikes 51 = .ok (.invokevirtual 49, 3) := by decide +kernel
theorem dX3_loseSpikes_54 : decode cX3_loseSpikes 54 = .ok (.iinc 2 1, 3) := by decide +kernel
theorem dX3_loseSpikes_57 : decode cX3_loseSpikes 57 = .ok (.iinc 3 1, 3) := by decide +kernel
theorem dX3_loseSpikes_60 : decode cX3_loseSpikes 60 = .ok (.goto (-28), 3) := by decide +kernel
theorem dX3_loseSpikes_63 : decode cX3_loseSpikes 63 = .ok (.iload_n 2, 1) := by decide +kernel
theorem dX3_loseSpikes_64 : decode cX3_loseSpikes 64 = .ok (.ireturn, 1) := by decide +kernel
theorem dX3_isSpike_0 : decode cX3_isSpike 0 = .ok (.iload_n 1, 1) := by decide +kernel
theorem dX3_isSpike_1 : decode cX3_isSpike 1 = .ok (.iconst 1, 1) := by decide +kernel
theorem dX3_isSpike_2 : decode cX3_isSpike 2 = .ok (.if_icmp .lt 41, 3) := by decide +kernel
theorem dX3_isSpike_5 : decode cX3_isSpike 5 = .ok (.iload_n 1, 1) := by decide +kernel
theorem dX3_isSpike_6 : decode cX3_isSpike 6 = .ok (.iconst 1, 1) := by decide +kernel
theorem dX3_isSpike_7 : decode cX3_isSpike 7 = .ok (.iadd, 1) := by decide +kernel
theorem dX3_isSpike_8 : decode cX3_isSpike 8 = .ok (.aload_n 0, 1) := by decide +kernel
theorem dX3_isSpike_9 : decode cX3_isSpike 9 = .ok (.getfield 30, 3) := by decide +kernel
theorem dX3_isSpike_12 : decode cX3_isSpike 12 = .ok (.if_icmp .ge 31, 3) := by decide +kernel
theorem dX3_isSpike_15 : decode cX3_isSpike 15 = .ok (.aload_n 0, 1) := by decide +kernel
theorem dX3_isSpike_16 : decode cX3_isSpike 16 = .ok (.iload_n 1, 1) := by decide +kernel
theorem dX3_isSpike_17 : decode cX3_isSpike 17 = .ok (.iconst 1, 1) := by decide +kernel
theorem dX3_isSpike_18 : decode cX3_isSpike 18 = .ok (.isub, 1) := by decide +kernel
theorem dX3_isSpike_19 : decode cX3_isSpike 19 = .ok (.invokevirtual 53, 3) := by decide +kernel
theorem dX3_isSpike_22 : decode cX3_isSpike 22 = .ok (.ifCond .ne 21, 3) := by decide +kernel
theorem dX3_isSpike_25 : decode cX3_isSpike 25 = .ok (.aload_n 0, 1) := by decide +kernel
theorem dX3_isSpike_26 : decode cX3_isSpike 26 = .ok (.iload_n 1, 1) := by decide +kernel
theorem dX3_isSpike_27 : decode cX3_isSpike 27 = .ok (.invokevirtual 53, 3) := by decide +kernel
theorem dX3_isSpike_30 : decode cX3_isSpike 30 = .ok (.ifCond .ne 13, 3) := by decide +kernel
theorem dX3_isSpike_33 : decode cX3_isSpike 33 = .ok (.aload_n 0, 1) := by decide +kernel
theorem dX3_isSpike_34 : decode cX3_isSpike 34 = .ok (.iload_n 1, 1) := by decide +kernel
theorem dX3_isSpike_35 : decode cX3_isSpike 35 = .ok (.iconst 1, 1) := by decide +kernel
theorem dX3_isSpike_36 : decode cX3_isSpike 36 = .ok (.iadd, 1) := by decide +kernel
theorem dX3_isSpike_37 : decode cX3_isSpike 37 = .ok (.invokevirtual 53, 3) := by decide +kernel
theorem dX3_isSpike_40 : decode cX3_isSpike 40 = .ok (.ifCond .eq 5, 3) := by decide +kernel
theorem dX3_isSpike_43 : decode cX3_isSpike 43 = .ok (.iconst 0, 1) := by decide +kernel
theorem dX3_isSpike_44 : decode cX3_isSpike 44 = .ok (.ireturn, 1) := by decide +kernel
theorem dX3_isSpike_45 : decode cX3_isSpike 45 = .ok (.ldc2_w 57, 3) := by decide +kernel
theorem dX3_isSpike_48 : decode cX3_isSpike 48 = .ok (.aload_n 0, 1) := by decide +kernel
theorem dX3_isSpike_49 : decode cX3_isSpike 49 = .ok (.getfield 9, 3) := by decide +kernel
theorem dX3_isSpike_52 : decode cX3_isSpike 52 = .ok (.iload_n 1, 1) := by decide +kernel
theorem dX3_isSpike_53 : decode cX3_isSpike 53 = .ok (.iaload, 1) := by decide +kernel
theorem dX3_isSpike_54 : decode cX3_isSpike 54 = .ok (.i2l, 1) := by decide +kernel
theorem dX3_isSpike_55 : decode cX3_isSpike 55 = .ok (.lmul, 1) := by decide +kernel
theorem dX3_isSpike_56 : decode cX3_isSpike 56 = .ok (.aload_n 0, 1) := by decide +kernel
theorem dX3_isSpike_57 : decode cX3_isSpike 57 = .ok (.getfield 9, 3) := by decide +kernel
theorem dX3_isSpike_60 : decode cX3_isSpike 60 = .ok (.iload_n 1, 1) := by decide +kernel
theorem dX3_isSpike_61 : decode cX3_isSpike 61 = .ok (.iconst 1, 1) := by decide +kernel
theorem dX3_isSpike_62 : decode cX3_isSpike 62 = .ok (.isub, 1) := by decide +kernel
theorem dX3_isSpike_63 : decode cX3_isSpike 63 = .ok (.iaload, 1) := by decide +kernel
theorem dX3_isSpike_64 : decode cX3_isSpike 64 = .ok (.i2l, 1) := by decide +kernel
theorem dX3_isSpike_65 : decode cX3_isSpike 65 = .ok (.lsub, 1) := by decide +kernel
theorem dX3_isSpike_66 : decode cX3_isSpike 66 = .ok (.aload_n 0, 1) := by decide +kernel
theorem dX3_isSpike_67 : decode cX3_isSpike 67 = .ok (.getfield 9, 3) := by decide +kernel
theorem dX3_isSpike_70 : decode cX3_isSpike 70 = .ok (.iload_n 1, 1) := by decide +kernel
theorem dX3_isSpike_71 : decode cX3_isSpike 71 = .ok (.iconst 1, 1) := by decide +kernel
theorem dX3_isSpike_72 : decode cX3_isSpike 72 = .ok (.iadd, 1) := by decide +kernel
theorem dX3_isSpike_73 : decode cX3_isSpike 73 = .ok (.iaload, 1) := by decide +kernel
theorem dX3_isSpike_74 : decode cX3_isSpike 74 = .ok (.i2l, 1) := by decide +kernel
theorem dX3_isSpike_75 : decode cX3_isSpike 75 = .ok (.lsub, 1) := by decide +kernel
theorem dX3_isSpike_76 : decode cX3_isSpike 76 = .ok (.lstore_n 3, 1) := by decide +kernel
theorem dX3_isSpike_77 : decode cX3_isSpike 77 = .ok (.lload_n 3, 1) := by decide +kernel
theorem dX3_isSpike_78 : decode cX3_isSpike 78 = .ok (.invokestatic 59, 3) := by decide +kernel
theorem dX3_isSpike_81 : decode cX3_isSpike 81 = .ok (.ldc2_w 57, 3) := by decide +kernel
theorem dX3_isSpike_84 : decode cX3_isSpike 84 = .ok (.iload_n 2, 1) := by decide +kernel
theorem dX3_isSpike_85 : decode cX3_isSpike 85 = .ok (.i2l, 1) := by decide +kernel
theorem dX3_isSpike_86 : decode cX3_isSpike 86 = .ok (.lmul, 1) := by decide +kernel
theorem dX3_isSpike_87 : decode cX3_isSpike 87 = .ok (.lcmp, 1) := by decide +kernel
theorem dX3_isSpike_88 : decode cX3_isSpike 88 = .ok (.ifCond .le 7, 3) := by decide +kernel
theorem dX3_isSpike_91 : decode cX3_isSpike 91 = .ok (.iconst 1, 1) := by decide +kernel
theorem dX3_isSpike_92 : decode cX3_isSpike 92 = .ok (.goto 4, 3) := by decide +kernel
theorem dX3_isSpike_95 : decode cX3_isSpike 95 = .ok (.iconst 0, 1) := by decide +kernel
theorem dX3_isSpike_96 : decode cX3_isSpike 96 = .ok (.ireturn, 1) := by decide +kernel
theorem dX3_fillGaps_0 : decode cX3_fillGaps 0 = .ok (.iconst 0, 1) := by decide +kernel
theorem dX3_fillGaps_1 : decode cX3_fillGaps 1 = .ok (.istore_n 2, 1) := by decide +kernel
theorem dX3_fillGaps_2 : decode cX3_fillGaps 2 = .ok (.iconst (-1), 1) := by decide +kernel
theorem dX3_fillGaps_3 : decode cX3_fillGaps 3 = .ok (.istore_n 3, 1) := by decide +kernel
theorem dX3_fillGaps_4 : decode cX3_fillGaps 4 = .ok (.iconst 0, 1) := by decide +kernel
theorem dX3_fillGaps_5 : decode cX3_fillGaps 5 = .ok (.istore 4, 2) := by decide +kernel
theorem dX3_fillGaps_7 : decode cX3_fillGaps 7 = .ok (.iload 4, 2) := by decide +kernel
theorem dX3_fillGaps_9 : decode cX3_fillGaps 9 = .ok (.aload_n 0, 1) := by decide +kernel
theorem dX3_fillGaps_10 : decode cX3_fillGaps 10 = .ok (.getfield 30, 3) := by decide +kernel
theorem dX3_fillGaps_13 : decode cX3_fillGaps 13 = .ok (.if_icmp .ge 51, 3) := by decide +kernel
theorem dX3_fillGaps_16 : decode cX3_fillGaps 16 = .ok (.aload_n 0, 1) := by decide +kernel
theorem dX3_fillGaps_17 : decode cX3_fillGaps 17 = .ok (.iload 4, 2) := by decide +kernel
theorem dX3_fillGaps_19 : decode cX3_fillGaps 19 = .ok (.invokevirtual 53, 3) := by decide +kernel
theorem dX3_fillGaps_22 : decode cX3_fillGaps 22 = .ok (.ifCond .ne 36, 3) := by decide +kernel
theorem dX3_fillGaps_25 : decode cX3_fillGaps 25 = .ok (.iload 4, 2) := by decide +kernel
theorem dX3_fillGaps_27 : decode cX3_fillGaps 27 = .ok (.iload_n 3, 1) := by decide +kernel
theorem dX3_fillGaps_28 : decode cX3_fillGaps 28 = .ok (.isub, 1) := by decide +kernel
theorem dX3_fillGaps_29 : decode cX3_fillGaps 29 = .ok (.iconst 1, 1) := by decide +kernel
theorem dX3_fillGaps_30 : decode cX3_fillGaps 30 = .ok (.isub, 1) := by decide +kernel
theorem dX3_fillGaps_31 : decode cX3_fillGaps 31 = .ok (.istore 5, 2) := by decide +kernel
theorem dX3_fillGaps_33 : decode cX3_fillGaps 33 = .ok (.iload_n 3, 1) := by decide +kernel
theorem dX3_fillGaps_34 : decode cX3_fillGaps 34 = .ok (.ifCond .lt 21, 3) := by decide +kernel
theorem dX3_fillGaps_37 : decode cX3_fillGaps 37 = .ok (.iload 5, 2) := by decide +kernel
theorem dX3_fillGaps_39 : decode cX3_fillGaps 39 = .ok (.iload_n 1, 1) := by decide +kernel
theorem dX3_fillGaps_40 : decode cX3_fillGaps 40 = .ok (.if_icmp .gt 15, 3) := by decide +kernel
theorem dX3_fillGaps_43 : decode cX3_fillGaps 43 = .ok (.aload_n 0, 1) := by decide +kernel
theorem dX3_fillGaps_44 : decode cX3_fillGaps 44 = .ok (.iload_n 3, 1) := by decide +kernel
theorem dX3_fillGaps_45 : decode cX3_fillGaps 45 = .ok (.iload 4, 2) := by decide +kernel
theorem dX3_fillGaps_47 : decode cX3_fillGaps 47 = .ok (.invokevirtual 65, 3) := by decide +kernel
theorem dX3_fillGaps_50 : decode cX3_fillGaps 50 = .ok (.iload_n 2, 1) := by decide +kernel
theorem dX3_fillGaps_51 : decode cX3_fillGaps 51 = .ok (.iload 5, 2) := by decide +kernel
theorem dX3_fillGaps_53 : decode cX3_fillGaps 53 = .ok (.iadd, 1) := by decide +kernel
theorem dX3_fillGaps_54 : decode cX3_fillGaps 54 = .ok (.istore_n 2, 1) := by decide +kernel
theorem dX3_fillGaps_55 : decode cX3_fillGaps 55 = .ok (.iload 4, 2) := by decide +kernel
theorem dX3_fillGaps_57 : decode cX3_fillGaps 57 = .ok (.istore_n 3, 1) := by decide +kernel
theorem dX3_fillGaps_58 : decode cX3_fillGaps 58 = .ok (.iinc 4 1, 3) := by decide +kernel
theorem dX3_fillGaps_61 : decode cX3_fillGaps 61 = .ok (.goto (-54), 3) := by decide +kernel
theorem dX3_fillGaps_64 : decode cX3_fillGaps 64 = .ok (.iload_n 2, 1) := by decide +kernel
theorem dX3_fillGaps_65 : decode cX3_fillGaps 65 = .ok (.ireturn, 1) := by decide +kernel
theorem dX3_fillBetween_0 : decode cX3_fillBetween 0 = .ok (.aload_n 0, 1) := by decide +kernel
theorem dX3_fillBetween_1 : decode cX3_fillBetween 1 = .ok (.getfield 9, 3) := by decide +kernel
theorem dX3_fillBetween_4 : decode cX3_fillBetween 4 = .ok (.iload_n 1, 1) := by decide +kernel
theorem dX3_fillBetween_5 : decode cX3_fillBetween 5 = .ok (.iaload, 1) := by decide +kernel
theorem dX3_fillBetween_6 : decode cX3_fillBetween 6 = .ok (.i2l, 1) := by decide +kernel
theorem dX3_fillBetween_7 : decode cX3_fillBetween 7 = .ok (.lstore_n 3, 1) := by decide +kernel
theorem dX3_fillBetween_8 : decode cX3_fillBetween 8 = .ok (.aload_n 0, 1) := by decide +kernel
theorem dX3_fillBetween_9 : decode cX3_fillBetween 9 = .ok (.getfield 9, 3) := by decide +kernel
theorem dX3_fillBetween_12 : decode cX3_fillBetween 12 = .ok (.iload_n 2, 1) := by decide +kernel
theorem dX3_fillBetween_13 : decode cX3_fillBetween 13 = .ok (.iaload, 1) := by decide +kernel
theorem dX3_fillBetween_14 : decode cX3_fillBetween 14 = .ok (.i2l, 1) := by decide +kernel
theorem dX3_fillBetween_15 : decode cX3_fillBetween 15 = .ok (.lload_n 3, 1) := by decide +kernel
theorem dX3_fillBetween_16 : decode cX3_fillBetween 16 = .ok (.lsub, 1) := by decide +kernel
theorem dX3_fillBetween_17 : decode cX3_fillBetween 17 = .ok (.lstore 5, 2) := by decide +kernel
theorem dX3_fillBetween_19 : decode cX3_fillBetween 19 = .ok (.iload_n 2, 1) := by decide +kernel
theorem dX3_fillBetween_20 : decode cX3_fillBetween 20 = .ok (.iload_n 1, 1) := by decide +kernel
theorem dX3_fillBetween_21 : decode cX3_fillBetween 21 = .ok (.isub, 1) := by decide +kernel
theorem dX3_fillBetween_22 : decode cX3_fillBetween 22 = .ok (.istore 7, 2) := by decide +kernel
theorem dX3_fillBetween_24 : decode cX3_fillBetween 24 = .ok (.iconst 1, 1) := by decide +kernel
theorem dX3_fillBetween_25 : decode cX3_fillBetween 25 = .ok (.istore 8, 2) := by decide +kernel
theorem dX3_fillBetween_27 : decode cX3_fillBetween 27 = .ok (.iload 8, 2) := by decide +kernel
theorem dX3_fillBetween_29 : decode cX3_fillBetween 29 = .ok (.iload 7, 2) := by decide +kernel
theorem dX3_fillBetween_31 : decode cX3_fillBetween 31 = .ok (.if_icmp .ge 41, 3) := by decide +kernel
theorem dX3_fillBetween_34 : decode cX3_fillBetween 34 = .ok (.aload_n 0, 1) := by decide +kernel
theorem dX3_fillBetween_35 : decode cX3_fillBetween 35 = .ok (.getfield 9, 3) := by decide +kernel
theorem dX3_fillBetween_38 : decode cX3_fillBetween 38 = .ok (.iload_n 1, 1) := by decide +kernel
theorem dX3_fillBetween_39 : decode cX3_fillBetween 39 = .ok (.iload 8, 2) := by decide +kernel
theorem dX3_fillBetween_41 : decode cX3_fillBetween 41 = .ok (.iadd, 1) := by decide +kernel
theorem dX3_fillBetween_42 : decode cX3_fillBetween 42 = .ok (.lload_n 3, 1) := by decide +kernel
theorem dX3_fillBetween_43 : decode cX3_fillBetween 43 = .ok (.lload 5, 2) := by decide +kernel
theorem dX3_fillBetween_45 : decode cX3_fillBetween 45 = .ok (.iload 8, 2) := by decide +kernel
theorem dX3_fillBetween_47 : decode cX3_fillBetween 47 = .ok (.i2l, 1) := by decide +kernel
theorem dX3_fillBetween_48 : decode cX3_fillBetween 48 = .ok (.lmul, 1) := by decide +kernel
theorem dX3_fillBetween_49 : decode cX3_fillBetween 49 = .ok (.iload 7, 2) := by decide +kernel
theorem dX3_fillBetween_51 : decode cX3_fillBetween 51 = .ok (.i2l, 1) := by decide +kernel
theorem dX3_fillBetween_52 : decode cX3_fillBetween 52 = .ok (.ldiv, 1) := by decide +kernel
theorem dX3_fillBetween_53 : decode cX3_fillBetween 53 = .ok (.ladd, 1) := by decide +kernel
theorem dX3_fillBetween_54 : decode cX3_fillBetween 54 = .ok (.l2i, 1) := by decide +kernel
theorem dX3_fillBetween_55 : decode cX3_fillBetween 55 = .ok (.iastore, 1) := by decide +kernel
theorem dX3_fillBetween_56 : decode cX3_fillBetween 56 = .ok (.aload_n 0, 1) := by decide +kernel
theorem dX3_fillBetween_57 : decode cX3_fillBetween 57 = .ok (.getfield 15, 3) := by decide +kernel
theorem dX3_fillBetween_60 : decode cX3_fillBetween 60 = .ok (.iload_n 1, 1) := by decide +kernel
theorem dX3_fillBetween_61 : decode cX3_fillBetween 61 = .ok (.iload 8, 2) := by decide +kernel
theorem dX3_fillBetween_63 : decode cX3_fillBetween 63 = .ok (.iadd, 1) := by decide +kernel
theorem dX3_fillBetween_64 : decode cX3_fillBetween 64 = .ok (.iconst 2, 1) := by decide +kernel
theorem dX3_fillBetween_65 : decode cX3_fillBetween 65 = .ok (.iastore, 1) := by decide +kernel
theorem dX3_fillBetween_66 : decode cX3_fillBetween 66 = .ok (.iinc 8 1, 3) := by decide +kernel
theorem dX3_fillBetween_69 : decode cX3_fillBetween 69 = .ok (.goto (-42), 3) := by decide +kernel
theorem dX3_fillBetween_72 : decode cX3_fillBetween 72 = .ok (.return_, 1) := by decide +kernel
theorem dX3_fact_0 : decode cX3_fact 0 = .ok (.iload_n 1, 1) := by decide +kernel
theorem dX3_fact_1 : decode cX3_fact 1 = .ok (.tableswitch 60 0 4 #[35, 40, 45, 50, 55], 35) := by decide +kernel
theorem dX3_fact_36 : decode cX3_fact 36 = .ok (.aload_n 0, 1) := by decide +kernel
theorem dX3_fact_37 : decode cX3_fact 37 = .ok (.getfield 26, 3) := by decide +kernel
theorem dX3_fact_40 : decode cX3_fact 40 = .ok (.ireturn, 1) := by decide +kernel
theorem dX3_fact_41 : decode cX3_fact 41 = .ok (.aload_n 0, 1) := by decide +kernel
theorem dX3_fact_42 : decode cX3_fact 42 = .ok (.getfield 30, 3) := by decide +kernel
theorem dX3_fact_45 : decode cX3_fact 45 = .ok (.ireturn, 1) := by decide +kernel
theorem dX3_fact_46 : decode cX3_fact 46 = .ok (.aload_n 0, 1) := by decide +kernel
theorem dX3_fact_47 : decode cX3_fact 47 = .ok (.invokevirtual 69, 3) := by decide +kernel
theorem dX3_fact_50 : decode cX3_fact 50 = .ok (.ireturn, 1) := by decide +kernel
theorem dX3_fact_51 : decode cX3_fact 51 = .ok (.aload_n 0, 1) := by decide +kernel
theorem dX3_fact_52 : decode cX3_fact 52 = .ok (.invokevirtual 73, 3) := by decide +kernel
theorem dX3_fact_55 : decode cX3_fact 55 = .ok (.ireturn, 1) := by decide +kernel
theorem dX3_fact_56 : decode cX3_fact 56 = .ok (.aload_n 0, 1) := by decide +kernel
theorem dX3_fact_57 : decode cX3_fact 57 = .ok (.invokevirtual 76, 3) := by decide +kernel
theorem dX3_fact_60 : decode cX3_fact 60 = .ok (.ireturn, 1) := by decide +kernel
theorem dX3_fact_61 : decode cX3_fact 61 = .ok (.aload_n 0, 1) := by decide +kernel
theorem dX3_fact_62 : decode cX3_fact 62 = .ok (.iconst 2, 1) := by decide +kernel
theorem dX3_fact_63 : decode cX3_fact 63 = .ok (.invokevirtual 79, 3) := by decide +kernel
theorem dX3_fact_66 : decode cX3_fact 66 = .ok (.ireturn, 1) := by decide +kernel
theorem dX3_gaps_0 : decode cX3_gaps 0 = .ok (.iconst 0, 1) := by decide +kernel
theorem dX3_gaps_1 : decode cX3_gaps 1 = .ok (.istore_n 1, 1) := by decide +kernel
theorem dX3_gaps_2 : decode cX3_gaps 2 = .ok (.iconst 0, 1) := by decide +kernel
theorem dX3_gaps_3 : decode cX3_gaps 3 = .ok (.istore_n 2, 1) := by decide +kernel
theorem dX3_gaps_4 : decode cX3_gaps 4 = .ok (.iload_n 2, 1) := by decide +kernel
theorem dX3_gaps_5 : decode cX3_gaps 5 = .ok (.aload_n 0, 1) := by decide +kernel
theorem dX3_gaps_6 : decode cX3_gaps 6 = .ok (.getfield 30, 3) := by decide +kernel
theorem dX3_gaps_9 : decode cX3_gaps 9 = .ok (.if_icmp .ge 34, 3) := by decide +kernel
theorem dX3_gaps_12 : decode cX3_gaps 12 = .ok (.aload_n 0, 1) := by decide +kernel
theorem dX3_gaps_13 : decode cX3_gaps 13 = .ok (.iload_n 2, 1) := by decide +kernel
theorem dX3_gaps_14 : decode cX3_gaps 14 = .ok (.invokevirtual 53, 3) := by decide +kernel
theorem dX3_gaps_17 : decode cX3_gaps 17 = .ok (.ifCond .eq 20, 3) := by decide +kernel
theorem dX3_gaps_20 : decode cX3_gaps 20 = .ok (.iload_n 2, 1) := by decide +kernel
theorem dX3_gaps_21 : decode cX3_gaps 21 = .ok (.ifCond .eq 13, 3) := by decide +kernel
theorem dX3_gaps_24 : decode cX3_gaps 24 = .ok (.aload_n 0, 1) := by decide +kernel
theorem dX3_gaps_25 : decode cX3_gaps 25 = .ok (.iload_n 2, 1) := by decide +kernel
theorem dX3_gaps_26 : decode cX3_gaps 26 = .ok (.iconst 1, 1) := by decide +kernel
theorem dX3_gaps_27 : decode cX3_gaps 27 = .ok (.isub, 1) := by decide +kernel
theorem dX3_gaps_28 : decode cX3_gaps 28 = .ok (.invokevirtual 53, 3) := by decide +kernel
theorem dX3_gaps_31 : decode cX3_gaps 31 = .ok (.ifCond .ne 6, 3) := by decide +kernel
theorem dX3_gaps_34 : decode cX3_gaps 34 = .ok (.iinc 1 1, 3) := by decide +kernel
theorem dX3_gaps_37 : decode cX3_gaps 37 = .ok (.iinc 2 1, 3) := by decide +kernel
theorem dX3_gaps_40 : decode cX3_gaps 40 = .ok (.goto (-36), 3) := by decide +kernel
theorem dX3_gaps_43 : decode cX3_gaps 43 = .ok (.iload_n 1, 1) := by decide +kernel
theorem dX3_gaps_44 : decode cX3_gaps 44 = .ok (.ireturn, 1) := by decide +kernel
theorem dX3_longestGap_0 : decode cX3_longestGap 0 = .ok (.iconst 0, 1) := by decide +kernel
theorem dX3_longestGap_1 : decode cX3_longestGap 1 = .ok (.istore_n 1, 1) := by decide +kernel
theorem dX3_longestGap_2 : decode cX3_longestGap 2 = .ok (.iconst 0, 1) := by decide +kernel
theorem dX3_longestGap_3 : decode cX3_longestGap 3 = .ok (.istore_n 2, 1) := by decide +kernel
theorem dX3_longestGap_4 : decode cX3_longestGap 4 = .ok (.iconst 0, 1) := by decide +kernel
theorem dX3_longestGap_5 : decode cX3_longestGap 5 = .ok (.istore_n 3, 1) := by decide +kernel
theorem dX3_longestGap_6 : decode cX3_longestGap 6 = .ok (.iload_n 3, 1) := by decide +kernel
theorem dX3_longestGap_7 : decode cX3_longestGap 7 = .ok (.aload_n 0, 1) := by decide +kernel
theorem dX3_longestGap_8 : decode cX3_longestGap 8 = .ok (.getfield 30, 3) := by decide +kernel
theorem dX3_longestGap_11 : decode cX3_longestGap 11 = .ok (.if_icmp .ge 31, 3) := by decide +kernel
theorem dX3_longestGap_14 : decode cX3_longestGap 14 = .ok (.aload_n 0, 1) := by decide +kernel
theorem dX3_longestGap_15 : decode cX3_longestGap 15 = .ok (.iload_n 3, 1) := by decide +kernel
theorem dX3_longestGap_16 : decode cX3_longestGap 16 = .ok (.invokevirtual 53, 3) := by decide +kernel
theorem dX3_longestGap_19 : decode cX3_longestGap 19 = .ok (.ifCond .eq 9, 3) := by decide +kernel
theorem dX3_longestGap_22 : decode cX3_longestGap 22 = .ok (.iload_n 2, 1) := by decide +kernel
theorem dX3_longestGap_23 : decode cX3_longestGap 23 = .ok (.iconst 1, 1) := by decide +kernel
theorem dX3_longestGap_24 : decode cX3_longestGap 24 = .ok (.iadd, 1) := by decide +kernel
theorem dX3_longestGap_25 : decode cX3_longestGap 25 = .ok (.goto 4, 3) := by decide +kernel
theorem dX3_longestGap_28 : decode cX3_longestGap 28 = .ok (.iconst 0, 1) := by decide +kernel
theorem dX3_longestGap_29 : decode cX3_longestGap 29 = .ok (.istore_n 2, 1) := by decide +kernel
theorem dX3_longestGap_30 : decode cX3_longestGap 30 = .ok (.iload_n 1, 1) := by decide +kernel
theorem dX3_longestGap_31 : decode cX3_longestGap 31 = .ok (.iload_n 2, 1) := by decide +kernel
theorem dX3_longestGap_32 : decode cX3_longestGap 32 = .ok (.invokestatic 83, 3) := by decide +kernel
theorem dX3_longestGap_35 : decode cX3_longestGap 35 = .ok (.istore_n 1, 1) := by decide +kernel
theorem dX3_longestGap_36 : decode cX3_longestGap 36 = .ok (.iinc 3 1, 3) := by decide +kernel
theorem dX3_longestGap_39 : decode cX3_longestGap 39 = .ok (.goto (-33), 3) := by decide +kernel
theorem dX3_longestGap_42 : decode cX3_longestGap 42 = .ok (.iload_n 1, 1) := by decide +kernel
theorem dX3_longestGap_43 : decode cX3_longestGap 43 = .ok (.ireturn, 1) := by decide +kernel
theorem dX3_lostSamples_0 : decode cX3_lostSamples 0 = .ok (.aload_n 0, 1) := by decide +kernel
theorem dX3_lostSamples_1 : decode cX3_lostSamples 1 = .ok (.iconst 0, 1) := by decide +kernel
theorem dX3_lostSamples_2 : decode cX3_lostSamples 2 = .ok (.invokevirtual 79, 3) := by decide +kernel
theorem dX3_lostSamples_5 : decode cX3_lostSamples 5 = .ok (.ireturn, 1) := by decide +kernel
theorem dX3_samplesThatStand_0 : decode cX3_samplesThatStand 0 = .ok (.iconst 0, 1) := by decide +kernel
theorem dX3_samplesThatStand_1 : decode cX3_samplesThatStand 1 = .ok (.istore_n 2, 1) := by decide +kernel
theorem dX3_samplesThatStand_2 : decode cX3_samplesThatStand 2 = .ok (.iconst 0, 1) := by decide +kernel
theorem dX3_samplesThatStand_3 : decode cX3_samplesThatStand 3 = .ok (.istore_n 3, 1) := by decide +kernel
theorem dX3_samplesThatStand_4 : decode cX3_samplesThatStand 4 = .ok (.iload_n 3, 1) := by decide +kernel
theorem dX3_samplesThatStand_5 : decode cX3_samplesThatStand 5 = .ok (.aload_n 0, 1) := by decide +kernel
theorem dX3_samplesThatStand_6 : decode cX3_samplesThatStand 6 = .ok (.getfield 30, 3) := by decide +kernel
theorem dX3_samplesThatStand_9 : decode cX3_samplesThatStand 9 = .ok (.if_icmp .ge 22, 3) := by decide +kernel
theorem dX3_samplesThatStand_12 : decode cX3_samplesThatStand 12 = .ok (.aload_n 0, 1) := by decide +kernel
theorem dX3_samplesThatStand_13 : decode cX3_samplesThatStand 13 = .ok (.getfield 15, 3) := by decide +kernel
theorem dX3_samplesThatStand_16 : decode cX3_samplesThatStand 16 = .ok (.iload_n 3, 1) := by decide +kernel
theorem dX3_samplesThatStand_17 : decode cX3_samplesThatStand 17 = .ok (.iaload, 1) := by decide +kernel
theorem dX3_samplesThatStand_18 : decode cX3_samplesThatStand 18 = .ok (.iload_n 1, 1) := by decide +kernel
theorem dX3_samplesThatStand_19 : decode cX3_samplesThatStand 19 = .ok (.if_icmp .ne 6, 3) := by decide +kernel
theorem dX3_samplesThatStand_22 : decode cX3_samplesThatStand 22 = .ok (.iinc 2 1, 3) := by decide +kernel
theorem dX3_samplesThatStand_25 : decode cX3_samplesThatStand 25 = .ok (.iinc 3 1, 3) := by decide +kernel
theorem dX3_samplesThatStand_28 : decode cX3_samplesThatStand 28 = .ok (.goto (-24), 3) := by decide +kernel
theorem dX3_samplesThatStand_31 : decode cX3_samplesThatStand 31 = .ok (.iload_n 2, 1) := by decide +kernel
theorem dX3_samplesThatStand_32 : decode cX3_samplesThatStand 32 = .ok (.ireturn, 1) := by decide +kernel
theorem dX3_digestOn_0 : decode cX3_digestOn 0 = .ok (.lload_n 1, 1) := by decide +kernel
theorem dX3_digestOn_1 : decode cX3_digestOn 1 = .ok (.lstore_n 3, 1) := by decide +kernel
theorem dX3_digestOn_2 : decode cX3_digestOn 2 = .ok (.iconst 0, 1) := by decide +kernel
theorem dX3_digestOn_3 : decode cX3_digestOn 3 = .ok (.istore 5, 2) := by decide +kernel
theorem dX3_digestOn_5 : decode cX3_digestOn 5 = .ok (.iload 5, 2) := by decide +kernel
theorem dX3_digestOn_7 : decode cX3_digestOn 7 = .ok (.bipush 6, 2) := by decide +kernel
theorem dX3_digestOn_9 : decode cX3_digestOn 9 = .ok (.if_icmp .ge 23, 3) := by decide +kernel
theorem dX3_digestOn_12 : decode cX3_digestOn 12 = .ok (.ldc2_w 87, 3) := by decide +kernel
theorem dX3_digestOn_15 : decode cX3_digestOn 15 = .ok (.lload_n 3, 1) := by decide +kernel
theorem dX3_digestOn_16 : decode cX3_digestOn 16 = .ok (.lmul, 1) := by decide +kernel
theorem dX3_digestOn_17 : decode cX3_digestOn 17 = .ok (.aload_n 0, 1) := by decide +kernel
theorem dX3_digestOn_18 : decode cX3_digestOn 18 = .ok (.iload 5, 2) := by decide +kernel
theorem dX3_digestOn_20 : decode cX3_digestOn 20 = .ok (.invokevirtual 89, 3) := by decide +kernel
theorem dX3_digestOn_23 : decode cX3_digestOn 23 = .ok (.i2l, 1) := by decide +kernel
theorem dX3_digestOn_24 : decode cX3_digestOn 24 = .ok (.ladd, 1) := by decide +kernel
theorem dX3_digestOn_25 : decode cX3_digestOn 25 = .ok (.lstore_n 3, 1) := by decide +kernel
theorem dX3_digestOn_26 : decode cX3_digestOn 26 = .ok (.iinc 5 1, 3) := by decide +kernel
theorem dX3_digestOn_29 : decode cX3_digestOn 29 = .ok (.goto (-24), 3) := by decide +kernel
theorem dX3_digestOn_32 : decode cX3_digestOn 32 = .ok (.iconst 0, 1) := by decide +kernel
theorem dX3_digestOn_33 : decode cX3_digestOn 33 = .ok (.istore 5, 2) := by decide +kernel
theorem dX3_digestOn_35 : decode cX3_digestOn 35 = .ok (.iload 5, 2) := by decide +kernel
theorem dX3_digestOn_37 : decode cX3_digestOn 37 = .ok (.aload_n 0, 1) := by decide +kernel
theorem dX3_digestOn_38 : decode cX3_digestOn 38 = .ok (.getfield 30, 3) := by decide +kernel
theorem dX3_digestOn_41 : decode cX3_digestOn 41 = .ok (.if_icmp .ge 48, 3) := by decide +kernel
theorem dX3_digestOn_44 : decode cX3_digestOn 44 = .ok (.ldc2_w 87, 3) := by decide +kernel
theorem dX3_digestOn_47 : decode cX3_digestOn 47 = .ok (.lload_n 3, 1) := by decide +kernel
theorem dX3_digestOn_48 : decode cX3_digestOn 48 = .ok (.lmul, 1) := by decide +kernel
theorem dX3_digestOn_49 : decode cX3_digestOn 49 = .ok (.aload_n 0, 1) := by decide +kernel
theorem dX3_digestOn_50 : decode cX3_digestOn 50 = .ok (.getfield 15, 3) := by decide +kernel
theorem dX3_digestOn_53 : decode cX3_digestOn 53 = .ok (.iload 5, 2) := by decide +kernel
theorem dX3_digestOn_55 : decode cX3_digestOn 55 = .ok (.iaload, 1) := by decide +kernel
theorem dX3_digestOn_56 : decode cX3_digestOn 56 = .ok (.i2l, 1) := by decide +kernel
theorem dX3_digestOn_57 : decode cX3_digestOn 57 = .ok (.ladd, 1) := by decide +kernel
theorem dX3_digestOn_58 : decode cX3_digestOn 58 = .ok (.lstore_n 3, 1) := by decide +kernel
theorem dX3_digestOn_59 : decode cX3_digestOn 59 = .ok (.aload_n 0, 1) := by decide +kernel
theorem dX3_digestOn_60 : decode cX3_digestOn 60 = .ok (.iload 5, 2) := by decide +kernel
theorem dX3_digestOn_62 : decode cX3_digestOn 62 = .ok (.invokevirtual 53, 3) := by decide +kernel
theorem dX3_digestOn_65 : decode cX3_digestOn 65 = .ok (.ifCond .ne 18, 3) := by decide +kernel
theorem dX3_digestOn_68 : decode cX3_digestOn 68 = .ok (.ldc2_w 87, 3) := by decide +kernel
theorem dX3_digestOn_71 : decode cX3_digestOn 71 = .ok (.lload_n 3, 1) := by decide +kernel
theorem dX3_digestOn_72 : decode cX3_digestOn 72 = .ok (.lmul, 1) := by decide +kernel
theorem dX3_digestOn_73 : decode cX3_digestOn 73 = .ok (.aload_n 0, 1) := by decide +kernel
theorem dX3_digestOn_74 : decode cX3_digestOn 74 = .ok (.getfield 9, 3) := by decide +kernel
theorem dX3_digestOn_77 : decode cX3_digestOn 77 = .ok (.iload 5, 2) := by decide +kernel
theorem dX3_digestOn_79 : decode cX3_digestOn 79 = .ok (.iaload, 1) := by decide +kernel
theorem dX3_digestOn_80 : decode cX3_digestOn 80 = .ok (.i2l, 1) := by decide +kernel
theorem dX3_digestOn_81 : decode cX3_digestOn 81 = .ok (.ladd, 1) := by decide +kernel
theorem dX3_digestOn_82 : decode cX3_digestOn 82 = .ok (.lstore_n 3, 1) := by decide +kernel
theorem dX3_digestOn_83 : decode cX3_digestOn 83 = .ok (.iinc 5 1, 3) := by decide +kernel
theorem dX3_digestOn_86 : decode cX3_digestOn 86 = .ok (.goto (-51), 3) := by decide +kernel
theorem dX3_digestOn_89 : decode cX3_digestOn 89 = .ok (.lload_n 3, 1) := by decide +kernel
theorem dX3_digestOn_90 : decode cX3_digestOn 90 = .ok (.lreturn, 1) := by decide +kernel
theorem dX4_init_0 : decode cX4_init 0 = .ok (.aload_n 0, 1) := by decide +kernel
theorem dX4_init_1 : decode cX4_init 1 = .ok (.invokespecial 1, 3) := by decide +kernel
theorem dX4_init_4 : decode cX4_init 4 = .ok (.aload_n 0, 1) := by decide +kernel
theorem dX4_init_5 : decode cX4_init 5 = .ok (.bipush 100, 2) := by decide +kernel
theorem dX4_init_7 : decode cX4_init 7 = .ok (.putfield 7, 3) := by decide +kernel
theorem dX4_init_10 : decode cX4_init 10 = .ok (.aload_n 0, 1) := by decide +kernel
theorem dX4_init_11 : decode cX4_init 11 = .ok (.bipush 50, 2) := by decide +kernel
theorem dX4_init_13 : decode cX4_init 13 = .ok (.putfield 13, 3) := by decide +kernel
theorem dX4_init_16 : decode cX4_init 16 = .ok (.return_, 1) := by decide +kernel
theorem dX4_begin_0 : decode cX4_begin 0 = .ok (.aload_n 0, 1) := by decide +kernel
theorem dX4_begin_1 : decode cX4_begin 1 = .ok (.iload_n 1, 1) := by decide +kernel
theorem dX4_begin_2 : decode cX4_begin 2 = .ok (.putfield 7, 3) := by decide +kernel
theorem dX4_begin_5 : decode cX4_begin 5 = .ok (.aload_n 0, 1) := by decide +kernel
theorem dX4_begin_6 : decode cX4_begin 6 = .ok (.iload_n 2, 1) := by decide +kernel
theorem dX4_begin_7 : decode cX4_begin 7 = .ok (.putfield 13, 3) := by decide +kernel
theorem dX4_begin_10 : decode cX4_begin 10 = .ok (.aload_n 0, 1) := by decide +kernel
theorem dX4_begin_11 : decode cX4_begin 11 = .ok (.iload_n 3, 1) := by decide +kernel
theorem dX4_begin_12 : decode cX4_begin 12 = .ok (.putfield 16, 3) := by decide +kernel
theorem dX4_begin_15 : decode cX4_begin 15 = .ok (.aload_n 0, 1) := by decide +kernel
theorem dX4_begin_16 : decode cX4_begin 16 = .ok (.iconst 0, 1) := by decide +kernel
theorem dX4_begin_17 : decode cX4_begin 17 = .ok (.putfield 19, 3) := by decide +kernel
theorem dX4_begin_20 : decode cX4_begin 20 = .ok (.aload_n 0, 1) := by decide +kernel
theorem dX4_begin_21 : decode cX4_begin 21 = .ok (.iconst 0, 1) := by decide +kernel
theorem dX4_begin_22 : decode cX4_begin 22 = .ok (.putfield 22, 3) := by decide +kernel
theorem dX4_begin_25 : decode cX4_begin 25 = .ok (.aload_n 0, 1) := by decide +kernel
theorem dX4_begin_26 : decode cX4_begin 26 = .ok (.iconst 0, 1) := by decide +kernel
theorem dX4_begin_27 : decode cX4_begin 27 = .ok (.putfield 25, 3) := by decide +kernel
theorem dX4_begin_30 : decode cX4_begin 30 = .ok (.aload_n 0, 1) := by decide +kernel
theorem dX4_begin_31 : decode cX4_begin 31 = .ok (.iconst 0, 1) := by decide +kernel
theorem dX4_begin_32 : decode cX4_begin 32 = .ok (.putfield 28, 3) := by decide +kernel
theorem dX4_begin_35 : decode cX4_begin 35 = .ok (.return_, 1) := by decide +kernel
theorem dX4_take_0 : decode cX4_take 0 = .ok (.aload_n 0, 1) := by decide +kernel
theorem dX4_take_1 : decode cX4_take 1 = .ok (.dup, 1) := by decide +kernel
theorem dX4_take_2 : decode cX4_take 2 = .ok (.getfield 22, 3) := by decide +kernel
theorem dX4_take_5 : decode cX4_take 5 = .ok (.iconst 1, 1) := by decide +kernel
theorem dX4_take_6 : decode cX4_take 6 = .ok (.iadd, 1) := by decide +kernel
theorem dX4_take_7 : decode cX4_take 7 = .ok (.putfield 22, 3) := by decide +kernel
theorem dX4_take_10 : decode cX4_take 10 = .ok (.iload_n 1, 1) := by decide +kernel
theorem dX4_take_11 : decode cX4_take 11 = .ok (.aload_n 0, 1) := by decide +kernel
theorem dX4_take_12 : decode cX4_take 12 = .ok (.getfield 7, 3) := by decide +kernel
theorem dX4_take_15 : decode cX4_take 15 = .ok (.if_icmp .lt 7, 3) := by decide +kernel
theorem dX4_take_18 : decode cX4_take 18 = .ok (.iconst 1, 1) := by decide +kernel
theorem dX4_take_19 : decode cX4_take 19 = .ok (.goto 19, 3) := by decide +kernel
theorem dX4_take_22 : decode cX4_take 22 = .ok (.iload_n 1, 1) := by decide +kernel
theorem dX4_take_23 : decode cX4_take 23 = .ok (.aload_n 0, 1) := by decide +kernel
theorem dX4_take_24 : decode cX4_take 24 = .ok (.getfield 13, 3) := by decide +kernel
theorem dX4_take_27 : decode cX4_take 27 = .ok (.if_icmp .gt 7, 3) := by decide +kernel
theorem dX4_take_30 : decode cX4_take 30 = .ok (.iconst 0, 1) := by decide +kernel
theorem dX4_take_31 : decode cX4_take 31 = .ok (.goto 7, 3) := by decide +kernel
theorem dX4_take_34 : decode cX4_take 34 = .ok (.aload_n 0, 1) := by decide +kernel
theorem dX4_take_35 : decode cX4_take 35 = .ok (.getfield 19, 3) := by decide +kernel
theorem dX4_take_38 : decode cX4_take 38 = .ok (.istore_n 2, 1) := by decide +kernel
theorem dX4_take_39 : decode cX4_take 39 = .ok (.aload_n 0, 1) := by decide +kernel
theorem dX4_take_40 : decode cX4_take 40 = .ok (.getfield 25, 3) := by decide +kernel
theorem dX4_take_43 : decode cX4_take 43 = .ok (.ifCond .le 23, 3) := by decide +kernel
theorem dX4_take_46 : decode cX4_take 46 = .ok (.aload_n 0, 1) := by decide +kernel
theorem dX4_take_47 : decode cX4_take 47 = .ok (.getfield 22, 3) := by decide +kernel
theorem dX4_take_50 : decode cX4_take 50 = .ok (.aload_n 0, 1) := by decide +kernel
theorem dX4_take_51 : decode cX4_take 51 = .ok (.getfield 28, 3) := by decide +kernel
theorem dX4_take_54 : decode cX4_take 54 = .ok (.isub, 1) := by decide +kernel
theorem dX4_take_55 : decode cX4_take 55 = .ok (.aload_n 0, 1) := by decide +kernel
theorem dX4_take_56 : decode cX4_take 56 = .ok (.getfield 16, 3) := by decide +kernel
theorem dX4_take_59 : decode cX4_take 59 = .ok (.if_icmp .gt 7, 3) := by decide +kernel
theorem dX4_take_62 : decode cX4_take 62 = .ok (.iconst 1, 1) := by decide +kernel
theorem dX4_take_63 : decode cX4_take 63 = .ok (.goto 4, 3) := by decide +kernel
theorem dX4_take_66 : decode cX4_take 66 = .ok (.iconst 0, 1) := by decide +kernel
theorem dX4_take_67 : decode cX4_take 67 = .ok (.istore_n 3, 1) := by decide +kernel
theorem dX4_take_68 : decode cX4_take 68 = .ok (.iload_n 2, 1) := by decide +kernel
theorem dX4_take_69 : decode cX4_take 69 = .ok (.aload_n 0, 1) := by decide +kernel
theorem dX4_take_70 : decode cX4_take 70 = .ok (.getfield 19, 3) := by decide +kernel
theorem dX4_take_73 : decode cX4_take 73 = .ok (.if_icmp .eq 30, 3) := by decide +kernel
theorem dX4_take_76 : decode cX4_take 76 = .ok (.iload_n 3, 1) := by decide +kernel
theorem dX4_take_77 : decode cX4_take 77 = .ok (.ifCond .ne 26, 3) := by decide +kernel
theorem dX4_take_80 : decode cX4_take 80 = .ok (.aload_n 0, 1) := by decide +kernel
theorem dX4_take_81 : decode cX4_take 81 = .ok (.iload_n 2, 1) := by decide +kernel
theorem dX4_take_82 : decode cX4_take 82 = .ok (.putfield 19, 3) := by decide +kernel
theorem dX4_take_85 : decode cX4_take 85 = .ok (.aload_n 0, 1) := by decide +kernel
theorem dX4_take_86 : decode cX4_take 86 = .ok (.dup, 1) := by decide +kernel
theorem dX4_take_87 : decode cX4_take 87 = .ok (.getfield 25, 3) := by decide +kernel
theorem dX4_take_90 : decode cX4_take 90 = .ok (.iconst 1, 1) := by decide +kernel
theorem dX4_take_91 : decode cX4_take 91 = .ok (.iadd, 1) := by decide +kernel
theorem dX4_take_92 : decode cX4_take 92 = .ok (.putfield 25, 3) := by decide +kernel
theorem dX4_take_95 : decode cX4_take 95 = .ok (.aload_n 0, 1) := by decide +kernel
theorem dX4_take_96 : decode cX4_take 96 = .ok (.aload_n 0, 1) := by decide +kernel
theorem dX4_take_97 : decode cX4_take 97 = .ok (.getfield 22, 3) := by decide +kernel
theorem dX4_take_100 : decode cX4_take 100 = .ok (.putfield 28, 3) := by decide +kernel
theorem dX4_take_103 : decode cX4_take 103 = .ok (.return_, 1) := by decide +kernel
theorem dX4_state_0 : decode cX4_state 0 = .ok (.aload_n 0, 1) := by decide +kernel
theorem dX4_state_1 : decode cX4_state 1 = .ok (.getfield 19, 3) := by decide +kernel
theorem dX4_state_4 : decode cX4_state 4 = .ok (.ireturn, 1) := by decide +kernel
theorem dX4_heard_0 : decode cX4_heard 0 = .ok (.aload_n 0, 1) := by decide +kernel
theorem dX4_heard_1 : decode cX4_heard 1 = .ok (.getfield 22, 3) := by decide +kernel
theorem dX4_heard_4 : decode cX4_heard 4 = .ok (.ireturn, 1) := by decide +kernel
theorem dX4_changes_0 : decode cX4_changes 0 = .ok (.aload_n 0, 1) := by decide +kernel
theorem dX4_changes_1 : decode cX4_changes 1 = .ok (.getfield 25, 3) := by decide +kernel
theorem dX4_changes_4 : decode cX4_changes 4 = .ok (.ireturn, 1) := by decide +kernel
theorem dX5_init_0 : decode cX5_init 0 = .ok (.aload_n 0, 1) := by decide +kernel
theorem dX5_init_1 : decode cX5_init 1 = .ok (.invokespecial 1, 3) := by decide +kernel
theorem dX5_init_4 : decode cX5_init 4 = .ok (.aload_n 0, 1) := by decide +kernel
theorem dX5_init_5 : decode cX5_init 5 = .ok (.bipush 8, 2) := by decide +kernel
theorem dX5_init_7 : decode cX5_init 7 = .ok (.anewarray 9, 3) := by decide +kernel
theorem dX5_init_10 : decode cX5_init 10 = .ok (.putfield 11, 3) := by decide +kernel
theorem dX5_init_13 : decode cX5_init 13 = .ok (.iconst 0, 1) := by decide +kernel
theorem dX5_init_14 : decode cX5_init 14 = .ok (.istore_n 1, 1) := by decide +kernel
theorem dX5_init_15 : decode cX5_init 15 = .ok (.iload_n 1, 1) := by decide +kernel
theorem dX5_init_16 : decode cX5_init 16 = .ok (.bipush 8, 2) := by decide +kernel
theorem dX5_init_18 : decode cX5_init 18 = .ok (.if_icmp .ge 22, 3) := by decide +kernel
theorem dX5_init_21 : decode cX5_init 21 = .ok (.aload_n 0, 1) := by decide +kernel
theorem dX5_init_22 : decode cX5_init 22 = .ok (.getfield 11, 3) := by decide +kernel
theorem dX5_init_25 : decode cX5_init 25 = .ok (.iload_n 1, 1) := by decide +kernel
theorem dX5_init_26 : decode cX5_init 26 = .ok (.new 9, 3) := by decide +kernel
theorem dX5_init_29 : decode cX5_init 29 = .ok (.dup, 1) := by decide +kernel
theorem dX5_init_30 : decode cX5_init 30 = .ok (.invokespecial 15, 3) := by decide +kernel
theorem dX5_init_33 : decode cX5_init 33 = .ok (.aastore, 1) := by decide +kernel
theorem dX5_init_34 : decode cX5_init 34 = .ok (.iinc 1 1, 3) := by decide +kernel
theorem dX5_init_37 : decode cX5_init 37 = .ok (.goto (-22), 3) := by decide +kernel
theorem dX5_init_40 : decode cX5_init 40 = .ok (.aload_n 0, 1) := by decide +kernel
theorem dX5_init_41 : decode cX5_init 41 = .ok (.bipush 6, 2) := by decide +kernel
theorem dX5_init_43 : decode cX5_init 43 = .ok (.anewarray 16, 3) := by decide +kernel
theorem dX5_init_46 : decode cX5_init 46 = .ok (.putfield 18, 3) := by decide +kernel
theorem dX5_init_49 : decode cX5_init 49 = .ok (.iconst 0, 1) := by decide +kernel
theorem dX5_init_50 : decode cX5_init 50 = .ok (.istore_n 1, 1) := by decide +kernel
theorem dX5_init_51 : decode cX5_init 51 = .ok (.iload_n 1, 1) := by decide +kernel
theorem dX5_init_52 : decode cX5_init 52 = .ok (.bipush 6, 2) := by decide +kernel
theorem dX5_init_54 : decode cX5_init 54 = .ok (.if_icmp .ge 22, 3) := by decide +kernel
theorem dX5_init_57 : decode cX5_init 57 = .ok (.aload_n 0, 1) := by decide +kernel
theorem dX5_init_58 : decode cX5_init 58 = .ok (.getfield 18, 3) := by decide +kernel
theorem dX5_init_61 : decode cX5_init 61 = .ok (.iload_n 1, 1) := by decide +kernel
theorem dX5_init_62 : decode cX5_init 62 = .ok (.new 16, 3) := by decide +kernel
theorem dX5_init_65 : decode cX5_init 65 = .ok (.dup, 1) := by decide +kernel
theorem dX5_init_66 : decode cX5_init 66 = .ok (.invokespecial 22, 3) := by decide +kernel
theorem dX5_init_69 : decode cX5_init 69 = .ok (.aastore, 1) := by decide +kernel
theorem dX5_init_70 : decode cX5_init 70 = .ok (.iinc 1 1, 3) := by decide +kernel
theorem dX5_init_73 : decode cX5_init 73 = .ok (.goto (-22), 3) := by decide +kernel
theorem dX5_init_76 : decode cX5_init 76 = .ok (.aload_n 0, 1) := by decide +kernel
theorem dX5_init_77 : decode cX5_init 77 = .ok (.new 23, 3) := by decide +kernel
theorem dX5_init_80 : decode cX5_init 80 = .ok (.dup, 1) := by decide +kernel
theorem dX5_init_81 : decode cX5_init 81 = .ok (.invokespecial 25, 3) := by decide +kernel
theorem dX5_init_84 : decode cX5_init 84 = .ok (.putfield 26, 3) := by decide +kernel
theorem dX5_init_87 : decode cX5_init 87 = .ok (.aload_n 0, 1) := by decide +kernel
theorem dX5_init_88 : decode cX5_init 88 = .ok (.new 30, 3) := by decide +kernel
theorem dX5_init_91 : decode cX5_init 91 = .ok (.dup, 1) := by decide +kernel
theorem dX5_init_92 : decode cX5_init 92 = .ok (.invokespecial 32, 3) := by decide +kernel
theorem dX5_init_95 : decode cX5_init 95 = .ok (.putfield 33, 3) := by decide +kernel
theorem dX5_init_98 : decode cX5_init 98 = .ok (.aload_n 0, 1) := by decide +kernel
theorem dX5_init_99 : decode cX5_init 99 = .ok (.new 37, 3) := by decide +kernel
theorem dX5_init_102 : decode cX5_init 102 = .ok (.dup, 1) := by decide +kernel
theorem dX5_init_103 : decode cX5_init 103 = .ok (.invokespecial 39, 3) := by decide +kernel
theorem dX5_init_106 : decode cX5_init 106 = .ok (.putfield 40, 3) := by decide +kernel
theorem dX5_init_109 : decode cX5_init 109 = .ok (.return_, 1) := by decide +kernel
theorem dX5_sheet_0 : decode cX5_sheet 0 = .ok (.iload_n 1, 1) := by decide +kernel
theorem dX5_sheet_1 : decode cX5_sheet 1 = .ok (.invokestatic 44, 3) := by decide +kernel
theorem dX5_sheet_4 : decode cX5_sheet 4 = .ok (.ifCond .eq 18, 3) := by decide +kernel
theorem dX5_sheet_7 : decode cX5_sheet 7 = .ok (.iload_n 2, 1) := by decide +kernel
theorem dX5_sheet_8 : decode cX5_sheet 8 = .ok (.ifCond .lt 14, 3) := by decide +kernel
theorem dX5_sheet_11 : decode cX5_sheet 11 = .ok (.iload_n 2, 1) := by decide +kernel
theorem dX5_sheet_12 : decode cX5_sheet 12 = .ok (.iconst 2, 1) := by decide +kernel
theorem dX5_sheet_13 : decode cX5_sheet 13 = .ok (.if_icmp .gt 9, 3) := by decide +kernel
theorem dX5_sheet_16 : decode cX5_sheet 16 = .ok (.iload_n 3, 1) := by decide +kernel
theorem dX5_sheet_17 : decode cX5_sheet 17 = .ok (.bipush 64, 2) := by decide +kernel
theorem dX5_sheet_19 : decode cX5_sheet 19 = .ok (.if_icmp .le 6, 3) := by decide +kernel
theorem dX5_sheet_22 : decode cX5_sheet 22 = .ok (.bipush (-2), 2) := by decide +kernel
theorem dX5_sheet_24 : decode cX5_sheet 24 = .ok (.ireturn, 1) := by decide +kernel
theorem dX5_sheet_25 : decode cX5_sheet 25 = .ok (.iload_n 3, 1) := by decide +kernel
theorem dX5_sheet_26 : decode cX5_sheet 26 = .ok (.ifCond .ge 6, 3) := by decide +kernel
theorem dX5_sheet_29 : decode cX5_sheet 29 = .ok (.bipush (-12), 2) := by decide +kernel
theorem dX5_sheet_31 : decode cX5_sheet 31 = .ok (.ireturn, 1) := by decide +kernel
theorem dX5_sheet_32 : decode cX5_sheet 32 = .ok (.aload_n 0, 1) := by decide +kernel
theorem dX5_sheet_33 : decode cX5_sheet 33 = .ok (.getfield 11, 3) := by decide +kernel
theorem dX5_sheet_36 : decode cX5_sheet 36 = .ok (.iload_n 1, 1) := by decide +kernel
theorem dX5_sheet_37 : decode cX5_sheet 37 = .ok (.aaload, 1) := by decide +kernel
theorem dX5_sheet_38 : decode cX5_sheet 38 = .ok (.iload_n 2, 1) := by decide +kernel
theorem dX5_sheet_39 : decode cX5_sheet 39 = .ok (.iload_n 3, 1) := by decide +kernel
theorem dX5_sheet_40 : decode cX5_sheet 40 = .ok (.invokevirtual 48, 3) := by decide +kernel
theorem dX5_sheet_43 : decode cX5_sheet 43 = .ok (.iconst 1, 1) := by decide +kernel
theorem dX5_sheet_44 : decode cX5_sheet 44 = .ok (.ireturn, 1) := by decide +kernel
theorem dX5_drop_0 : decode cX5_drop 0 = .ok (.aload_n 0, 1) := by decide +kernel
theorem dX5_drop_1 : decode cX5_drop 1 = .ok (.iload_n 1, 1) := by decide +kernel
theorem dX5_drop_2 : decode cX5_drop 2 = .ok (.invokevirtual 52, 3) := by decide +kernel
theorem dX5_drop_5 : decode cX5_drop 5 = .ok (.istore_n 2, 1) := by decide +kernel
theorem dX5_drop_6 : decode cX5_drop 6 = .ok (.iload_n 2, 1) := by decide +kernel
theorem dX5_drop_7 : decode cX5_drop 7 = .ok (.ifCond .eq 5, 3) := by decide +kernel
theorem dX5_drop_10 : decode cX5_drop 10 = .ok (.iload_n 2, 1) := by decide +kernel
theorem dX5_drop_11 : decode cX5_drop 11 = .ok (.ireturn, 1) := by decide +kernel
theorem dX5_drop_12 : decode cX5_drop 12 = .ok (.aload_n 0, 1) := by decide +kernel
theorem dX5_drop_13 : decode cX5_drop 13 = .ok (.getfield 11, 3) := by decide +kernel
theorem dX5_drop_16 : decode cX5_drop 16 = .ok (.iload_n 1, 1) := by decide +kernel
theorem dX5_drop_17 : decode cX5_drop 17 = .ok (.aaload, 1) := by decide +kernel
theorem dX5_drop_18 : decode cX5_drop 18 = .ok (.invokevirtual 56, 3) := by decide +kernel
theorem dX5_drop_21 : decode cX5_drop 21 = .ok (.ireturn, 1) := by decide +kernel
theorem dX5_put_0 : decode cX5_put 0 = .ok (.aload_n 0, 1) := by decide +kernel
theorem dX5_put_1 : decode cX5_put 1 = .ok (.iload_n 1, 1) := by decide +kernel
theorem dX5_put_2 : decode cX5_put 2 = .ok (.iload_n 2, 1) := by decide +kernel
theorem dX5_put_3 : decode cX5_put 3 = .ok (.invokevirtual 60, 3) := by decide +kernel
theorem dX5_put_6 : decode cX5_put 6 = .ok (.istore 4, 2) := by decide +kernel
theorem dX5_put_8 : decode cX5_put 8 = .ok (.iload 4, 2) := by decide +kernel
theorem dX5_put_10 : decode cX5_put 10 = .ok (.ifCond .eq 6, 3) := by decide +kernel
theorem dX5_put_13 : decode cX5_put 13 = .ok (.iload 4, 2) := by decide +kernel
theorem dX5_put_15 : decode cX5_put 15 = .ok (.ireturn, 1) := by decide +kernel
theorem dX5_put_16 : decode cX5_put 16 = .ok (.aload_n 0, 1) := by decide +kernel
theorem dX5_put_17 : decode cX5_put 17 = .ok (.getfield 11, 3) := by decide +kernel
theorem dX5_put_20 : decode cX5_put 20 = .ok (.iload_n 1, 1) := by decide +kernel
theorem dX5_put_21 : decode cX5_put 21 = .ok (.aaload, 1) := by decide +kernel
theorem dX5_put_22 : decode cX5_put 22 = .ok (.iload_n 3, 1) := by decide +kernel
theorem dX5_put_23 : decode cX5_put 23 = .ok (.invokevirtual 64, 3) := by decide +kernel
theorem dX5_put_26 : decode cX5_put 26 = .ok (.ifCond .ne 6, 3) := by decide +kernel
theorem dX5_put_29 : decode cX5_put 29 = .ok (.bipush (-14), 2) := by decide +kernel
theorem dX5_put_31 : decode cX5_put 31 = .ok (.ireturn, 1) := by decide +kernel
theorem dX5_put_32 : decode cX5_put 32 = .ok (.aload_n 0, 1) := by decide +kernel
theorem dX5_put_33 : decode cX5_put 33 = .ok (.getfield 11, 3) := by decide +kernel
theorem dX5_put_36 : decode cX5_put 36 = .ok (.iload_n 1, 1) := by decide +kernel
theorem dX5_put_37 : decode cX5_put 37 = .ok (.aaload, 1) := by decide +kernel
theorem dX5_put_38 : decode cX5_put 38 = .ok (.iload_n 2, 1) := by decide +kernel
theorem dX5_put_39 : decode cX5_put 39 = .ok (.iload_n 3, 1) := by decide +kernel
theorem dX5_put_40 : decode cX5_put 40 = .ok (.invokevirtual 67, 3) := by decide +kernel
theorem dX5_put_43 : decode cX5_put 43 = .ok (.iconst 1, 1) := by decide +kernel
theorem dX5_put_44 : decode cX5_put 44 = .ok (.ireturn, 1) := by decide +kernel
theorem dX5_get_0 : decode cX5_get 0 = .ok (.aload_n 0, 1) := by decide +kernel
theorem dX5_get_1 : decode cX5_get 1 = .ok (.iload_n 1, 1) := by decide +kernel
theorem dX5_get_2 : decode cX5_get 2 = .ok (.iload_n 2, 1) := by decide +kernel
theorem dX5_get_3 : decode cX5_get 3 = .ok (.invokevirtual 60, 3) := by decide +kernel
theorem dX5_get_6 : decode cX5_get 6 = .ok (.istore_n 3, 1) := by decide +kernel
theorem dX5_get_7 : decode cX5_get 7 = .ok (.iload_n 3, 1) := by decide +kernel
theorem dX5_get_8 : decode cX5_get 8 = .ok (.ifCond .eq 10, 3) := by decide +kernel
theorem dX5_get_11 : decode cX5_get 11 = .ok (.ldc2_w 70, 3) := by decide +kernel
theorem dX5_get_14 : decode cX5_get 14 = .ok (.iload_n 3, 1) := by decide +kernel
theorem dX5_get_15 : decode cX5_get 15 = .ok (.i2l, 1) := by decide +kernel
theorem dX5_get_16 : decode cX5_get 16 = .ok (.ladd, 1) := by decide +kernel
theorem dX5_get_17 : decode cX5_get 17 = .ok (.lreturn, 1) := by decide +kernel
theorem dX5_get_18 : decode cX5_get 18 = .ok (.aload_n 0, 1) := by decide +kernel
theorem dX5_get_19 : decode cX5_get 19 = .ok (.getfield 11, 3) := by decide +kernel
theorem dX5_get_22 : decode cX5_get 22 = .ok (.iload_n 1, 1) := by decide +kernel
theorem dX5_get_23 : decode cX5_get 23 = .ok (.aaload, 1) := by decide +kernel
theorem dX5_get_24 : decode cX5_get 24 = .ok (.iload_n 2, 1) := by decide +kernel
theorem dX5_get_25 : decode cX5_get 25 = .ok (.invokevirtual 72, 3) := by decide +kernel
theorem dX5_get_28 : decode cX5_get 28 = .ok (.ifCond .eq 7, 3) := by decide +kernel
theorem dX5_get_31 : decode cX5_get 31 = .ok (.ldc2_w 75, 3) := by decide +kernel
theorem dX5_get_34 : decode cX5_get 34 = .ok (.lreturn, 1) := by decide +kernel
theorem dX5_get_35 : decode cX5_get 35 = .ok (.aload_n 0, 1) := by decide +kernel
theorem dX5_get_36 : decode cX5_get 36 = .ok (.getfield 11, 3) := by decide +kernel
theorem dX5_get_39 : decode cX5_get 39 = .ok (.iload_n 1, 1) := by decide +kernel
theorem dX5_get_40 : decode cX5_get 40 = .ok (.aaload, 1) := by decide +kernel
theorem dX5_get_41 : decode cX5_get 41 = .ok (.iload_n 2, 1) := by decide +kernel
theorem dX5_get_42 : decode cX5_get 42 = .ok (.invokevirtual 77, 3) := by decide +kernel
theorem dX5_get_45 : decode cX5_get 45 = .ok (.i2l, 1) := by decide +kernel
theorem dX5_get_46 : decode cX5_get 46 = .ok (.lreturn, 1) := by decide +kernel
theorem dX5_lose_0 : decode cX5_lose 0 = .ok (.aload_n 0, 1) := by decide +kernel
theorem dX5_lose_1 : decode cX5_lose 1 = .ok (.iload_n 1, 1) := by decide +kernel
theorem dX5_lose_2 : decode cX5_lose 2 = .ok (.iload_n 2, 1) := by decide +kernel
theorem dX5_lose_3 : decode cX5_lose 3 = .ok (.invokevirtual 60, 3) := by decide +kernel
theorem dX5_lose_6 : decode cX5_lose 6 = .ok (.istore_n 3, 1) := by decide +kernel
theorem dX5_lose_7 : decode cX5_lose 7 = .ok (.iload_n 3, 1) := by decide +kernel
theorem dX5_lose_8 : decode cX5_lose 8 = .ok (.ifCond .eq 5, 3) := by decide +kernel
theorem dX5_lose_11 : decode cX5_lose 11 = .ok (.iload_n 3, 1) := by decide +kernel
theorem dX5_lose_12 : decode cX5_lose 12 = .ok (.ireturn, 1) := by decide +kernel
theorem dX5_lose_13 : decode cX5_lose 13 = .ok (.aload_n 0, 1) := by decide +kernel
theorem dX5_lose_14 : decode cX5_lose 14 = .ok (.getfield 11, 3) := by decide +kernel
theorem dX5_lose_17 : decode cX5_lose 17 = .ok (.iload_n 1, 1) := by decide +kernel
theorem dX5_lose_18 : decode cX5_lose 18 = .ok (.aaload, 1) := by decide +kernel
theorem dX5_lose_19 : decode cX5_lose 19 = .ok (.iload_n 2, 1) := by decide +kernel
theorem dX5_lose_20 : decode cX5_lose 20 = .ok (.invokevirtual 72, 3) := by decide +kernel
theorem dX5_lose_23 : decode cX5_lose 23 = .ok (.ifCond .eq 5, 3) := by decide +kernel
theorem dX5_lose_26 : decode cX5_lose 26 = .ok (.iconst 0, 1) := by decide +kernel
theorem dX5_lose_27 : decode cX5_lose 27 = .ok (.ireturn, 1) := by decide +kernel
theorem dX5_lose_28 : decode cX5_lose 28 = .ok (.aload_n 0, 1) := by decide +kernel
theorem dX5_lose_29 : decode cX5_lose 29 = .ok (.getfield 11, 3) := by decide +kernel
theorem dX5_lose_32 : decode cX5_lose 32 = .ok (.iload_n 1, 1) := by decide +kernel
theorem dX5_lose_33 : decode cX5_lose 33 = .ok (.aaload, 1) := by decide +kernel
theorem dX5_lose_34 : decode cX5_lose 34 = .ok (.iload_n 2, 1) := by decide +kernel
theorem dX5_lose_35 : decode cX5_lose 35 = .ok (.invokevirtual 80, 3) := by decide +kernel
theorem dX5_lose_38 : decode cX5_lose 38 = .ok (.iconst 1, 1) := by decide +kernel
theorem dX5_lose_39 : decode cX5_lose 39 = .ok (.ireturn, 1) := by decide +kernel
theorem dX5_stands_0 : decode cX5_stands 0 = .ok (.aload_n 0, 1) := by decide +kernel
theorem dX5_stands_1 : decode cX5_stands 1 = .ok (.iload_n 1, 1) := by decide +kernel
theorem dX5_stands_2 : decode cX5_stands 2 = .ok (.iload_n 2, 1) := by decide +kernel
theorem dX5_stands_3 : decode cX5_stands 3 = .ok (.invokevirtual 60, 3) := by decide +kernel
theorem dX5_stands_6 : decode cX5_stands 6 = .ok (.istore_n 3, 1) := by decide +kernel
theorem dX5_stands_7 : decode cX5_stands 7 = .ok (.iload_n 3, 1) := by decide +kernel
theorem dX5_stands_8 : decode cX5_stands 8 = .ok (.ifCond .eq 5, 3) := by decide +kernel
theorem dX5_stands_11 : decode cX5_stands 11 = .ok (.iload_n 3, 1) := by decide +kernel
theorem dX5_stands_12 : decode cX5_stands 12 = .ok (.ireturn, 1) := by decide +kernel
theorem dX5_stands_13 : decode cX5_stands 13 = .ok (.aload_n 0, 1) := by decide +kernel
theorem dX5_stands_14 : decode cX5_stands 14 = .ok (.getfield 11, 3) := by decide +kernel
theorem dX5_stands_17 : decode cX5_stands 17 = .ok (.iload_n 1, 1) := by decide +kernel
theorem dX5_stands_18 : decode cX5_stands 18 = .ok (.aaload, 1) := by decide +kernel
theorem dX5_stands_19 : decode cX5_stands 19 = .ok (.iload_n 2, 1) := by decide +kernel
theorem dX5_stands_20 : decode cX5_stands 20 = .ok (.invokevirtual 84, 3) := by decide +kernel
theorem dX5_stands_23 : decode cX5_stands 23 = .ok (.ireturn, 1) := by decide +kernel
theorem dX5_copy_0 : decode cX5_copy 0 = .ok (.iload_n 1, 1) := by decide +kernel
theorem dX5_copy_1 : decode cX5_copy 1 = .ok (.invokestatic 44, 3) := by decide +kernel
theorem dX5_copy_4 : decode cX5_copy 4 = .ok (.ifCond .eq 10, 3) := by decide +kernel
theorem dX5_copy_7 : decode cX5_copy 7 = .ok (.iload_n 3, 1) := by decide +kernel
theorem dX5_copy_8 : decode cX5_copy 8 = .ok (.invokestatic 44, 3) := by decide +kernel
theorem dX5_copy_11 : decode cX5_copy 11 = .ok (.ifCond .ne 6, 3) := by decide +kernel
theorem dX5_copy_14 : decode cX5_copy 14 = .ok (.bipush (-2), 2) := by decide +kernel
theorem dX5_copy_16 : decode cX5_copy 16 = .ok (.ireturn, 1) := by decide +kernel
theorem dX5_copy_17 : decode cX5_copy 17 = .ok (.aload_n 0, 1) := by decide +kernel
theorem dX5_copy_18 : decode cX5_copy 18 = .ok (.getfield 11, 3) := by decide +kernel
theorem dX5_copy_21 : decode cX5_copy 21 = .ok (.iload_n 1, 1) := by decide +kernel
theorem dX5_copy_22 : decode cX5_copy 22 = .ok (.aaload, 1) := by decide +kernel
theorem dX5_copy_23 : decode cX5_copy 23 = .ok (.astore 6, 2) := by decide +kernel
theorem dX5_copy_25 : decode cX5_copy 25 = .ok (.aload_n 0, 1) := by decide +kernel
theorem dX5_copy_26 : decode cX5_copy 26 = .ok (.getfield 11, 3) := by decide +kernel
theorem dX5_copy_29 : decode cX5_copy 29 = .ok (.iload_n 3, 1) := by decide +kernel
theorem dX5_copy_30 : decode cX5_copy 30 = .ok (.aaload, 1) := by decide +kernel
theorem dX5_copy_31 : decode cX5_copy 31 = .ok (.astore 7, 2) := by decide +kernel
theorem dX5_copy_33 : decode cX5_copy 33 = .ok (.aload 6, 2) := by decide +kernel
theorem dX5_copy_35 : decode cX5_copy 35 = .ok (.invokevirtual 87, 3) := by decide +kernel
