theorem dX5_copy_38 : decode cX5_copy 38 = .ok (.ifCond .eq 11, 3) := by decide +kernel
theorem dX5_copy_41 : decode cX5_copy 41 = .ok (.aload 7, 2) := by decide +kernel
theorem dX5_copy_43 : decode cX5_copy 43 = .ok (.invokevirtual 87, 3) := by decide +kernel
theorem dX5_copy_46 : decode cX5_copy 46 = .ok (.ifCond .ne 6, 3) := by decide +kernel
theorem dX5_copy_49 : decode cX5_copy 49 = .ok (.bipush (-10), 2) := by decide +kernel
theorem dX5_copy_51 : decode cX5_copy 51 = .ok (.ireturn, 1) := by decide +kernel
theorem dX5_copy_52 : decode cX5_copy 52 = .ok (.aload 6, 2) := by decide +kernel
theorem dX5_copy_54 : decode cX5_copy 54 = .ok (.invokevirtual 91, 3) := by decide +kernel
theorem dX5_copy_57 : decode cX5_copy 57 = .ok (.aload 7, 2) := by decide +kernel
theorem dX5_copy_59 : decode cX5_copy 59 = .ok (.invokevirtual 91, 3) := by decide +kernel
theorem dX5_copy_62 : decode cX5_copy 62 = .ok (.if_icmp .eq 6, 3) := by decide +kernel
theorem dX5_copy_65 : decode cX5_copy 65 = .ok (.bipush (-11), 2) := by decide +kernel
theorem dX5_copy_67 : decode cX5_copy 67 = .ok (.ireturn, 1) := by decide +kernel
theorem dX5_copy_68 : decode cX5_copy 68 = .ok (.iload 5, 2) := by decide +kernel
theorem dX5_copy_70 : decode cX5_copy 70 = .ok (.ifCond .ge 6, 3) := by decide +kernel
theorem dX5_copy_73 : decode cX5_copy 73 = .ok (.bipush (-12), 2) := by decide +kernel
theorem dX5_copy_75 : decode cX5_copy 75 = .ok (.ireturn, 1) := by decide +kernel
theorem dX5_copy_76 : decode cX5_copy 76 = .ok (.aload 6, 2) := by decide +kernel
theorem dX5_copy_78 : decode cX5_copy 78 = .ok (.iload_n 2, 1) := by decide +kernel
theorem dX5_copy_79 : decode cX5_copy 79 = .ok (.iload 5, 2) := by decide +kernel
theorem dX5_copy_81 : decode cX5_copy 81 = .ok (.invokevirtual 94, 3) := by decide +kernel
theorem dX5_copy_84 : decode cX5_copy 84 = .ok (.ifCond .eq 15, 3) := by decide +kernel
theorem dX5_copy_87 : decode cX5_copy 87 = .ok (.aload 7, 2) := by decide +kernel
theorem dX5_copy_89 : decode cX5_copy 89 = .ok (.iload 4, 2) := by decide +kernel
theorem dX5_copy_91 : decode cX5_copy 91 = .ok (.iload 5, 2) := by decide +kernel
theorem dX5_copy_93 : decode cX5_copy 93 = .ok (.invokevirtual 94, 3) := by decide +kernel
theorem dX5_copy_96 : decode cX5_copy 96 = .ok (.ifCond .ne 6, 3) := by decide +kernel
theorem dX5_copy_99 : decode cX5_copy 99 = .ok (.bipush (-13), 2) := by decide +kernel
theorem dX5_copy_101 : decode cX5_copy 101 = .ok (.ireturn, 1) := by decide +kernel
theorem dX5_copy_102 : decode cX5_copy 102 = .ok (.aload 7, 2) := by decide +kernel
theorem dX5_copy_104 : decode cX5_copy 104 = .ok (.aload 6, 2) := by decide +kernel
theorem dX5_copy_106 : decode cX5_copy 106 = .ok (.iload_n 2, 1) := by decide +kernel
theorem dX5_copy_107 : decode cX5_copy 107 = .ok (.iload 4, 2) := by decide +kernel
theorem dX5_copy_109 : decode cX5_copy 109 = .ok (.iload 5, 2) := by decide +kernel
theorem dX5_copy_111 : decode cX5_copy 111 = .ok (.invokevirtual 98, 3) := by decide +kernel
theorem dX5_copy_114 : decode cX5_copy 114 = .ok (.iload 5, 2) := by decide +kernel
theorem dX5_copy_116 : decode cX5_copy 116 = .ok (.ireturn, 1) := by decide +kernel
theorem dX5_spikes_0 : decode cX5_spikes 0 = .ok (.iload_n 1, 1) := by decide +kernel
theorem dX5_spikes_1 : decode cX5_spikes 1 = .ok (.invokestatic 44, 3) := by decide +kernel
theorem dX5_spikes_4 : decode cX5_spikes 4 = .ok (.ifCond .eq 7, 3) := by decide +kernel
theorem dX5_spikes_7 : decode cX5_spikes 7 = .ok (.iload_n 2, 1) := by decide +kernel
theorem dX5_spikes_8 : decode cX5_spikes 8 = .ok (.ifCond .ge 6, 3) := by decide +kernel
theorem dX5_spikes_11 : decode cX5_spikes 11 = .ok (.bipush (-2), 2) := by decide +kernel
theorem dX5_spikes_13 : decode cX5_spikes 13 = .ok (.ireturn, 1) := by decide +kernel
theorem dX5_spikes_14 : decode cX5_spikes 14 = .ok (.aload_n 0, 1) := by decide +kernel
theorem dX5_spikes_15 : decode cX5_spikes 15 = .ok (.getfield 11, 3) := by decide +kernel
theorem dX5_spikes_18 : decode cX5_spikes 18 = .ok (.iload_n 1, 1) := by decide +kernel
theorem dX5_spikes_19 : decode cX5_spikes 19 = .ok (.aaload, 1) := by decide +kernel
theorem dX5_spikes_20 : decode cX5_spikes 20 = .ok (.invokevirtual 87, 3) := by decide +kernel
theorem dX5_spikes_23 : decode cX5_spikes 23 = .ok (.ifCond .ne 6, 3) := by decide +kernel
theorem dX5_spikes_26 : decode cX5_spikes 26 = .ok (.bipush (-10), 2) := by decide +kernel
theorem dX5_spikes_28 : decode cX5_spikes 28 = .ok (.ireturn, 1) := by decide +kernel
theorem dX5_spikes_29 : decode cX5_spikes 29 = .ok (.aload_n 0, 1) := by decide +kernel
theorem dX5_spikes_30 : decode cX5_spikes 30 = .ok (.getfield 11, 3) := by decide +kernel
theorem dX5_spikes_33 : decode cX5_spikes 33 = .ok (.iload_n 1, 1) := by decide +kernel
theorem dX5_spikes_34 : decode cX5_spikes 34 = .ok (.aaload, 1) := by decide +kernel
theorem dX5_spikes_35 : decode cX5_spikes 35 = .ok (.iload_n 2, 1) := by decide +kernel
theorem dX5_spikes_36 : decode cX5_spikes 36 = .ok (.invokevirtual 102, 3) := by decide +kernel
theorem dX5_spikes_39 : decode cX5_spikes 39 = .ok (.ireturn, 1) := by decide +kernel
theorem dX5_fill_0 : decode cX5_fill 0 = .ok (.iload_n 1, 1) := by decide +kernel
theorem dX5_fill_1 : decode cX5_fill 1 = .ok (.invokestatic 44, 3) := by decide +kernel
theorem dX5_fill_4 : decode cX5_fill 4 = .ok (.ifCond .eq 13, 3) := by decide +kernel
theorem dX5_fill_7 : decode cX5_fill 7 = .ok (.iload_n 2, 1) := by decide +kernel
theorem dX5_fill_8 : decode cX5_fill 8 = .ok (.ifCond .lt 9, 3) := by decide +kernel
theorem dX5_fill_11 : decode cX5_fill 11 = .ok (.iload_n 2, 1) := by decide +kernel
theorem dX5_fill_12 : decode cX5_fill 12 = .ok (.bipush 64, 2) := by decide +kernel
theorem dX5_fill_14 : decode cX5_fill 14 = .ok (.if_icmp .le 6, 3) := by decide +kernel
theorem dX5_fill_17 : decode cX5_fill 17 = .ok (.bipush (-2), 2) := by decide +kernel
theorem dX5_fill_19 : decode cX5_fill 19 = .ok (.ireturn, 1) := by decide +kernel
theorem dX5_fill_20 : decode cX5_fill 20 = .ok (.aload_n 0, 1) := by decide +kernel
theorem dX5_fill_21 : decode cX5_fill 21 = .ok (.getfield 11, 3) := by decide +kernel
theorem dX5_fill_24 : decode cX5_fill 24 = .ok (.iload_n 1, 1) := by decide +kernel
theorem dX5_fill_25 : decode cX5_fill 25 = .ok (.aaload, 1) := by decide +kernel
theorem dX5_fill_26 : decode cX5_fill 26 = .ok (.invokevirtual 87, 3) := by decide +kernel
theorem dX5_fill_29 : decode cX5_fill 29 = .ok (.ifCond .ne 6, 3) := by decide +kernel
theorem dX5_fill_32 : decode cX5_fill 32 = .ok (.bipush (-10), 2) := by decide +kernel
theorem dX5_fill_34 : decode cX5_fill 34 = .ok (.ireturn, 1) := by decide +kernel
theorem dX5_fill_35 : decode cX5_fill 35 = .ok (.aload_n 0, 1) := by decide +kernel
theorem dX5_fill_36 : decode cX5_fill 36 = .ok (.getfield 11, 3) := by decide +kernel
theorem dX5_fill_39 : decode cX5_fill 39 = .ok (.iload_n 1, 1) := by decide +kernel
theorem dX5_fill_40 : decode cX5_fill 40 = .ok (.aaload, 1) := by decide +kernel
theorem dX5_fill_41 : decode cX5_fill 41 = .ok (.iload_n 2, 1) := by decide +kernel
theorem dX5_fill_42 : decode cX5_fill 42 = .ok (.invokevirtual 105, 3) := by decide +kernel
theorem dX5_fill_45 : decode cX5_fill 45 = .ok (.ireturn, 1) := by decide +kernel
theorem dX5_about_0 : decode cX5_about 0 = .ok (.iload_n 1, 1) := by decide +kernel
theorem dX5_about_1 : decode cX5_about 1 = .ok (.invokestatic 44, 3) := by decide +kernel
theorem dX5_about_4 : decode cX5_about 4 = .ok (.ifCond .eq 13, 3) := by decide +kernel
theorem dX5_about_7 : decode cX5_about 7 = .ok (.iload_n 2, 1) := by decide +kernel
theorem dX5_about_8 : decode cX5_about 8 = .ok (.ifCond .lt 9, 3) := by decide +kernel
theorem dX5_about_11 : decode cX5_about 11 = .ok (.iload_n 2, 1) := by decide +kernel
theorem dX5_about_12 : decode cX5_about 12 = .ok (.bipush 6, 2) := by decide +kernel
theorem dX5_about_14 : decode cX5_about 14 = .ok (.if_icmp .lt 6, 3) := by decide +kernel
theorem dX5_about_17 : decode cX5_about 17 = .ok (.bipush (-2), 2) := by decide +kernel
theorem dX5_about_19 : decode cX5_about 19 = .ok (.ireturn, 1) := by decide +kernel
theorem dX5_about_20 : decode cX5_about 20 = .ok (.aload_n 0, 1) := by decide +kernel
theorem dX5_about_21 : decode cX5_about 21 = .ok (.getfield 11, 3) := by decide +kernel
theorem dX5_about_24 : decode cX5_about 24 = .ok (.iload_n 1, 1) := by decide +kernel
theorem dX5_about_25 : decode cX5_about 25 = .ok (.aaload, 1) := by decide +kernel
theorem dX5_about_26 : decode cX5_about 26 = .ok (.invokevirtual 87, 3) := by decide +kernel
theorem dX5_about_29 : decode cX5_about 29 = .ok (.ifCond .ne 6, 3) := by decide +kernel
theorem dX5_about_32 : decode cX5_about 32 = .ok (.bipush (-10), 2) := by decide +kernel
theorem dX5_about_34 : decode cX5_about 34 = .ok (.ireturn, 1) := by decide +kernel
theorem dX5_about_35 : decode cX5_about 35 = .ok (.aload_n 0, 1) := by decide +kernel
theorem dX5_about_36 : decode cX5_about 36 = .ok (.getfield 11, 3) := by decide +kernel
theorem dX5_about_39 : decode cX5_about 39 = .ok (.iload_n 1, 1) := by decide +kernel
theorem dX5_about_40 : decode cX5_about 40 = .ok (.aaload, 1) := by decide +kernel
theorem dX5_about_41 : decode cX5_about 41 = .ok (.iload_n 2, 1) := by decide +kernel
theorem dX5_about_42 : decode cX5_about 42 = .ok (.invokevirtual 108, 3) := by decide +kernel
theorem dX5_about_45 : decode cX5_about 45 = .ok (.ireturn, 1) := by decide +kernel
theorem dX5_raise_0 : decode cX5_raise 0 = .ok (.iload_n 1, 1) := by decide +kernel
theorem dX5_raise_1 : decode cX5_raise 1 = .ok (.invokestatic 44, 3) := by decide +kernel
theorem dX5_raise_4 : decode cX5_raise 4 = .ok (.ifCond .eq 10, 3) := by decide +kernel
theorem dX5_raise_7 : decode cX5_raise 7 = .ok (.iload_n 2, 1) := by decide +kernel
theorem dX5_raise_8 : decode cX5_raise 8 = .ok (.invokestatic 111, 3) := by decide +kernel
theorem dX5_raise_11 : decode cX5_raise 11 = .ok (.ifCond .ne 6, 3) := by decide +kernel
theorem dX5_raise_14 : decode cX5_raise 14 = .ok (.bipush (-2), 2) := by decide +kernel
theorem dX5_raise_16 : decode cX5_raise 16 = .ok (.ireturn, 1) := by decide +kernel
theorem dX5_raise_17 : decode cX5_raise 17 = .ok (.aload_n 0, 1) := by decide +kernel
theorem dX5_raise_18 : decode cX5_raise 18 = .ok (.getfield 11, 3) := by decide +kernel
theorem dX5_raise_21 : decode cX5_raise 21 = .ok (.iload_n 1, 1) := by decide +kernel
theorem dX5_raise_22 : decode cX5_raise 22 = .ok (.aaload, 1) := by decide +kernel
theorem dX5_raise_23 : decode cX5_raise 23 = .ok (.invokevirtual 87, 3) := by decide +kernel
theorem dX5_raise_26 : decode cX5_raise 26 = .ok (.ifCond .ne 6, 3) := by decide +kernel
theorem dX5_raise_29 : decode cX5_raise 29 = .ok (.bipush (-10), 2) := by decide +kernel
theorem dX5_raise_31 : decode cX5_raise 31 = .ok (.ireturn, 1) := by decide +kernel
theorem dX5_raise_32 : decode cX5_raise 32 = .ok (.aload_n 0, 1) := by decide +kernel
theorem dX5_raise_33 : decode cX5_raise 33 = .ok (.getfield 11, 3) := by decide +kernel
theorem dX5_raise_36 : decode cX5_raise 36 = .ok (.iload_n 1, 1) := by decide +kernel
theorem dX5_raise_37 : decode cX5_raise 37 = .ok (.aaload, 1) := by decide +kernel
theorem dX5_raise_38 : decode cX5_raise 38 = .ok (.invokevirtual 114, 3) := by decide +kernel
theorem dX5_raise_41 : decode cX5_raise 41 = .ok (.ifCond .le 6, 3) := by decide +kernel
theorem dX5_raise_44 : decode cX5_raise 44 = .ok (.bipush (-15), 2) := by decide +kernel
theorem dX5_raise_46 : decode cX5_raise 46 = .ok (.ireturn, 1) := by decide +kernel
theorem dX5_raise_47 : decode cX5_raise 47 = .ok (.aload_n 0, 1) := by decide +kernel
theorem dX5_raise_48 : decode cX5_raise 48 = .ok (.getfield 18, 3) := by decide +kernel
theorem dX5_raise_51 : decode cX5_raise 51 = .ok (.iload_n 2, 1) := by decide +kernel
theorem dX5_raise_52 : decode cX5_raise 52 = .ok (.aaload, 1) := by decide +kernel
theorem dX5_raise_53 : decode cX5_raise 53 = .ok (.aload_n 0, 1) := by decide +kernel
theorem dX5_raise_54 : decode cX5_raise 54 = .ok (.getfield 11, 3) := by decide +kernel
theorem dX5_raise_57 : decode cX5_raise 57 = .ok (.iload_n 1, 1) := by decide +kernel
theorem dX5_raise_58 : decode cX5_raise 58 = .ok (.aaload, 1) := by decide +kernel
theorem dX5_raise_59 : decode cX5_raise 59 = .ok (.invokevirtual 117, 3) := by decide +kernel
theorem dX5_raise_62 : decode cX5_raise 62 = .ok (.aload_n 0, 1) := by decide +kernel
theorem dX5_raise_63 : decode cX5_raise 63 = .ok (.getfield 18, 3) := by decide +kernel
theorem dX5_raise_66 : decode cX5_raise 66 = .ok (.iload_n 2, 1) := by decide +kernel
theorem dX5_raise_67 : decode cX5_raise 67 = .ok (.aaload, 1) := by decide +kernel
theorem dX5_raise_68 : decode cX5_raise 68 = .ok (.invokevirtual 120, 3) := by decide +kernel
theorem dX5_raise_71 : decode cX5_raise 71 = .ok (.ireturn, 1) := by decide +kernel
theorem dX5_number_0 : decode cX5_number 0 = .ok (.iload_n 1, 1) := by decide +kernel
theorem dX5_number_1 : decode cX5_number 1 = .ok (.invokestatic 111, 3) := by decide +kernel
theorem dX5_number_4 : decode cX5_number 4 = .ok (.ifCond .ne 7, 3) := by decide +kernel
theorem dX5_number_7 : decode cX5_number 7 = .ok (.ldc2_w 123, 3) := by decide +kernel
theorem dX5_number_10 : decode cX5_number 10 = .ok (.lreturn, 1) := by decide +kernel
theorem dX5_number_11 : decode cX5_number 11 = .ok (.iload_n 2, 1) := by decide +kernel
theorem dX5_number_12 : decode cX5_number 12 = .ok (.ifCond .lt 16, 3) := by decide +kernel
theorem dX5_number_15 : decode cX5_number 15 = .ok (.iload_n 2, 1) := by decide +kernel
theorem dX5_number_16 : decode cX5_number 16 = .ok (.aload_n 0, 1) := by decide +kernel
theorem dX5_number_17 : decode cX5_number 17 = .ok (.getfield 18, 3) := by decide +kernel
theorem dX5_number_20 : decode cX5_number 20 = .ok (.iload_n 1, 1) := by decide +kernel
theorem dX5_number_21 : decode cX5_number 21 = .ok (.aaload, 1) := by decide +kernel
theorem dX5_number_22 : decode cX5_number 22 = .ok (.invokevirtual 120, 3) := by decide +kernel
theorem dX5_number_25 : decode cX5_number 25 = .ok (.if_icmp .lt 7, 3) := by decide +kernel
theorem dX5_number_28 : decode cX5_number 28 = .ok (.ldc2_w 125, 3) := by decide +kernel
theorem dX5_number_31 : decode cX5_number 31 = .ok (.lreturn, 1) := by decide +kernel
theorem dX5_number_32 : decode cX5_number 32 = .ok (.aload_n 0, 1) := by decide +kernel
theorem dX5_number_33 : decode cX5_number 33 = .ok (.getfield 18, 3) := by decide +kernel
theorem dX5_number_36 : decode cX5_number 36 = .ok (.iload_n 1, 1) := by decide +kernel
theorem dX5_number_37 : decode cX5_number 37 = .ok (.aaload, 1) := by decide +kernel
theorem dX5_number_38 : decode cX5_number 38 = .ok (.iload_n 2, 1) := by decide +kernel
theorem dX5_number_39 : decode cX5_number 39 = .ok (.invokevirtual 127, 3) := by decide +kernel
theorem dX5_number_42 : decode cX5_number 42 = .ok (.lreturn, 1) := by decide +kernel
theorem dX5_turn_0 : decode cX5_turn 0 = .ok (.iload_n 1, 1) := by decide +kernel
theorem dX5_turn_1 : decode cX5_turn 1 = .ok (.invokestatic 111, 3) := by decide +kernel
theorem dX5_turn_4 : decode cX5_turn 4 = .ok (.ifCond .eq 12, 3) := by decide +kernel
theorem dX5_turn_7 : decode cX5_turn 7 = .ok (.iload_n 2, 1) := by decide +kernel
theorem dX5_turn_8 : decode cX5_turn 8 = .ok (.ifCond .lt 8, 3) := by decide +kernel
theorem dX5_turn_11 : decode cX5_turn 11 = .ok (.iload_n 2, 1) := by decide +kernel
theorem dX5_turn_12 : decode cX5_turn 12 = .ok (.iconst 4, 1) := by decide +kernel
theorem dX5_turn_13 : decode cX5_turn 13 = .ok (.if_icmp .lt 6, 3) := by decide +kernel
theorem dX5_turn_16 : decode cX5_turn 16 = .ok (.bipush (-2), 2) := by decide +kernel
theorem dX5_turn_18 : decode cX5_turn 18 = .ok (.ireturn, 1) := by decide +kernel
theorem dX5_turn_19 : decode cX5_turn 19 = .ok (.aload_n 0, 1) := by decide +kernel
theorem dX5_turn_20 : decode cX5_turn 20 = .ok (.getfield 18, 3) := by decide +kernel
theorem dX5_turn_23 : decode cX5_turn 23 = .ok (.iload_n 1, 1) := by decide +kernel
theorem dX5_turn_24 : decode cX5_turn 24 = .ok (.aaload, 1) := by decide +kernel
theorem dX5_turn_25 : decode cX5_turn 25 = .ok (.iload_n 2, 1) := by decide +kernel
theorem dX5_turn_26 : decode cX5_turn 26 = .ok (.invokevirtual 130, 3) := by decide +kernel
theorem dX5_turn_29 : decode cX5_turn 29 = .ok (.ireturn, 1) := by decide +kernel
theorem dX5_part_0 : decode cX5_part 0 = .ok (.iload_n 1, 1) := by decide +kernel
theorem dX5_part_1 : decode cX5_part 1 = .ok (.iload_n 2, 1) := by decide +kernel
theorem dX5_part_2 : decode cX5_part 2 = .ok (.iload_n 3, 1) := by decide +kernel
theorem dX5_part_3 : decode cX5_part 3 = .ok (.invokestatic 133, 3) := by decide +kernel
theorem dX5_part_6 : decode cX5_part 6 = .ok (.ifCond .ne 6, 3) := by decide +kernel
theorem dX5_part_9 : decode cX5_part 9 = .ok (.bipush (-2), 2) := by decide +kernel
theorem dX5_part_11 : decode cX5_part 11 = .ok (.ireturn, 1) := by decide +kernel
theorem dX5_part_12 : decode cX5_part 12 = .ok (.aload_n 0, 1) := by decide +kernel
theorem dX5_part_13 : decode cX5_part 13 = .ok (.getfield 18, 3) := by decide +kernel
theorem dX5_part_16 : decode cX5_part 16 = .ok (.iload_n 1, 1) := by decide +kernel
theorem dX5_part_17 : decode cX5_part 17 = .ok (.aaload, 1) := by decide +kernel
theorem dX5_part_18 : decode cX5_part 18 = .ok (.iload_n 2, 1) := by decide +kernel
theorem dX5_part_19 : decode cX5_part 19 = .ok (.iload_n 3, 1) := by decide +kernel
theorem dX5_part_20 : decode cX5_part 20 = .ok (.invokevirtual 137, 3) := by decide +kernel
theorem dX5_part_23 : decode cX5_part 23 = .ok (.ireturn, 1) := by decide +kernel
theorem dX5_mix_0 : decode cX5_mix 0 = .ok (.iload_n 1, 1) := by decide +kernel
theorem dX5_mix_1 : decode cX5_mix 1 = .ok (.invokestatic 111, 3) := by decide +kernel
theorem dX5_mix_4 : decode cX5_mix 4 = .ok (.ifCond .eq 33, 3) := by decide +kernel
theorem dX5_mix_7 : decode cX5_mix 7 = .ok (.iload_n 3, 1) := by decide +kernel
theorem dX5_mix_8 : decode cX5_mix 8 = .ok (.invokestatic 111, 3) := by decide +kernel
theorem dX5_mix_11 : decode cX5_mix 11 = .ok (.ifCond .eq 26, 3) := by decide +kernel
theorem dX5_mix_14 : decode cX5_mix 14 = .ok (.iload_n 2, 1) := by decide +kernel
theorem dX5_mix_15 : decode cX5_mix 15 = .ok (.i2l, 1) := by decide +kernel
theorem dX5_mix_16 : decode cX5_mix 16 = .ok (.ldc2_w 140, 3) := by decide +kernel
theorem dX5_mix_19 : decode cX5_mix 19 = .ok (.invokestatic 142, 3) := by decide +kernel
theorem dX5_mix_22 : decode cX5_mix 22 = .ok (.ifCond .eq 15, 3) := by decide +kernel
theorem dX5_mix_25 : decode cX5_mix 25 = .ok (.iload 4, 2) := by decide +kernel
theorem dX5_mix_27 : decode cX5_mix 27 = .ok (.i2l, 1) := by decide +kernel
theorem dX5_mix_28 : decode cX5_mix 28 = .ok (.ldc2_w 140, 3) := by decide +kernel
theorem dX5_mix_31 : decode cX5_mix 31 = .ok (.invokestatic 142, 3) := by decide +kernel
theorem dX5_mix_34 : decode cX5_mix 34 = .ok (.ifCond .ne 6, 3) := by decide +kernel
theorem dX5_mix_37 : decode cX5_mix 37 = .ok (.bipush (-2), 2) := by decide +kernel
theorem dX5_mix_39 : decode cX5_mix 39 = .ok (.ireturn, 1) := by decide +kernel
theorem dX5_mix_40 : decode cX5_mix 40 = .ok (.aload_n 0, 1) := by decide +kernel
theorem dX5_mix_41 : decode cX5_mix 41 = .ok (.getfield 18, 3) := by decide +kernel
theorem dX5_mix_44 : decode cX5_mix 44 = .ok (.iload_n 1, 1) := by decide +kernel
theorem dX5_mix_45 : decode cX5_mix 45 = .ok (.aaload, 1) := by decide +kernel
theorem dX5_mix_46 : decode cX5_mix 46 = .ok (.invokevirtual 120, 3) := by decide +kernel
theorem dX5_mix_49 : decode cX5_mix 49 = .ok (.aload_n 0, 1) := by decide +kernel
theorem dX5_mix_50 : decode cX5_mix 50 = .ok (.getfield 18, 3) := by decide +kernel
theorem dX5_mix_53 : decode cX5_mix 53 = .ok (.iload_n 3, 1) := by decide +kernel
theorem dX5_mix_54 : decode cX5_mix 54 = .ok (.aaload, 1) := by decide +kernel
theorem dX5_mix_55 : decode cX5_mix 55 = .ok (.invokevirtual 120, 3) := by decide +kernel
theorem dX5_mix_58 : decode cX5_mix 58 = .ok (.if_icmp .eq 6, 3) := by decide +kernel
theorem dX5_mix_61 : decode cX5_mix 61 = .ok (.bipush (-3), 2) := by decide +kernel
theorem dX5_mix_63 : decode cX5_mix 63 = .ok (.ireturn, 1) := by decide +kernel
theorem dX5_mix_64 : decode cX5_mix 64 = .ok (.aload_n 0, 1) := by decide +kernel
theorem dX5_mix_65 : decode cX5_mix 65 = .ok (.getfield 18, 3) := by decide +kernel
theorem dX5_mix_68 : decode cX5_mix 68 = .ok (.iload_n 1, 1) := by decide +kernel
theorem dX5_mix_69 : decode cX5_mix 69 = .ok (.aaload, 1) := by decide +kernel
theorem dX5_mix_70 : decode cX5_mix 70 = .ok (.iload_n 2, 1) := by decide +kernel
theorem dX5_mix_71 : decode cX5_mix 71 = .ok (.aload_n 0, 1) := by decide +kernel
theorem dX5_mix_72 : decode cX5_mix 72 = .ok (.getfield 18, 3) := by decide +kernel
theorem dX5_mix_75 : decode cX5_mix 75 = .ok (.iload_n 3, 1) := by decide +kernel
theorem dX5_mix_76 : decode cX5_mix 76 = .ok (.aaload, 1) := by decide +kernel
theorem dX5_mix_77 : decode cX5_mix 77 = .ok (.iload 4, 2) := by decide +kernel
theorem dX5_mix_79 : decode cX5_mix 79 = .ok (.invokevirtual 146, 3) := by decide +kernel
theorem dX5_mix_82 : decode cX5_mix 82 = .ok (.ireturn, 1) := by decide +kernel
theorem dX5_force_0 : decode cX5_force 0 = .ok (.iload_n 1, 1) := by decide +kernel
theorem dX5_force_1 : decode cX5_force 1 = .ok (.iload_n 2, 1) := by decide +kernel
theorem dX5_force_2 : decode cX5_force 2 = .ok (.iload_n 3, 1) := by decide +kernel
theorem dX5_force_3 : decode cX5_force 3 = .ok (.invokestatic 133, 3) := by decide +kernel
theorem dX5_force_6 : decode cX5_force 6 = .ok (.ifCond .ne 7, 3) := by decide +kernel
theorem dX5_force_9 : decode cX5_force 9 = .ok (.ldc2_w 123, 3) := by decide +kernel
theorem dX5_force_12 : decode cX5_force 12 = .ok (.lreturn, 1) := by decide +kernel
theorem dX5_force_13 : decode cX5_force 13 = .ok (.aload_n 0, 1) := by decide +kernel
theorem dX5_force_14 : decode cX5_force 14 = .ok (.getfield 18, 3) := by decide +kernel
theorem dX5_force_17 : decode cX5_force 17 = .ok (.iload_n 1, 1) := by decide +kernel
theorem dX5_force_18 : decode cX5_force 18 = .ok (.aaload, 1) := by decide +kernel
theorem dX5_force_19 : decode cX5_force 19 = .ok (.ldc2_w 150, 3) := by decide +kernel
theorem dX5_force_22 : decode cX5_force 22 = .ok (.iload_n 2, 1) := by decide +kernel
theorem dX5_force_23 : decode cX5_force 23 = .ok (.iload_n 3, 1) := by decide +kernel
theorem dX5_force_24 : decode cX5_force 24 = .ok (.invokevirtual 152, 3) := by decide +kernel
theorem dX5_force_27 : decode cX5_force 27 = .ok (.ifCond .eq 7, 3) := by decide +kernel
theorem dX5_force_30 : decode cX5_force 30 = .ok (.ldc2_w 156, 3) := by decide +kernel
theorem dX5_force_33 : decode cX5_force 33 = .ok (.lreturn, 1) := by decide +kernel
theorem dX5_force_34 : decode cX5_force 34 = .ok (.aload_n 0, 1) := by decide +kernel
theorem dX5_force_35 : decode cX5_force 35 = .ok (.getfield 18, 3) := by decide +kernel
theorem dX5_force_38 : decode cX5_force 38 = .ok (.iload_n 1, 1) := by decide +kernel
theorem dX5_force_39 : decode cX5_force 39 = .ok (.aaload, 1) := by decide +kernel
theorem dX5_force_40 : decode cX5_force 40 = .ok (.iload_n 2, 1) := by decide +kernel
theorem dX5_force_41 : decode cX5_force 41 = .ok (.iload_n 3, 1) := by decide +kernel
theorem dX5_force_42 : decode cX5_force 42 = .ok (.invokevirtual 158, 3) := by decide +kernel
theorem dX5_force_45 : decode cX5_force 45 = .ok (.lreturn, 1) := by decide +kernel
theorem dX5_cross_0 : decode cX5_cross 0 = .ok (.iload_n 1, 1) := by decide +kernel
theorem dX5_cross_1 : decode cX5_cross 1 = .ok (.invokestatic 111, 3) := by decide +kernel
theorem dX5_cross_4 : decode cX5_cross 4 = .ok (.ifCond .eq 10, 3) := by decide +kernel
theorem dX5_cross_7 : decode cX5_cross 7 = .ok (.iload_n 2, 1) := by decide +kernel
theorem dX5_cross_8 : decode cX5_cross 8 = .ok (.invokestatic 111, 3) := by decide +kernel
theorem dX5_cross_11 : decode cX5_cross 11 = .ok (.ifCond .ne 7, 3) := by decide +kernel
theorem dX5_cross_14 : decode cX5_cross 14 = .ok (.ldc2_w 123, 3) := by decide +kernel
theorem dX5_cross_17 : decode cX5_cross 17 = .ok (.lreturn, 1) := by decide +kernel
theorem dX5_cross_18 : decode cX5_cross 18 = .ok (.aload_n 0, 1) := by decide +kernel
theorem dX5_cross_19 : decode cX5_cross 19 = .ok (.getfield 18, 3) := by decide +kernel
theorem dX5_cross_22 : decode cX5_cross 22 = .ok (.iload_n 1, 1) := by decide +kernel
theorem dX5_cross_23 : decode cX5_cross 23 = .ok (.aaload, 1) := by decide +kernel
theorem dX5_cross_24 : decode cX5_cross 24 = .ok (.invokevirtual 120, 3) := by decide +kernel
theorem dX5_cross_27 : decode cX5_cross 27 = .ok (.aload_n 0, 1) := by decide +kernel
theorem dX5_cross_28 : decode cX5_cross 28 = .ok (.getfield 18, 3) := by decide +kernel
theorem dX5_cross_31 : decode cX5_cross 31 = .ok (.iload_n 2, 1) := by decide +kernel
theorem dX5_cross_32 : decode cX5_cross 32 = .ok (.aaload, 1) := by decide +kernel
theorem dX5_cross_33 : decode cX5_cross 33 = .ok (.invokevirtual 120, 3) := by decide +kernel
theorem dX5_cross_36 : decode cX5_cross 36 = .ok (.if_icmp .eq 7, 3) := by decide +kernel
theorem dX5_cross_39 : decode cX5_cross 39 = .ok (.ldc2_w 162, 3) := by decide +kernel
theorem dX5_cross_42 : decode cX5_cross 42 = .ok (.lreturn, 1) := by decide +kernel
theorem dX5_cross_43 : decode cX5_cross 43 = .ok (.aload_n 0, 1) := by decide +kernel
theorem dX5_cross_44 : decode cX5_cross 44 = .ok (.getfield 18, 3) := by decide +kernel
theorem dX5_cross_47 : decode cX5_cross 47 = .ok (.iload_n 1, 1) := by decide +kernel
theorem dX5_cross_48 : decode cX5_cross 48 = .ok (.aaload, 1) := by decide +kernel
theorem dX5_cross_49 : decode cX5_cross 49 = .ok (.ldc2_w 150, 3) := by decide +kernel
theorem dX5_cross_52 : decode cX5_cross 52 = .ok (.invokevirtual 164, 3) := by decide +kernel
theorem dX5_cross_55 : decode cX5_cross 55 = .ok (.ifCond .ne 18, 3) := by decide +kernel
theorem dX5_cross_58 : decode cX5_cross 58 = .ok (.aload_n 0, 1) := by decide +kernel
theorem dX5_cross_59 : decode cX5_cross 59 = .ok (.getfield 18, 3) := by decide +kernel
theorem dX5_cross_62 : decode cX5_cross 62 = .ok (.iload_n 2, 1) := by decide +kernel
theorem dX5_cross_63 : decode cX5_cross 63 = .ok (.aaload, 1) := by decide +kernel
theorem dX5_cross_64 : decode cX5_cross 64 = .ok (.ldc2_w 150, 3) := by decide +kernel
theorem dX5_cross_67 : decode cX5_cross 67 = .ok (.invokevirtual 164, 3) := by decide +kernel
theorem dX5_cross_70 : decode cX5_cross 70 = .ok (.ifCond .eq 7, 3) := by decide +kernel
theorem dX5_cross_73 : decode cX5_cross 73 = .ok (.ldc2_w 156, 3) := by decide +kernel
theorem dX5_cross_76 : decode cX5_cross 76 = .ok (.lreturn, 1) := by decide +kernel
theorem dX5_cross_77 : decode cX5_cross 77 = .ok (.aload_n 0, 1) := by decide +kernel
theorem dX5_cross_78 : decode cX5_cross 78 = .ok (.getfield 18, 3) := by decide +kernel
theorem dX5_cross_81 : decode cX5_cross 81 = .ok (.iload_n 1, 1) := by decide +kernel
theorem dX5_cross_82 : decode cX5_cross 82 = .ok (.aaload, 1) := by decide +kernel
theorem dX5_cross_83 : decode cX5_cross 83 = .ok (.aload_n 0, 1) := by decide +kernel
theorem dX5_cross_84 : decode cX5_cross 84 = .ok (.getfield 18, 3) := by decide +kernel
theorem dX5_cross_87 : decode cX5_cross 87 = .ok (.iload_n 2, 1) := by decide +kernel
theorem dX5_cross_88 : decode cX5_cross 88 = .ok (.aaload, 1) := by decide +kernel
theorem dX5_cross_89 : decode cX5_cross 89 = .ok (.invokevirtual 168, 3) := by decide +kernel
theorem dX5_cross_92 : decode cX5_cross 92 = .ok (.lreturn, 1) := by decide +kernel
theorem dX5_waves_0 : decode cX5_waves 0 = .ok (.iload_n 1, 1) := by decide +kernel
theorem dX5_waves_1 : decode cX5_waves 1 = .ok (.invokestatic 111, 3) := by decide +kernel
theorem dX5_waves_4 : decode cX5_waves 4 = .ok (.ifCond .ne 6, 3) := by decide +kernel
theorem dX5_waves_7 : decode cX5_waves 7 = .ok (.bipush (-2), 2) := by decide +kernel
theorem dX5_waves_9 : decode cX5_waves 9 = .ok (.ireturn, 1) := by decide +kernel
theorem dX5_waves_10 : decode cX5_waves 10 = .ok (.aload_n 0, 1) := by decide +kernel
theorem dX5_waves_11 : decode cX5_waves 11 = .ok (.getfield 18, 3) := by decide +kernel
theorem dX5_waves_14 : decode cX5_waves 14 = .ok (.iload_n 1, 1) := by decide +kernel
theorem dX5_waves_15 : decode cX5_waves 15 = .ok (.aaload, 1) := by decide +kernel
theorem dX5_waves_16 : decode cX5_waves 16 = .ok (.invokevirtual 172, 3) := by decide +kernel
theorem dX5_waves_19 : decode cX5_waves 19 = .ok (.ireturn, 1) := by decide +kernel
theorem dX5_wave_0 : decode cX5_wave 0 = .ok (.iload_n 1, 1) := by decide +kernel
theorem dX5_wave_1 : decode cX5_wave 1 = .ok (.invokestatic 111, 3) := by decide +kernel
theorem dX5_wave_4 : decode cX5_wave 4 = .ok (.ifCond .eq 12, 3) := by decide +kernel
theorem dX5_wave_7 : decode cX5_wave 7 = .ok (.iload_n 3, 1) := by decide +kernel
theorem dX5_wave_8 : decode cX5_wave 8 = .ok (.ifCond .lt 8, 3) := by decide +kernel
theorem dX5_wave_11 : decode cX5_wave 11 = .ok (.iload_n 3, 1) := by decide +kernel
theorem dX5_wave_12 : decode cX5_wave 12 = .ok (.iconst 5, 1) := by decide +kernel
theorem dX5_wave_13 : decode cX5_wave 13 = .ok (.if_icmp .lt 7, 3) := by decide +kernel
theorem dX5_wave_16 : decode cX5_wave 16 = .ok (.ldc2_w 123, 3) := by decide +kernel
theorem dX5_wave_19 : decode cX5_wave 19 = .ok (.lreturn, 1) := by decide +kernel
theorem dX5_wave_20 : decode cX5_wave 20 = .ok (.iload_n 2, 1) := by decide +kernel
theorem dX5_wave_21 : decode cX5_wave 21 = .ok (.ifCond .lt 16, 3) := by decide +kernel
theorem dX5_wave_24 : decode cX5_wave 24 = .ok (.iload_n 2, 1) := by decide +kernel
theorem dX5_wave_25 : decode cX5_wave 25 = .ok (.aload_n 0, 1) := by decide +kernel
theorem dX5_wave_26 : decode cX5_wave 26 = .ok (.getfield 18, 3) := by decide +kernel
theorem dX5_wave_29 : decode cX5_wave 29 = .ok (.iload_n 1, 1) := by decide +kernel
theorem dX5_wave_30 : decode cX5_wave 30 = .ok (.aaload, 1) := by decide +kernel
theorem dX5_wave_31 : decode cX5_wave 31 = .ok (.invokevirtual 172, 3) := by decide +kernel
theorem dX5_wave_34 : decode cX5_wave 34 = .ok (.if_icmp .lt 7, 3) := by decide +kernel
theorem dX5_wave_37 : decode cX5_wave 37 = .ok (.ldc2_w 125, 3) := by decide +kernel
theorem dX5_wave_40 : decode cX5_wave 40 = .ok (.lreturn, 1) := by decide +kernel
theorem dX5_wave_41 : decode cX5_wave 41 = .ok (.aload_n 0, 1) := by decide +kernel
theorem dX5_wave_42 : decode cX5_wave 42 = .ok (.getfield 18, 3) := by decide +kernel
theorem dX5_wave_45 : decode cX5_wave 45 = .ok (.iload_n 1, 1) := by decide +kernel
theorem dX5_wave_46 : decode cX5_wave 46 = .ok (.aaload, 1) := by decide +kernel
theorem dX5_wave_47 : decode cX5_wave 47 = .ok (.iload_n 2, 1) := by decide +kernel
theorem dX5_wave_48 : decode cX5_wave 48 = .ok (.iload_n 3, 1) := by decide +kernel
theorem dX5_wave_49 : decode cX5_wave 49 = .ok (.invokevirtual 175, 3) := by decide +kernel
theorem dX5_wave_52 : decode cX5_wave 52 = .ok (.lreturn, 1) := by decide +kernel
theorem dX5_third_0 : decode cX5_third 0 = .ok (.iload_n 1, 1) := by decide +kernel
theorem dX5_third_1 : decode cX5_third 1 = .ok (.invokestatic 111, 3) := by decide +kernel
theorem dX5_third_4 : decode cX5_third 4 = .ok (.ifCond .eq 12, 3) := by decide +kernel
theorem dX5_third_7 : decode cX5_third 7 = .ok (.iload_n 2, 1) := by decide +kernel
theorem dX5_third_8 : decode cX5_third 8 = .ok (.ifCond .lt 8, 3) := by decide +kernel
theorem dX5_third_11 : decode cX5_third 11 = .ok (.iload_n 2, 1) := by decide +kernel
theorem dX5_third_12 : decode cX5_third 12 = .ok (.iconst 1, 1) := by decide +kernel
theorem dX5_third_13 : decode cX5_third 13 = .ok (.if_icmp .le 7, 3) := by decide +kernel
theorem dX5_third_16 : decode cX5_third 16 = .ok (.ldc2_w 123, 3) := by decide +kernel
theorem dX5_third_19 : decode cX5_third 19 = .ok (.lreturn, 1) := by decide +kernel
theorem dX5_third_20 : decode cX5_third 20 = .ok (.aload_n 0, 1) := by decide +kernel
theorem dX5_third_21 : decode cX5_third 21 = .ok (.getfield 18, 3) := by decide +kernel
theorem dX5_third_24 : decode cX5_third 24 = .ok (.iload_n 1, 1) := by decide +kernel
theorem dX5_third_25 : decode cX5_third 25 = .ok (.aaload, 1) := by decide +kernel
theorem dX5_third_26 : decode cX5_third 26 = .ok (.invokevirtual 172, 3) := by decide +kernel
theorem dX5_third_29 : decode cX5_third 29 = .ok (.istore_n 3, 1) := by decide +kernel
theorem dX5_third_30 : decode cX5_third 30 = .ok (.iload_n 3, 1) := by decide +kernel
theorem dX5_third_31 : decode cX5_third 31 = .ok (.ifCond .ne 7, 3) := by decide +kernel
theorem dX5_third_34 : decode cX5_third 34 = .ok (.ldc2_w 162, 3) := by decide +kernel
theorem dX5_third_37 : decode cX5_third 37 = .ok (.lreturn, 1) := by decide +kernel
theorem dX5_third_38 : decode cX5_third 38 = .ok (.iload_n 3, 1) := by decide +kernel
theorem dX5_third_39 : decode cX5_third 39 = .ok (.iconst 3, 1) := by decide +kernel
theorem dX5_third_40 : decode cX5_third 40 = .ok (.idiv, 1) := by decide +kernel
theorem dX5_third_41 : decode cX5_third 41 = .ok (.iconst 1, 1) := by decide +kernel
theorem dX5_third_42 : decode cX5_third 42 = .ok (.invokestatic 178, 3) := by decide +kernel
theorem dX5_third_45 : decode cX5_third 45 = .ok (.istore 4, 2) := by decide +kernel
theorem dX5_third_47 : decode cX5_third 47 = .ok (.aload_n 0, 1) := by decide +kernel
theorem dX5_third_48 : decode cX5_third 48 = .ok (.getfield 18, 3) := by decide +kernel
theorem dX5_third_51 : decode cX5_third 51 = .ok (.iload_n 1, 1) := by decide +kernel
theorem dX5_third_52 : decode cX5_third 52 = .ok (.aaload, 1) := by decide +kernel
theorem dX5_third_53 : decode cX5_third 53 = .ok (.iload_n 3, 1) := by decide +kernel
theorem dX5_third_54 : decode cX5_third 54 = .ok (.iload 4, 2) := by decide +kernel
theorem dX5_third_56 : decode cX5_third 56 = .ok (.invokevirtual 183, 3) := by decide +kernel
theorem dX5_third_59 : decode cX5_third 59 = .ok (.lstore 5, 2) := by decide +kernel
theorem dX5_third_61 : decode cX5_third 61 = .ok (.lload 5, 2) := by decide +kernel
theorem dX5_third_63 : decode cX5_third 63 = .ok (.iload 4, 2) := by decide +kernel
theorem dX5_third_65 : decode cX5_third 65 = .ok (.invokestatic 186, 3) := by decide +kernel
theorem dX5_third_68 : decode cX5_third 68 = .ok (.istore 7, 2) := by decide +kernel
theorem dX5_third_70 : decode cX5_third 70 = .ok (.iload_n 2, 1) := by decide +kernel
theorem dX5_third_71 : decode cX5_third 71 = .ok (.ifCond .ne 12, 3) := by decide +kernel
theorem dX5_third_74 : decode cX5_third 74 = .ok (.lload 5, 2) := by decide +kernel
theorem dX5_third_76 : decode cX5_third 76 = .ok (.iload 7, 2) := by decide +kernel
theorem dX5_third_78 : decode cX5_third 78 = .ok (.i2l, 1) := by decide +kernel
theorem dX5_third_79 : decode cX5_third 79 = .ok (.ldiv, 1) := by decide +kernel
theorem dX5_third_80 : decode cX5_third 80 = .ok (.goto 9, 3) := by decide +kernel
theorem dX5_third_83 : decode cX5_third 83 = .ok (.iload 4, 2) := by decide +kernel
theorem dX5_third_85 : decode cX5_third 85 = .ok (.iload 7, 2) := by decide +kernel
theorem dX5_third_87 : decode cX5_third 87 = .ok (.idiv, 1) := by decide +kernel
theorem dX5_third_88 : decode cX5_third 88 = .ok (.i2l, 1) := by decide +kernel
theorem dX5_third_89 : decode cX5_third 89 = .ok (.lreturn, 1) := by decide +kernel
theorem dX5_groups_0 : decode cX5_groups 0 = .ok (.iload_n 1, 1) := by decide +kernel
theorem dX5_groups_1 : decode cX5_groups 1 = .ok (.invokestatic 111, 3) := by decide +kernel
theorem dX5_groups_4 : decode cX5_groups 4 = .ok (.ifCond .eq 14, 3) := by decide +kernel
theorem dX5_groups_7 : decode cX5_groups 7 = .ok (.iload 4, 2) := by decide +kernel
theorem dX5_groups_9 : decode cX5_groups 9 = .ok (.ifCond .lt 9, 3) := by decide +kernel
theorem dX5_groups_12 : decode cX5_groups 12 = .ok (.iload 4, 2) := by decide +kernel
theorem dX5_groups_14 : decode cX5_groups 14 = .ok (.iconst 1, 1) := by decide +kernel
theorem dX5_groups_15 : decode cX5_groups 15 = .ok (.if_icmp .le 6, 3) := by decide +kernel
theorem dX5_groups_18 : decode cX5_groups 18 = .ok (.bipush (-2), 2) := by decide +kernel
theorem dX5_groups_20 : decode cX5_groups 20 = .ok (.ireturn, 1) := by decide +kernel
theorem dX5_groups_21 : decode cX5_groups 21 = .ok (.iload 4, 2) := by decide +kernel
theorem dX5_groups_23 : decode cX5_groups 23 = .ok (.ifCond .ne 16, 3) := by decide +kernel
theorem dX5_groups_26 : decode cX5_groups 26 = .ok (.aload_n 0, 1) := by decide +kernel
theorem dX5_groups_27 : decode cX5_groups 27 = .ok (.getfield 18, 3) := by decide +kernel
theorem dX5_groups_30 : decode cX5_groups 30 = .ok (.iload_n 1, 1) := by decide +kernel
theorem dX5_groups_31 : decode cX5_groups 31 = .ok (.aaload, 1) := by decide +kernel
theorem dX5_groups_32 : decode cX5_groups 32 = .ok (.lload_n 2, 1) := by decide +kernel
theorem dX5_groups_33 : decode cX5_groups 33 = .ok (.invokevirtual 190, 3) := by decide +kernel
theorem dX5_groups_36 : decode cX5_groups 36 = .ok (.goto 13, 3) := by decide +kernel
theorem dX5_groups_39 : decode cX5_groups 39 = .ok (.aload_n 0, 1) := by decide +kernel
theorem dX5_groups_40 : decode cX5_groups 40 = .ok (.getfield 18, 3) := by decide +kernel
theorem dX5_groups_43 : decode cX5_groups 43 = .ok (.iload_n 1, 1) := by decide +kernel
theorem dX5_groups_44 : decode cX5_groups 44 = .ok (.aaload, 1) := by decide +kernel
theorem dX5_groups_45 : decode cX5_groups 45 = .ok (.lload_n 2, 1) := by decide +kernel
theorem dX5_groups_46 : decode cX5_groups 46 = .ok (.invokevirtual 194, 3) := by decide +kernel
theorem dX5_groups_49 : decode cX5_groups 49 = .ok (.ireturn, 1) := by decide +kernel
theorem dX5_heading_0 : decode cX5_heading 0 = .ok (.iload_n 1, 1) := by decide +kernel
theorem dX5_heading_1 : decode cX5_heading 1 = .ok (.invokestatic 111, 3) := by decide +kernel
theorem dX5_heading_4 : decode cX5_heading 4 = .ok (.ifCond .eq 30, 3) := by decide +kernel
theorem dX5_heading_7 : decode cX5_heading 7 = .ok (.iload_n 2, 1) := by decide +kernel
theorem dX5_heading_8 : decode cX5_heading 8 = .ok (.invokestatic 111, 3) := by decide +kernel
theorem dX5_heading_11 : decode cX5_heading 11 = .ok (.ifCond .eq 23, 3) := by decide +kernel
theorem dX5_heading_14 : decode cX5_heading 14 = .ok (.iload_n 3, 1) := by decide +kernel
theorem dX5_heading_15 : decode cX5_heading 15 = .ok (.invokestatic 111, 3) := by decide +kernel
theorem dX5_heading_18 : decode cX5_heading 18 = .ok (.ifCond .eq 16, 3) := by decide +kernel
theorem dX5_heading_21 : decode cX5_heading 21 = .ok (.iload 4, 2) := by decide +kernel
theorem dX5_heading_23 : decode cX5_heading 23 = .ok (.iconst 1, 1) := by decide +kernel
theorem dX5_heading_24 : decode cX5_heading 24 = .ok (.if_icmp .lt 10, 3) := by decide +kernel
theorem dX5_heading_27 : decode cX5_heading 27 = .ok (.iload 4, 2) := by decide +kernel
theorem dX5_heading_29 : decode cX5_heading 29 = .ok (.bipush 100, 2) := by decide +kernel
theorem dX5_heading_31 : decode cX5_heading 31 = .ok (.if_icmp .le 6, 3) := by decide +kernel
theorem dX5_heading_34 : decode cX5_heading 34 = .ok (.bipush (-2), 2) := by decide +kernel
theorem dX5_heading_36 : decode cX5_heading 36 = .ok (.ireturn, 1) := by decide +kernel
theorem dX5_heading_37 : decode cX5_heading 37 = .ok (.aload_n 0, 1) := by decide +kernel
theorem dX5_heading_38 : decode cX5_heading 38 = .ok (.getfield 18, 3) := by decide +kernel
theorem dX5_heading_41 : decode cX5_heading 41 = .ok (.iload_n 1, 1) := by decide +kernel
theorem dX5_heading_42 : decode cX5_heading 42 = .ok (.aaload, 1) := by decide +kernel
theorem dX5_heading_43 : decode cX5_heading 43 = .ok (.astore 5, 2) := by decide +kernel
theorem dX5_heading_45 : decode cX5_heading 45 = .ok (.aload_n 0, 1) := by decide +kernel
theorem dX5_heading_46 : decode cX5_heading 46 = .ok (.getfield 18, 3) := by decide +kernel
theorem dX5_heading_49 : decode cX5_heading 49 = .ok (.iload_n 2, 1) := by decide +kernel
theorem dX5_heading_50 : decode cX5_heading 50 = .ok (.aaload, 1) := by decide +kernel
theorem dX5_heading_51 : decode cX5_heading 51 = .ok (.astore 6, 2) := by decide +kernel
theorem dX5_heading_53 : decode cX5_heading 53 = .ok (.aload_n 0, 1) := by decide +kernel
theorem dX5_heading_54 : decode cX5_heading 54 = .ok (.getfield 18, 3) := by decide +kernel
theorem dX5_heading_57 : decode cX5_heading 57 = .ok (.iload_n 3, 1) := by decide +kernel
theorem dX5_heading_58 : decode cX5_heading 58 = .ok (.aaload, 1) := by decide +kernel
theorem dX5_heading_59 : decode cX5_heading 59 = .ok (.astore 7, 2) := by decide +kernel
theorem dX5_heading_61 : decode cX5_heading 61 = .ok (.aload 5, 2) := by decide +kernel
theorem dX5_heading_63 : decode cX5_heading 63 = .ok (.invokevirtual 120, 3) := by decide +kernel
theorem dX5_heading_66 : decode cX5_heading 66 = .ok (.aload 6, 2) := by decide +kernel
theorem dX5_heading_68 : decode cX5_heading 68 = .ok (.invokevirtual 120, 3) := by decide +kernel
theorem dX5_heading_71 : decode cX5_heading 71 = .ok (.if_icmp .ne 16, 3) := by decide +kernel
theorem dX5_heading_74 : decode cX5_heading 74 = .ok (.aload 5, 2) := by decide +kernel
theorem dX5_heading_76 : decode cX5_heading 76 = .ok (.invokevirtual 120, 3) := by decide +kernel
theorem dX5_heading_79 : decode cX5_heading 79 = .ok (.aload 7, 2) := by decide +kernel
theorem dX5_heading_81 : decode cX5_heading 81 = .ok (.invokevirtual 120, 3) := by decide +kernel
theorem dX5_heading_84 : decode cX5_heading 84 = .ok (.if_icmp .eq 6, 3) := by decide +kernel
theorem dX5_heading_87 : decode cX5_heading 87 = .ok (.bipush (-3), 2) := by decide +kernel
theorem dX5_heading_89 : decode cX5_heading 89 = .ok (.ireturn, 1) := by decide +kernel
theorem dX5_heading_90 : decode cX5_heading 90 = .ok (.aload 5, 2) := by decide +kernel
theorem dX5_heading_92 : decode cX5_heading 92 = .ok (.ldc2_w 140, 3) := by decide +kernel
theorem dX5_heading_95 : decode cX5_heading 95 = .ok (.invokevirtual 164, 3) := by decide +kernel
theorem dX5_heading_98 : decode cX5_heading 98 = .ok (.ifCond .ne 25, 3) := by decide +kernel
theorem dX5_heading_101 : decode cX5_heading 101 = .ok (.aload 6, 2) := by decide +kernel
theorem dX5_heading_103 : decode cX5_heading 103 = .ok (.ldc2_w 140, 3) := by decide +kernel
theorem dX5_heading_106 : decode cX5_heading 106 = .ok (.invokevirtual 164, 3) := by decide +kernel
theorem dX5_heading_109 : decode cX5_heading 109 = .ok (.ifCond .ne 14, 3) := by decide +kernel
theorem dX5_heading_112 : decode cX5_heading 112 = .ok (.aload 7, 2) := by decide +kernel
theorem dX5_heading_114 : decode cX5_heading 114 = .ok (.ldc2_w 140, 3) := by decide +kernel
theorem dX5_heading_117 : decode cX5_heading 117 = .ok (.invokevirtual 164, 3) := by decide +kernel
theorem dX5_heading_120 : decode cX5_heading 120 = .ok (.ifCond .eq 6, 3) := by decide +kernel
theorem dX5_heading_123 : decode cX5_heading 123 = .ok (.bipush (-16), 2) := by decide +kernel
theorem dX5_heading_125 : decode cX5_heading 125 = .ok (.ireturn, 1) := by decide +kernel
theorem dX5_heading_126 : decode cX5_heading 126 = .ok (.aload 5, 2) := by decide +kernel
theorem dX5_heading_128 : decode cX5_heading 128 = .ok (.aload 6, 2) := by decide +kernel
theorem dX5_heading_130 : decode cX5_heading 130 = .ok (.invokevirtual 168, 3) := by decide +kernel
theorem dX5_heading_133 : decode cX5_heading 133 = .ok (.lstore 8, 2) := by decide +kernel
theorem dX5_heading_135 : decode cX5_heading 135 = .ok (.aload 5, 2) := by decide +kernel
theorem dX5_heading_137 : decode cX5_heading 137 = .ok (.aload 7, 2) := by decide +kernel
theorem dX5_heading_139 : decode cX5_heading 139 = .ok (.invokevirtual 168, 3) := by decide +kernel
theorem dX5_heading_142 : decode cX5_heading 142 = .ok (.lstore 10, 2) := by decide +kernel
theorem dX5_heading_144 : decode cX5_heading 144 = .ok (.aload 6, 2) := by decide +kernel
theorem dX5_heading_146 : decode cX5_heading 146 = .ok (.aload 6, 2) := by decide +kernel
theorem dX5_heading_148 : decode cX5_heading 148 = .ok (.invokevirtual 168, 3) := by decide +kernel
theorem dX5_heading_151 : decode cX5_heading 151 = .ok (.aload 7, 2) := by decide +kernel
theorem dX5_heading_153 : decode cX5_heading 153 = .ok (.aload 7, 2) := by decide +kernel
theorem dX5_heading_155 : decode cX5_heading 155 = .ok (.invokevirtual 168, 3) := by decide +kernel
theorem dX5_heading_158 : decode cX5_heading 158 = .ok (.ladd, 1) := by decide +kernel
theorem dX5_heading_159 : decode cX5_heading 159 = .ok (.lstore 12, 2) := by decide +kernel
theorem dX5_heading_161 : decode cX5_heading 161 = .ok (.ldc2_w 197, 3) := by decide +kernel
theorem dX5_heading_164 : decode cX5_heading 164 = .ok (.lload 8, 2) := by decide +kernel
theorem dX5_heading_166 : decode cX5_heading 166 = .ok (.lload 8, 2) := by decide +kernel
theorem dX5_heading_168 : decode cX5_heading 168 = .ok (.lmul, 1) := by decide +kernel
theorem dX5_heading_169 : decode cX5_heading 169 = .ok (.lload 10, 2) := by decide +kernel
theorem dX5_heading_171 : decode cX5_heading 171 = .ok (.lload 10, 2) := by decide +kernel
theorem dX5_heading_173 : decode cX5_heading 173 = .ok (.lmul, 1) := by decide +kernel
theorem dX5_heading_174 : decode cX5_heading 174 = .ok (.ladd, 1) := by decide +kernel
theorem dX5_heading_175 : decode cX5_heading 175 = .ok (.lmul, 1) := by decide +kernel
theorem dX5_heading_176 : decode cX5_heading 176 = .ok (.iload 4, 2) := by decide +kernel
theorem dX5_heading_178 : decode cX5_heading 178 = .ok (.i2l, 1) := by decide +kernel
theorem dX5_heading_179 : decode cX5_heading 179 = .ok (.aload 5, 2) := by decide +kernel
theorem dX5_heading_181 : decode cX5_heading 181 = .ok (.aload 5, 2) := by decide +kernel
theorem dX5_heading_183 : decode cX5_heading 183 = .ok (.invokevirtual 168, 3) := by decide +kernel
theorem dX5_heading_186 : decode cX5_heading 186 = .ok (.lmul, 1) := by decide +kernel
theorem dX5_heading_187 : decode cX5_heading 187 = .ok (.lload 12, 2) := by decide +kernel
theorem dX5_heading_189 : decode cX5_heading 189 = .ok (.lmul, 1) := by decide +kernel
theorem dX5_heading_190 : decode cX5_heading 190 = .ok (.lcmp, 1) := by decide +kernel
theorem dX5_heading_191 : decode cX5_heading 191 = .ok (.ifCond .lt 7, 3) := by decide +kernel
theorem dX5_heading_194 : decode cX5_heading 194 = .ok (.iconst 1, 1) := by decide +kernel
theorem dX5_heading_195 : decode cX5_heading 195 = .ok (.goto 4, 3) := by decide +kernel
theorem dX5_heading_198 : decode cX5_heading 198 = .ok (.iconst 0, 1) := by decide +kernel
theorem dX5_heading_199 : decode cX5_heading 199 = .ok (.istore 14, 2) := by decide +kernel
theorem dX5_heading_201 : decode cX5_heading 201 = .ok (.iload 14, 2) := by decide +kernel
theorem dX5_heading_203 : decode cX5_heading 203 = .ok (.ifCond .eq 13, 3) := by decide +kernel
theorem dX5_heading_206 : decode cX5_heading 206 = .ok (.lload 8, 2) := by decide +kernel
theorem dX5_heading_208 : decode cX5_heading 208 = .ok (.lload 10, 2) := by decide +kernel
theorem dX5_heading_210 : decode cX5_heading 210 = .ok (.invokestatic 199, 3) := by decide +kernel
theorem dX5_heading_213 : decode cX5_heading 213 = .ok (.goto 4, 3) := by decide +kernel
theorem dX5_heading_216 : decode cX5_heading 216 = .ok (.iconst (-1), 1) := by decide +kernel
theorem dX5_heading_217 : decode cX5_heading 217 = .ok (.ireturn, 1) := by decide +kernel
theorem dX5_send_0 : decode cX5_send 0 = .ok (.aload_n 0, 1) := by decide +kernel
theorem dX5_send_1 : decode cX5_send 1 = .ok (.iload_n 1, 1) := by decide +kernel
theorem dX5_send_2 : decode cX5_send 2 = .ok (.invokevirtual 52, 3) := by decide +kernel
theorem dX5_send_5 : decode cX5_send 5 = .ok (.istore_n 2, 1) := by decide +kernel
theorem dX5_send_6 : decode cX5_send 6 = .ok (.iload_n 2, 1) := by decide +kernel
theorem dX5_send_7 : decode cX5_send 7 = .ok (.ifCond .eq 5, 3) := by decide +kernel
theorem dX5_send_10 : decode cX5_send 10 = .ok (.iload_n 2, 1) := by decide +kernel
theorem dX5_send_11 : decode cX5_send 11 = .ok (.ireturn, 1) := by decide +kernel
theorem dX5_send_12 : decode cX5_send 12 = .ok (.aload_n 0, 1) := by decide +kernel
theorem dX5_send_13 : decode cX5_send 13 = .ok (.getfield 26, 3) := by decide +kernel
theorem dX5_send_16 : decode cX5_send 16 = .ok (.aload_n 0, 1) := by decide +kernel
theorem dX5_send_17 : decode cX5_send 17 = .ok (.getfield 11, 3) := by decide +kernel
theorem dX5_send_20 : decode cX5_send 20 = .ok (.iload_n 1, 1) := by decide +kernel
theorem dX5_send_21 : decode cX5_send 21 = .ok (.aaload, 1) := by decide +kernel
theorem dX5_send_22 : decode cX5_send 22 = .ok (.invokevirtual 203, 3) := by decide +kernel
theorem dX5_send_25 : decode cX5_send 25 = .ok (.aload_n 0, 1) := by decide +kernel
theorem dX5_send_26 : decode cX5_send 26 = .ok (.getfield 26, 3) := by decide +kernel
theorem dX5_send_29 : decode cX5_send 29 = .ok (.invokevirtual 206, 3) := by decide +kernel
theorem dX5_send_32 : decode cX5_send 32 = .ok (.ireturn, 1) := by decide +kernel
theorem dX5_miss_0 : decode cX5_miss 0 = .ok (.iload_n 1, 1) := by decide +kernel
theorem dX5_miss_1 : decode cX5_miss 1 = .ok (.ifCond .lt 14, 3) := by decide +kernel
theorem dX5_miss_4 : decode cX5_miss 4 = .ok (.iload_n 1, 1) := by decide +kernel
theorem dX5_miss_5 : decode cX5_miss 5 = .ok (.aload_n 0, 1) := by decide +kernel
theorem dX5_miss_6 : decode cX5_miss 6 = .ok (.getfield 26, 3) := by decide +kernel
theorem dX5_miss_9 : decode cX5_miss 9 = .ok (.invokevirtual 206, 3) := by decide +kernel
theorem dX5_miss_12 : decode cX5_miss 12 = .ok (.if_icmp .lt 6, 3) := by decide +kernel
theorem dX5_miss_15 : decode cX5_miss 15 = .ok (.bipush (-2), 2) := by decide +kernel
theorem dX5_miss_17 : decode cX5_miss 17 = .ok (.ireturn, 1) := by decide +kernel
theorem dX5_miss_18 : decode cX5_miss 18 = .ok (.aload_n 0, 1) := by decide +kernel
theorem dX5_miss_19 : decode cX5_miss 19 = .ok (.getfield 26, 3) := by decide +kernel
theorem dX5_miss_22 : decode cX5_miss 22 = .ok (.iload_n 1, 1) := by decide +kernel
theorem dX5_miss_23 : decode cX5_miss 23 = .ok (.invokevirtual 207, 3) := by decide +kernel
theorem dX5_miss_26 : decode cX5_miss 26 = .ok (.ifCond .eq 7, 3) := by decide +kernel
theorem dX5_miss_29 : decode cX5_miss 29 = .ok (.iconst 1, 1) := by decide +kernel
theorem dX5_miss_30 : decode cX5_miss 30 = .ok (.goto 4, 3) := by decide +kernel
theorem dX5_miss_33 : decode cX5_miss 33 = .ok (.iconst 0, 1) := by decide +kernel
theorem dX5_miss_34 : decode cX5_miss 34 = .ok (.ireturn, 1) := by decide +kernel
theorem dX5_receive_0 : decode cX5_receive 0 = .ok (.iload_n 1, 1) := by decide +kernel
theorem dX5_receive_1 : decode cX5_receive 1 = .ok (.invokestatic 44, 3) := by decide +kernel
theorem dX5_receive_4 : decode cX5_receive 4 = .ok (.ifCond .ne 6, 3) := by decide +kernel
theorem dX5_receive_7 : decode cX5_receive 7 = .ok (.bipush (-2), 2) := by decide +kernel
theorem dX5_receive_9 : decode cX5_receive 9 = .ok (.ireturn, 1) := by decide +kernel
theorem dX5_receive_10 : decode cX5_receive 10 = .ok (.aload_n 0, 1) := by decide +kernel
theorem dX5_receive_11 : decode cX5_receive 11 = .ok (.getfield 26, 3) := by decide +kernel
theorem dX5_receive_14 : decode cX5_receive 14 = .ok (.invokevirtual 209, 3) := by decide +kernel
theorem dX5_receive_17 : decode cX5_receive 17 = .ok (.ifCond .ne 6, 3) := by decide +kernel
theorem dX5_receive_20 : decode cX5_receive 20 = .ok (.bipush (-3), 2) := by decide +kernel
theorem dX5_receive_22 : decode cX5_receive 22 = .ok (.ireturn, 1) := by decide +kernel
theorem dX5_receive_23 : decode cX5_receive 23 = .ok (.aload_n 0, 1) := by decide +kernel
theorem dX5_receive_24 : decode cX5_receive 24 = .ok (.getfield 26, 3) := by decide +kernel
theorem dX5_receive_27 : decode cX5_receive 27 = .ok (.aload_n 0, 1) := by decide +kernel
theorem dX5_receive_28 : decode cX5_receive 28 = .ok (.getfield 11, 3) := by decide +kernel
theorem dX5_receive_31 : decode cX5_receive 31 = .ok (.iload_n 1, 1) := by decide +kernel
theorem dX5_receive_32 : decode cX5_receive 32 = .ok (.aaload, 1) := by decide +kernel
theorem dX5_receive_33 : decode cX5_receive 33 = .ok (.invokevirtual 212, 3) := by decide +kernel
theorem dX5_receive_36 : decode cX5_receive 36 = .ok (.aload_n 0, 1) := by decide +kernel
theorem dX5_receive_37 : decode cX5_receive 37 = .ok (.getfield 11, 3) := by decide +kernel
theorem dX5_receive_40 : decode cX5_receive 40 = .ok (.iload_n 1, 1) := by decide +kernel
theorem dX5_receive_41 : decode cX5_receive 41 = .ok (.aaload, 1) := by decide +kernel
theorem dX5_receive_42 : decode cX5_receive 42 = .ok (.invokevirtual 114, 3) := by decide +kernel
theorem dX5_receive_45 : decode cX5_receive 45 = .ok (.ireturn, 1) := by decide +kernel
theorem dX5_rule_0 : decode cX5_rule 0 = .ok (.iload_n 1, 1) := by decide +kernel
theorem dX5_rule_1 : decode cX5_rule 1 = .ok (.iload_n 2, 1) := by decide +kernel
theorem dX5_rule_2 : decode cX5_rule 2 = .ok (.if_icmp .le 14, 3) := by decide +kernel
theorem dX5_rule_5 : decode cX5_rule 5 = .ok (.iload_n 3, 1) := by decide +kernel
theorem dX5_rule_6 : decode cX5_rule 6 = .ok (.ifCond .lt 10, 3) := by decide +kernel
theorem dX5_rule_9 : decode cX5_rule 9 = .ok (.iload_n 3, 1) := by decide +kernel
theorem dX5_rule_10 : decode cX5_rule 10 = .ok (.sipush 1000, 3) := by decide +kernel
theorem dX5_rule_13 : decode cX5_rule 13 = .ok (.if_icmp .le 6, 3) := by decide +kernel
theorem dX5_rule_16 : decode cX5_rule 16 = .ok (.bipush (-2), 2) := by decide +kernel
theorem dX5_rule_18 : decode cX5_rule 18 = .ok (.ireturn, 1) := by decide +kernel
theorem dX5_rule_19 : decode cX5_rule 19 = .ok (.aload_n 0, 1) := by decide +kernel
theorem dX5_rule_20 : decode cX5_rule 20 = .ok (.getfield 33, 3) := by decide +kernel
theorem dX5_rule_23 : decode cX5_rule 23 = .ok (.iload_n 1, 1) := by decide +kernel
theorem dX5_rule_24 : decode cX5_rule 24 = .ok (.iload_n 2, 1) := by decide +kernel
theorem dX5_rule_25 : decode cX5_rule 25 = .ok (.iload_n 3, 1) := by decide +kernel
theorem dX5_rule_26 : decode cX5_rule 26 = .ok (.invokevirtual 215, 3) := by decide +kernel
theorem dX5_rule_29 : decode cX5_rule 29 = .ok (.iconst 1, 1) := by decide +kernel
theorem dX5_rule_30 : decode cX5_rule 30 = .ok (.ireturn, 1) := by decide +kernel
theorem dX5_hear_0 : decode cX5_hear 0 = .ok (.aload_n 0, 1) := by decide +kernel
theorem dX5_hear_1 : decode cX5_hear 1 = .ok (.getfield 33, 3) := by decide +kernel
theorem dX5_hear_4 : decode cX5_hear 4 = .ok (.iload_n 1, 1) := by decide +kernel
theorem dX5_hear_5 : decode cX5_hear 5 = .ok (.invokevirtual 218, 3) := by decide +kernel
theorem dX5_hear_8 : decode cX5_hear 8 = .ok (.aload_n 0, 1) := by decide +kernel
theorem dX5_hear_9 : decode cX5_hear 9 = .ok (.getfield 33, 3) := by decide +kernel
theorem dX5_hear_12 : decode cX5_hear 12 = .ok (.invokevirtual 220, 3) := by decide +kernel
theorem dX5_hear_15 : decode cX5_hear 15 = .ok (.ireturn, 1) := by decide +kernel
theorem dX5_anchor_0 : decode cX5_anchor 0 = .ok (.iload_n 1, 1) := by decide +kernel
theorem dX5_anchor_1 : decode cX5_anchor 1 = .ok (.iload_n 2, 1) := by decide +kernel
theorem dX5_anchor_2 : decode cX5_anchor 2 = .ok (.invokestatic 223, 3) := by decide +kernel
theorem dX5_anchor_5 : decode cX5_anchor 5 = .ok (.ifCond .eq 26, 3) := by decide +kernel
theorem dX5_anchor_8 : decode cX5_anchor 8 = .ok (.iload_n 3, 1) := by decide +kernel
theorem dX5_anchor_9 : decode cX5_anchor 9 = .ok (.ifCond .lt 22, 3) := by decide +kernel
theorem dX5_anchor_12 : decode cX5_anchor 12 = .ok (.iload_n 3, 1) := by decide +kernel
theorem dX5_anchor_13 : decode cX5_anchor 13 = .ok (.ldc 226, 2) := by decide +kernel
theorem dX5_anchor_15 : decode cX5_anchor 15 = .ok (.if_icmp .gt 16, 3) := by decide +kernel
theorem dX5_anchor_18 : decode cX5_anchor 18 = .ok (.iload 4, 2) := by decide +kernel
theorem dX5_anchor_20 : decode cX5_anchor 20 = .ok (.iconst 1, 1) := by decide +kernel
theorem dX5_anchor_21 : decode cX5_anchor 21 = .ok (.if_icmp .lt 10, 3) := by decide +kernel
theorem dX5_anchor_24 : decode cX5_anchor 24 = .ok (.iload 4, 2) := by decide +kernel
theorem dX5_anchor_26 : decode cX5_anchor 26 = .ok (.bipush 100, 2) := by decide +kernel
theorem dX5_anchor_28 : decode cX5_anchor 28 = .ok (.if_icmp .le 6, 3) := by decide +kernel
theorem dX5_anchor_31 : decode cX5_anchor 31 = .ok (.bipush (-2), 2) := by decide +kernel
theorem dX5_anchor_33 : decode cX5_anchor 33 = .ok (.ireturn, 1) := by decide +kernel
theorem dX5_anchor_34 : decode cX5_anchor 34 = .ok (.aload_n 0, 1) := by decide +kernel
theorem dX5_anchor_35 : decode cX5_anchor 35 = .ok (.getfield 40, 3) := by decide +kernel
theorem dX5_anchor_38 : decode cX5_anchor 38 = .ok (.iload_n 1, 1) := by decide +kernel
theorem dX5_anchor_39 : decode cX5_anchor 39 = .ok (.iload_n 2, 1) := by decide +kernel
theorem dX5_anchor_40 : decode cX5_anchor 40 = .ok (.iload_n 3, 1) := by decide +kernel
theorem dX5_anchor_41 : decode cX5_anchor 41 = .ok (.iload 4, 2) := by decide +kernel
theorem dX5_anchor_43 : decode cX5_anchor 43 = .ok (.invokevirtual 227, 3) := by decide +kernel
theorem dX5_anchor_46 : decode cX5_anchor 46 = .ok (.iconst 1, 1) := by decide +kernel
theorem dX5_anchor_47 : decode cX5_anchor 47 = .ok (.ireturn, 1) := by decide +kernel
theorem dX5_fix_0 : decode cX5_fix 0 = .ok (.iload_n 1, 1) := by decide +kernel
theorem dX5_fix_1 : decode cX5_fix 1 = .ok (.iload_n 2, 1) := by decide +kernel
theorem dX5_fix_2 : decode cX5_fix 2 = .ok (.invokestatic 223, 3) := by decide +kernel
theorem dX5_fix_5 : decode cX5_fix 5 = .ok (.ifCond .ne 6, 3) := by decide +kernel
theorem dX5_fix_8 : decode cX5_fix 8 = .ok (.bipush (-2), 2) := by decide +kernel
theorem dX5_fix_10 : decode cX5_fix 10 = .ok (.ireturn, 1) := by decide +kernel
theorem dX5_fix_11 : decode cX5_fix 11 = .ok (.aload_n 0, 1) := by decide +kernel
theorem dX5_fix_12 : decode cX5_fix 12 = .ok (.getfield 40, 3) := by decide +kernel
theorem dX5_fix_15 : decode cX5_fix 15 = .ok (.iload_n 1, 1) := by decide +kernel
theorem dX5_fix_16 : decode cX5_fix 16 = .ok (.iload_n 2, 1) := by decide +kernel
theorem dX5_fix_17 : decode cX5_fix 17 = .ok (.invokevirtual 230, 3) := by decide +kernel
theorem dX5_fix_20 : decode cX5_fix 20 = .ok (.aload_n 0, 1) := by decide +kernel
theorem dX5_fix_21 : decode cX5_fix 21 = .ok (.getfield 40, 3) := by decide +kernel
theorem dX5_fix_24 : decode cX5_fix 24 = .ok (.invokevirtual 232, 3) := by decide +kernel
theorem dX5_fix_27 : decode cX5_fix 27 = .ok (.ireturn, 1) := by decide +kernel
theorem dX5_count_0 : decode cX5_count 0 = .ok (.iload_n 1, 1) := by decide +kernel
theorem dX5_count_1 : decode cX5_count 1 = .ok (.tableswitch 132 0 9 #[55, 60, 68, 76, 84, 92, 100, 108, 116, 124], 55) := by decide +kernel
theorem dX5_count_56 : decode cX5_count 56 = .ok (.aload_n 0, 1) := by decide +kernel
theorem dX5_count_57 : decode cX5_count 57 = .ok (.invokevirtual 233, 3) := by decide +kernel
theorem dX5_count_60 : decode cX5_count 60 = .ok (.ireturn, 1) := by decide +kernel
theorem dX5_count_61 : decode cX5_count 61 = .ok (.aload_n 0, 1) := by decide +kernel
theorem dX5_count_62 : decode cX5_count 62 = .ok (.getfield 26, 3) := by decide +kernel
theorem dX5_count_65 : decode cX5_count 65 = .ok (.invokevirtual 206, 3) := by decide +kernel
theorem dX5_count_68 : decode cX5_count 68 = .ok (.ireturn, 1) := by decide +kernel
theorem dX5_count_69 : decode cX5_count 69 = .ok (.aload_n 0, 1) := by decide +kernel
theorem dX5_count_70 : decode cX5_count 70 = .ok (.getfield 26, 3) := by decide +kernel
theorem dX5_count_73 : decode cX5_count 73 = .ok (.invokevirtual 236, 3) := by decide +kernel
theorem dX5_count_76 : decode cX5_count 76 = .ok (.ireturn, 1) := by decide +kernel
theorem dX5_count_77 : decode cX5_count 77 = .ok (.aload_n 0, 1) := by decide +kernel
theorem dX5_count_78 : decode cX5_count 78 = .ok (.getfield 33, 3) := by decide +kernel
theorem dX5_count_81 : decode cX5_count 81 = .ok (.invokevirtual 239, 3) := by decide +kernel
theorem dX5_count_84 : decode cX5_count 84 = .ok (.ireturn, 1) := by decide +kernel
theorem dX5_count_85 : decode cX5_count 85 = .ok (.aload_n 0, 1) := by decide +kernel
theorem dX5_count_86 : decode cX5_count 86 = .ok (.getfield 33, 3) := by decide +kernel
theorem dX5_count_89 : decode cX5_count 89 = .ok (.invokevirtual 242, 3) := by decide +kernel
theorem dX5_count_92 : decode cX5_count 92 = .ok (.ireturn, 1) := by decide +kernel
theorem dX5_count_93 : decode cX5_count 93 = .ok (.aload_n 0, 1) := by decide +kernel
theorem dX5_count_94 : decode cX5_count 94 = .ok (.getfield 33, 3) := by decide +kernel
theorem dX5_count_97 : decode cX5_count 97 = .ok (.invokevirtual 220, 3) := by decide +kernel
theorem dX5_count_100 : decode cX5_count 100 = .ok (.ireturn, 1) := by decide +kernel
theorem dX5_count_101 : decode cX5_count 101 = .ok (.aload_n 0, 1) := by decide +kernel
theorem dX5_count_102 : decode cX5_count 102 = .ok (.getfield 40, 3) := by decide +kernel
theorem dX5_count_105 : decode cX5_count 105 = .ok (.invokevirtual 245, 3) := by decide +kernel
theorem dX5_count_108 : decode cX5_count 108 = .ok (.ireturn, 1) := by decide +kernel
theorem dX5_count_109 : decode cX5_count 109 = .ok (.aload_n 0, 1) := by decide +kernel
theorem dX5_count_110 : decode cX5_count 110 = .ok (.getfield 40, 3) := by decide +kernel
theorem dX5_count_113 : decode cX5_count 113 = .ok (.invokevirtual 248, 3) := by decide +kernel
theorem dX5_count_116 : decode cX5_count 116 = .ok (.ireturn, 1) := by decide +kernel
theorem dX5_count_117 : decode cX5_count 117 = .ok (.aload_n 0, 1) := by decide +kernel
theorem dX5_count_118 : decode cX5_count 118 = .ok (.getfield 40, 3) := by decide +kernel
theorem dX5_count_121 : decode cX5_count 121 = .ok (.invokevirtual 251, 3) := by decide +kernel
theorem dX5_count_124 : decode cX5_count 124 = .ok (.ireturn, 1) := by decide +kernel
theorem dX5_count_125 : decode cX5_count 125 = .ok (.aload_n 0, 1) := by decide +kernel
theorem dX5_count_126 : decode cX5_count 126 = .ok (.getfield 40, 3) := by decide +kernel
theorem dX5_count_129 : decode cX5_count 129 = .ok (.invokevirtual 254, 3) := by decide +kernel
theorem dX5_count_132 : decode cX5_count 132 = .ok (.ireturn, 1) := by decide +kernel
theorem dX5_count_133 : decode cX5_count 133 = .ok (.bipush (-2), 2) := by decide +kernel
theorem dX5_count_135 : decode cX5_count 135 = .ok (.ireturn, 1) := by decide +kernel
theorem dX5_digest_0 : decode cX5_digest 0 = .ok (.ldc2_w 257, 3) := by decide +kernel
theorem dX5_digest_3 : decode cX5_digest 3 = .ok (.lstore_n 1, 1) := by decide +kernel
theorem dX5_digest_4 : decode cX5_digest 4 = .ok (.iconst 0, 1) := by decide +kernel
theorem dX5_digest_5 : decode cX5_digest 5 = .ok (.istore_n 3, 1) := by decide +kernel
theorem dX5_digest_6 : decode cX5_digest 6 = .ok (.iload_n 3, 1) := by decide +kernel
theorem dX5_digest_7 : decode cX5_digest 7 = .ok (.bipush 10, 2) := by decide +kernel
theorem dX5_digest_9 : decode cX5_digest 9 = .ok (.if_icmp .ge 22, 3) := by decide +kernel
theorem dX5_digest_12 : decode cX5_digest 12 = .ok (.ldc2_w 259, 3) := by decide +kernel
theorem dX5_digest_15 : decode cX5_digest 15 = .ok (.lload_n 1, 1) := by decide +kernel
theorem dX5_digest_16 : decode cX5_digest 16 = .ok (.lmul, 1) := by decide +kernel
theorem dX5_digest_17 : decode cX5_digest 17 = .ok (.aload_n 0, 1) := by decide +kernel
theorem dX5_digest_18 : decode cX5_digest 18 = .ok (.iload_n 3, 1) := by decide +kernel
theorem dX5_digest_19 : decode cX5_digest 19 = .ok (.invokevirtual 261, 3) := by decide +kernel
theorem dX5_digest_22 : decode cX5_digest 22 = .ok (.i2l, 1) := by decide +kernel
theorem dX5_digest_23 : decode cX5_digest 23 = .ok (.ladd, 1) := by decide +kernel
theorem dX5_digest_24 : decode cX5_digest 24 = .ok (.lstore_n 1, 1) := by decide +kernel
theorem dX5_digest_25 : decode cX5_digest 25 = .ok (.iinc 3 1, 3) := by decide +kernel
theorem dX5_digest_28 : decode cX5_digest 28 = .ok (.goto (-22), 3) := by decide +kernel
theorem dX5_digest_31 : decode cX5_digest 31 = .ok (.iconst 0, 1) := by decide +kernel
theorem dX5_digest_32 : decode cX5_digest 32 = .ok (.istore_n 3, 1) := by decide +kernel
theorem dX5_digest_33 : decode cX5_digest 33 = .ok (.iload_n 3, 1) := by decide +kernel
theorem dX5_digest_34 : decode cX5_digest 34 = .ok (.bipush 8, 2) := by decide +kernel
theorem dX5_digest_36 : decode cX5_digest 36 = .ok (.if_icmp .ge 39, 3) := by decide +kernel
theorem dX5_digest_39 : decode cX5_digest 39 = .ok (.aload_n 0, 1) := by decide +kernel
theorem dX5_digest_40 : decode cX5_digest 40 = .ok (.getfield 11, 3) := by decide +kernel
theorem dX5_digest_43 : decode cX5_digest 43 = .ok (.iload_n 3, 1) := by decide +kernel
theorem dX5_digest_44 : decode cX5_digest 44 = .ok (.aaload, 1) := by decide +kernel
theorem dX5_digest_45 : decode cX5_digest 45 = .ok (.invokevirtual 87, 3) := by decide +kernel
theorem dX5_digest_48 : decode cX5_digest 48 = .ok (.ifCond .eq 21, 3) := by decide +kernel
theorem dX5_digest_51 : decode cX5_digest 51 = .ok (.aload_n 0, 1) := by decide +kernel
theorem dX5_digest_52 : decode cX5_digest 52 = .ok (.getfield 11, 3) := by decide +kernel
theorem dX5_digest_55 : decode cX5_digest 55 = .ok (.iload_n 3, 1) := by decide +kernel
theorem dX5_digest_56 : decode cX5_digest 56 = .ok (.aaload, 1) := by decide +kernel
theorem dX5_digest_57 : decode cX5_digest 57 = .ok (.ldc2_w 259, 3) := by decide +kernel
theorem dX5_digest_60 : decode cX5_digest 60 = .ok (.lload_n 1, 1) := by decide +kernel
theorem dX5_digest_61 : decode cX5_digest 61 = .ok (.lmul, 1) := by decide +kernel
theorem dX5_digest_62 : decode cX5_digest 62 = .ok (.iload_n 3, 1) := by decide +kernel
theorem dX5_digest_63 : decode cX5_digest 63 = .ok (.i2l, 1) := by decide +kernel
theorem dX5_digest_64 : decode cX5_digest 64 = .ok (.ladd, 1) := by decide +kernel
theorem dX5_digest_65 : decode cX5_digest 65 = .ok (.invokevirtual 264, 3) := by decide +kernel
theorem dX5_digest_68 : decode cX5_digest 68 = .ok (.lstore_n 1, 1) := by decide +kernel
theorem dX5_digest_69 : decode cX5_digest 69 = .ok (.iinc 3 1, 3) := by decide +kernel
theorem dX5_digest_72 : decode cX5_digest 72 = .ok (.goto (-39), 3) := by decide +kernel
theorem dX5_digest_75 : decode cX5_digest 75 = .ok (.iconst 0, 1) := by decide +kernel
theorem dX5_digest_76 : decode cX5_digest 76 = .ok (.istore_n 3, 1) := by decide +kernel
theorem dX5_digest_77 : decode cX5_digest 77 = .ok (.iload_n 3, 1) := by decide +kernel
theorem dX5_digest_78 : decode cX5_digest 78 = .ok (.bipush 6, 2) := by decide +kernel
theorem dX5_digest_80 : decode cX5_digest 80 = .ok (.if_icmp .ge 20, 3) := by decide +kernel
theorem dX5_digest_83 : decode cX5_digest 83 = .ok (.aload_n 0, 1) := by decide +kernel
theorem dX5_digest_84 : decode cX5_digest 84 = .ok (.getfield 18, 3) := by decide +kernel
theorem dX5_digest_87 : decode cX5_digest 87 = .ok (.iload_n 3, 1) := by decide +kernel
theorem dX5_digest_88 : decode cX5_digest 88 = .ok (.aaload, 1) := by decide +kernel
theorem dX5_digest_89 : decode cX5_digest 89 = .ok (.lload_n 1, 1) := by decide +kernel
theorem dX5_digest_90 : decode cX5_digest 90 = .ok (.invokevirtual 268, 3) := by decide +kernel
theorem dX5_digest_93 : decode cX5_digest 93 = .ok (.lstore_n 1, 1) := by decide +kernel
theorem dX5_digest_94 : decode cX5_digest 94 = .ok (.iinc 3 1, 3) := by decide +kernel
theorem dX5_digest_97 : decode cX5_digest 97 = .ok (.goto (-20), 3) := by decide +kernel
theorem dX5_digest_100 : decode cX5_digest 100 = .ok (.lload_n 1, 1) := by decide +kernel
theorem dX5_digest_101 : decode cX5_digest 101 = .ok (.lreturn, 1) := by decide +kernel
theorem dX5_isSheet_0 : decode cX5_isSheet 0 = .ok (.iload_n 0, 1) := by decide +kernel
theorem dX5_isSheet_1 : decode cX5_isSheet 1 = .ok (.ifCond .lt 13, 3) := by decide +kernel
theorem dX5_isSheet_4 : decode cX5_isSheet 4 = .ok (.iload_n 0, 1) := by decide +kernel
theorem dX5_isSheet_5 : decode cX5_isSheet 5 = .ok (.bipush 8, 2) := by decide +kernel
theorem dX5_isSheet_7 : decode cX5_isSheet 7 = .ok (.if_icmp .ge 7, 3) := by decide +kernel
theorem dX5_isSheet_10 : decode cX5_isSheet 10 = .ok (.iconst 1, 1) := by decide +kernel
theorem dX5_isSheet_11 : decode cX5_isSheet 11 = .ok (.goto 4, 3) := by decide +kernel
theorem dX5_isSheet_14 : decode cX5_isSheet 14 = .ok (.iconst 0, 1) := by decide +kernel
theorem dX5_isSheet_15 : decode cX5_isSheet 15 = .ok (.ireturn, 1) := by decide +kernel
theorem dX5_isRow_0 : decode cX5_isRow 0 = .ok (.iload_n 0, 1) := by decide +kernel
theorem dX5_isRow_1 : decode cX5_isRow 1 = .ok (.ifCond .lt 13, 3) := by decide +kernel
theorem dX5_isRow_4 : decode cX5_isRow 4 = .ok (.iload_n 0, 1) := by decide +kernel
theorem dX5_isRow_5 : decode cX5_isRow 5 = .ok (.bipush 6, 2) := by decide +kernel
theorem dX5_isRow_7 : decode cX5_isRow 7 = .ok (.if_icmp .ge 7, 3) := by decide +kernel
theorem dX5_isRow_10 : decode cX5_isRow 10 = .ok (.iconst 1, 1) := by decide +kernel
theorem dX5_isRow_11 : decode cX5_isRow 11 = .ok (.goto 4, 3) := by decide +kernel
theorem dX5_isRow_14 : decode cX5_isRow 14 = .ok (.iconst 0, 1) := by decide +kernel
theorem dX5_isRow_15 : decode cX5_isRow 15 = .ok (.ireturn, 1) := by decide +kernel
theorem dX5_isStretch_0 : decode cX5_isStretch 0 = .ok (.iload_n 0, 1) := by decide +kernel
theorem dX5_isStretch_1 : decode cX5_isStretch 1 = .ok (.invokestatic 111, 3) := by decide +kernel
theorem dX5_isStretch_4 : decode cX5_isStretch 4 = .ok (.ifCond .eq 16, 3) := by decide +kernel
theorem dX5_isStretch_7 : decode cX5_isStretch 7 = .ok (.iload_n 1, 1) := by decide +kernel
theorem dX5_isStretch_8 : decode cX5_isStretch 8 = .ok (.ifCond .lt 12, 3) := by decide +kernel
theorem dX5_isStretch_11 : decode cX5_isStretch 11 = .ok (.iload_n 2, 1) := by decide +kernel
theorem dX5_isStretch_12 : decode cX5_isStretch 12 = .ok (.iload_n 1, 1) := by decide +kernel
theorem dX5_isStretch_13 : decode cX5_isStretch 13 = .ok (.if_icmp .lt 7, 3) := by decide +kernel
theorem dX5_isStretch_16 : decode cX5_isStretch 16 = .ok (.iconst 1, 1) := by decide +kernel
theorem dX5_isStretch_17 : decode cX5_isStretch 17 = .ok (.goto 4, 3) := by decide +kernel
theorem dX5_isStretch_20 : decode cX5_isStretch 20 = .ok (.iconst 0, 1) := by decide +kernel
theorem dX5_isStretch_21 : decode cX5_isStretch 21 = .ok (.ireturn, 1) := by decide +kernel
theorem dX5_isWithin_0 : decode cX5_isWithin 0 = .ok (.lload_n 0, 1) := by decide +kernel
theorem dX5_isWithin_1 : decode cX5_isWithin 1 = .ok (.lload_n 2, 1) := by decide +kernel
theorem dX5_isWithin_2 : decode cX5_isWithin 2 = .ok (.lneg, 1) := by decide +kernel
theorem dX5_isWithin_3 : decode cX5_isWithin 3 = .ok (.lcmp, 1) := by decide +kernel
theorem dX5_isWithin_4 : decode cX5_isWithin 4 = .ok (.ifCond .lt 13, 3) := by decide +kernel
theorem dX5_isWithin_7 : decode cX5_isWithin 7 = .ok (.lload_n 0, 1) := by decide +kernel
theorem dX5_isWithin_8 : decode cX5_isWithin 8 = .ok (.lload_n 2, 1) := by decide +kernel
theorem dX5_isWithin_9 : decode cX5_isWithin 9 = .ok (.lcmp, 1) := by decide +kernel
theorem dX5_isWithin_10 : decode cX5_isWithin 10 = .ok (.ifCond .gt 7, 3) := by decide +kernel
theorem dX5_isWithin_13 : decode cX5_isWithin 13 = .ok (.iconst 1, 1) := by decide +kernel
theorem dX5_isWithin_14 : decode cX5_isWithin 14 = .ok (.goto 4, 3) := by decide +kernel
theorem dX5_isWithin_17 : decode cX5_isWithin 17 = .ok (.iconst 0, 1) := by decide +kernel
theorem dX5_isWithin_18 : decode cX5_isWithin 18 = .ok (.ireturn, 1) := by decide +kernel
theorem dX5_isPlace_0 : decode cX5_isPlace 0 = .ok (.iload_n 0, 1) := by decide +kernel
theorem dX5_isPlace_1 : decode cX5_isPlace 1 = .ok (.i2l, 1) := by decide +kernel
theorem dX5_isPlace_2 : decode cX5_isPlace 2 = .ok (.ldc2_w 269, 3) := by decide +kernel
theorem dX5_isPlace_5 : decode cX5_isPlace 5 = .ok (.invokestatic 142, 3) := by decide +kernel
theorem dX5_isPlace_8 : decode cX5_isPlace 8 = .ok (.ifCond .eq 18, 3) := by decide +kernel
theorem dX5_isPlace_11 : decode cX5_isPlace 11 = .ok (.iload_n 1, 1) := by decide +kernel
theorem dX5_isPlace_12 : decode cX5_isPlace 12 = .ok (.i2l, 1) := by decide +kernel
theorem dX5_isPlace_13 : decode cX5_isPlace 13 = .ok (.ldc2_w 269, 3) := by decide +kernel
theorem dX5_isPlace_16 : decode cX5_isPlace 16 = .ok (.invokestatic 142, 3) := by decide +kernel
theorem dX5_isPlace_19 : decode cX5_isPlace 19 = .ok (.ifCond .eq 7, 3) := by decide +kernel
theorem dX5_isPlace_22 : decode cX5_isPlace 22 = .ok (.iconst 1, 1) := by decide +kernel
theorem dX5_isPlace_23 : decode cX5_isPlace 23 = .ok (.goto 4, 3) := by decide +kernel
theorem dX5_isPlace_26 : decode cX5_isPlace 26 = .ok (.iconst 0, 1) := by decide +kernel
theorem dX5_isPlace_27 : decode cX5_isPlace 27 = .ok (.ireturn, 1) := by decide +kernel
theorem dX5_sheetFailure_0 : decode cX5_sheetFailure 0 = .ok (.iload_n 1, 1) := by decide +kernel
theorem dX5_sheetFailure_1 : decode cX5_sheetFailure 1 = .ok (.invokestatic 44, 3) := by decide +kernel
theorem dX5_sheetFailure_4 : decode cX5_sheetFailure 4 = .ok (.ifCond .ne 6, 3) := by decide +kernel
theorem dX5_sheetFailure_7 : decode cX5_sheetFailure 7 = .ok (.bipush (-2), 2) := by decide +kernel
theorem dX5_sheetFailure_9 : decode cX5_sheetFailure 9 = .ok (.ireturn, 1) := by decide +kernel
theorem dX5_sheetFailure_10 : decode cX5_sheetFailure 10 = .ok (.aload_n 0, 1) := by decide +kernel
theorem dX5_sheetFailure_11 : decode cX5_sheetFailure 11 = .ok (.getfield 11, 3) := by decide +kernel
theorem dX5_sheetFailure_14 : decode cX5_sheetFailure 14 = .ok (.iload_n 1, 1) := by decide +kernel
theorem dX5_sheetFailure_15 : decode cX5_sheetFailure 15 = .ok (.aaload, 1) := by decide +kernel
theorem dX5_sheetFailure_16 : decode cX5_sheetFailure 16 = .ok (.invokevirtual 87, 3) := by decide +kernel
theorem dX5_sheetFailure_19 : decode cX5_sheetFailure 19 = .ok (.ifCond .eq 7, 3) := by decide +kernel
theorem dX5_sheetFailure_22 : decode cX5_sheetFailure 22 = .ok (.iconst 0, 1) := by decide +kernel
theorem dX5_sheetFailure_23 : decode cX5_sheetFailure 23 = .ok (.goto 5, 3) := by decide +kernel
theorem dX5_sheetFailure_26 : decode cX5_sheetFailure 26 = .ok (.bipush (-10), 2) := by decide +kernel
theorem dX5_sheetFailure_28 : decode cX5_sheetFailure 28 = .ok (.ireturn, 1) := by decide +kernel
theorem dX5_sampleFailure_0 : decode cX5_sampleFailure 0 = .ok (.aload_n 0, 1) := by decide +kernel
theorem dX5_sampleFailure_1 : decode cX5_sampleFailure 1 = .ok (.iload_n 1, 1) := by decide +kernel
theorem dX5_sampleFailure_2 : decode cX5_sampleFailure 2 = .ok (.invokevirtual 52, 3) := by decide +kernel
theorem dX5_sampleFailure_5 : decode cX5_sampleFailure 5 = .ok (.istore_n 3, 1) := by decide +kernel
theorem dX5_sampleFailure_6 : decode cX5_sampleFailure 6 = .ok (.iload_n 3, 1) := by decide +kernel
theorem dX5_sampleFailure_7 : decode cX5_sampleFailure 7 = .ok (.ifCond .eq 5, 3) := by decide +kernel
theorem dX5_sampleFailure_10 : decode cX5_sampleFailure 10 = .ok (.iload_n 3, 1) := by decide +kernel
theorem dX5_sampleFailure_11 : decode cX5_sampleFailure 11 = .ok (.ireturn, 1) := by decide +kernel
theorem dX5_sampleFailure_12 : decode cX5_sampleFailure 12 = .ok (.aload_n 0, 1) := by decide +kernel
theorem dX5_sampleFailure_13 : decode cX5_sampleFailure 13 = .ok (.getfield 11, 3) := by decide +kernel
theorem dX5_sampleFailure_16 : decode cX5_sampleFailure 16 = .ok (.iload_n 1, 1) := by decide +kernel
theorem dX5_sampleFailure_17 : decode cX5_sampleFailure 17 = .ok (.aaload, 1) := by decide +kernel
theorem dX5_sampleFailure_18 : decode cX5_sampleFailure 18 = .ok (.iload_n 2, 1) := by decide +kernel
theorem dX5_sampleFailure_19 : decode cX5_sampleFailure 19 = .ok (.invokevirtual 271, 3) := by decide +kernel
theorem dX5_sampleFailure_22 : decode cX5_sampleFailure 22 = .ok (.ifCond .eq 7, 3) := by decide +kernel
theorem dX5_sampleFailure_25 : decode cX5_sampleFailure 25 = .ok (.iconst 0, 1) := by decide +kernel
theorem dX5_sampleFailure_26 : decode cX5_sampleFailure 26 = .ok (.goto 5, 3) := by decide +kernel
theorem dX5_sampleFailure_29 : decode cX5_sampleFailure 29 = .ok (.bipush (-13), 2) := by decide +kernel
theorem dX5_sampleFailure_31 : decode cX5_sampleFailure 31 = .ok (.ireturn, 1) := by decide +kernel
theorem dX5_sheetsThere_0 : decode cX5_sheetsThere 0 = .ok (.iconst 0, 1) := by decide +kernel
theorem dX5_sheetsThere_1 : decode cX5_sheetsThere 1 = .ok (.istore_n 1, 1) := by decide +kernel
theorem dX5_sheetsThere_2 : decode cX5_sheetsThere 2 = .ok (.iconst 0, 1) := by decide +kernel
theorem dX5_sheetsThere_3 : decode cX5_sheetsThere 3 = .ok (.istore_n 2, 1) := by decide +kernel
theorem dX5_sheetsThere_4 : decode cX5_sheetsThere 4 = .ok (.iload_n 2, 1) := by decide +kernel
theorem dX5_sheetsThere_5 : decode cX5_sheetsThere 5 = .ok (.bipush 8, 2) := by decide +kernel
theorem dX5_sheetsThere_7 : decode cX5_sheetsThere 7 = .ok (.if_icmp .ge 24, 3) := by decide +kernel
theorem dX5_sheetsThere_10 : decode cX5_sheetsThere 10 = .ok (.aload_n 0, 1) := by decide +kernel
theorem dX5_sheetsThere_11 : decode cX5_sheetsThere 11 = .ok (.getfield 11, 3) := by decide +kernel
theorem dX5_sheetsThere_14 : decode cX5_sheetsThere 14 = .ok (.iload_n 2, 1) := by decide +kernel
theorem dX5_sheetsThere_15 : decode cX5_sheetsThere 15 = .ok (.aaload, 1) := by decide +kernel
theorem dX5_sheetsThere_16 : decode cX5_sheetsThere 16 = .ok (.invokevirtual 87, 3) := by decide +kernel
theorem dX5_sheetsThere_19 : decode cX5_sheetsThere 19 = .ok (.ifCond .eq 6, 3) := by decide +kernel
theorem dX5_sheetsThere_22 : decode cX5_sheetsThere 22 = .ok (.iinc 1 1, 3) := by decide +kernel
theorem dX5_sheetsThere_25 : decode cX5_sheetsThere 25 = .ok (.iinc 2 1, 3) := by decide +kernel
theorem dX5_sheetsThere_28 : decode cX5_sheetsThere 28 = .ok (.goto (-24), 3) := by decide +kernel
theorem dX5_sheetsThere_31 : decode cX5_sheetsThere 31 = .ok (.iload_n 1, 1) := by decide +kernel
theorem dX5_sheetsThere_32 : decode cX5_sheetsThere 32 = .ok (.ireturn, 1) := by decide +kernel
theorem dX5_commonDivisor_0 : decode cX5_commonDivisor 0 = .ok (.iload_n 2, 1) := by decide +kernel
theorem dX5_commonDivisor_1 : decode cX5_commonDivisor 1 = .ok (.istore_n 3, 1) := by decide +kernel
theorem dX5_commonDivisor_2 : decode cX5_commonDivisor 2 = .ok (.iload_n 3, 1) := by decide +kernel
theorem dX5_commonDivisor_3 : decode cX5_commonDivisor 3 = .ok (.iconst 1, 1) := by decide +kernel
theorem dX5_commonDivisor_4 : decode cX5_commonDivisor 4 = .ok (.if_icmp .le 26, 3) := by decide +kernel
theorem dX5_commonDivisor_7 : decode cX5_commonDivisor 7 = .ok (.iload_n 2, 1) := by decide +kernel
theorem dX5_commonDivisor_8 : decode cX5_commonDivisor 8 = .ok (.iload_n 3, 1) := by decide +kernel
theorem dX5_commonDivisor_9 : decode cX5_commonDivisor 9 = .ok (.irem, 1) := by decide +kernel
theorem dX5_commonDivisor_10 : decode cX5_commonDivisor 10 = .ok (.ifCond .ne 14, 3) := by decide +kernel
theorem dX5_commonDivisor_13 : decode cX5_commonDivisor 13 = .ok (.lload_n 0, 1) := by decide +kernel
theorem dX5_commonDivisor_14 : decode cX5_commonDivisor 14 = .ok (.iload_n 3, 1) := by decide +kernel
theorem dX5_commonDivisor_15 : decode cX5_commonDivisor 15 = .ok (.i2l, 1) := by decide +kernel
theorem dX5_commonDivisor_16 : decode cX5_commonDivisor 16 = .ok (.lrem, 1) := by decide +kernel
theorem dX5_commonDivisor_17 : decode cX5_commonDivisor 17 = .ok (.lconst 0, 1) := by decide +kernel
theorem dX5_commonDivisor_18 : decode cX5_commonDivisor 18 = .ok (.lcmp, 1) := by decide +kernel
theorem dX5_commonDivisor_19 : decode cX5_commonDivisor 19 = .ok (.ifCond .ne 5, 3) := by decide +kernel
theorem dX5_commonDivisor_22 : decode cX5_commonDivisor 22 = .ok (.iload_n 3, 1) := by decide +kernel
theorem dX5_commonDivisor_23 : decode cX5_commonDivisor 23 = .ok (.ireturn, 1) := by decide +kernel
theorem dX5_commonDivisor_24 : decode cX5_commonDivisor 24 = .ok (.iinc 3 (-1), 3) := by decide +kernel
theorem dX5_commonDivisor_27 : decode cX5_commonDivisor 27 = .ok (.goto (-25), 3) := by decide +kernel
theorem dX5_commonDivisor_30 : decode cX5_commonDivisor 30 = .ok (.iconst 1, 1) := by decide +kernel
theorem dX5_commonDivisor_31 : decode cX5_commonDivisor 31 = .ok (.ireturn, 1) := by decide +kernel
theorem dX5_eighth_0 : decode cX5_eighth 0 = .ok (.lload_n 0, 1) := by decide +kernel
theorem dX5_eighth_1 : decode cX5_eighth 1 = .ok (.lload_n 2, 1) := by decide +kernel
theorem dX5_eighth_2 : decode cX5_eighth 2 = .ok (.lcmp, 1) := by decide +kernel
theorem dX5_eighth_3 : decode cX5_eighth 3 = .ok (.ifCond .le 11, 3) := by decide +kernel
theorem dX5_eighth_6 : decode cX5_eighth 6 = .ok (.lload_n 2, 1) := by decide +kernel
theorem dX5_eighth_7 : decode cX5_eighth 7 = .ok (.lconst 0, 1) := by decide +kernel
theorem dX5_eighth_8 : decode cX5_eighth 8 = .ok (.lcmp, 1) := by decide +kernel
theorem dX5_eighth_9 : decode cX5_eighth 9 = .ok (.ifCond .lt 5, 3) := by decide +kernel
theorem dX5_eighth_12 : decode cX5_eighth 12 = .ok (.iconst 0, 1) := by decide +kernel
theorem dX5_eighth_13 : decode cX5_eighth 13 = .ok (.ireturn, 1) := by decide +kernel
theorem dX5_eighth_14 : decode cX5_eighth 14 = .ok (.lload_n 2, 1) := by decide +kernel
theorem dX5_eighth_15 : decode cX5_eighth 15 = .ok (.lload_n 0, 1) := by decide +kernel
theorem dX5_eighth_16 : decode cX5_eighth 16 = .ok (.lcmp, 1) := by decide +kernel
theorem dX5_eighth_17 : decode cX5_eighth 17 = .ok (.ifCond .lt 11, 3) := by decide +kernel
theorem dX5_eighth_20 : decode cX5_eighth 20 = .ok (.lload_n 0, 1) := by decide +kernel
theorem dX5_eighth_21 : decode cX5_eighth 21 = .ok (.lconst 0, 1) := by decide +kernel
theorem dX5_eighth_22 : decode cX5_eighth 22 = .ok (.lcmp, 1) := by decide +kernel
theorem dX5_eighth_23 : decode cX5_eighth 23 = .ok (.ifCond .le 5, 3) := by decide +kernel
theorem dX5_eighth_26 : decode cX5_eighth 26 = .ok (.iconst 1, 1) := by decide +kernel
theorem dX5_eighth_27 : decode cX5_eighth 27 = .ok (.ireturn, 1) := by decide +kernel
theorem dX5_eighth_28 : decode cX5_eighth 28 = .ok (.lload_n 2, 1) := by decide +kernel
theorem dX5_eighth_29 : decode cX5_eighth 29 = .ok (.lload_n 0, 1) := by decide +kernel
theorem dX5_eighth_30 : decode cX5_eighth 30 = .ok (.lneg, 1) := by decide +kernel
theorem dX5_eighth_31 : decode cX5_eighth 31 = .ok (.lcmp, 1) := by decide +kernel
theorem dX5_eighth_32 : decode cX5_eighth 32 = .ok (.ifCond .le 11, 3) := by decide +kernel
theorem dX5_eighth_35 : decode cX5_eighth 35 = .ok (.lload_n 0, 1) := by decide +kernel
theorem dX5_eighth_36 : decode cX5_eighth 36 = .ok (.lconst 0, 1) := by decide +kernel
theorem dX5_eighth_37 : decode cX5_eighth 37 = .ok (.lcmp, 1) := by decide +kernel
theorem dX5_eighth_38 : decode cX5_eighth 38 = .ok (.ifCond .gt 5, 3) := by decide +kernel
theorem dX5_eighth_41 : decode cX5_eighth 41 = .ok (.iconst 2, 1) := by decide +kernel
theorem dX5_eighth_42 : decode cX5_eighth 42 = .ok (.ireturn, 1) := by decide +kernel
theorem dX5_eighth_43 : decode cX5_eighth 43 = .ok (.lload_n 0, 1) := by decide +kernel
theorem dX5_eighth_44 : decode cX5_eighth 44 = .ok (.lneg, 1) := by decide +kernel
theorem dX5_eighth_45 : decode cX5_eighth 45 = .ok (.lload_n 2, 1) := by decide +kernel
theorem dX5_eighth_46 : decode cX5_eighth 46 = .ok (.lcmp, 1) := by decide +kernel
theorem dX5_eighth_47 : decode cX5_eighth 47 = .ok (.ifCond .lt 11, 3) := by decide +kernel
theorem dX5_eighth_50 : decode cX5_eighth 50 = .ok (.lload_n 2, 1) := by decide +kernel
theorem dX5_eighth_51 : decode cX5_eighth 51 = .ok (.lconst 0, 1) := by decide +kernel
theorem dX5_eighth_52 : decode cX5_eighth 52 = .ok (.lcmp, 1) := by decide +kernel
theorem dX5_eighth_53 : decode cX5_eighth 53 = .ok (.ifCond .le 5, 3) := by decide +kernel
theorem dX5_eighth_56 : decode cX5_eighth 56 = .ok (.iconst 3, 1) := by decide +kernel
theorem dX5_eighth_57 : decode cX5_eighth 57 = .ok (.ireturn, 1) := by decide +kernel
theorem dX5_eighth_58 : decode cX5_eighth 58 = .ok (.lload_n 0, 1) := by decide +kernel
theorem dX5_eighth_59 : decode cX5_eighth 59 = .ok (.lneg, 1) := by decide +kernel
theorem dX5_eighth_60 : decode cX5_eighth 60 = .ok (.lload_n 2, 1) := by decide +kernel
theorem dX5_eighth_61 : decode cX5_eighth 61 = .ok (.lneg, 1) := by decide +kernel
theorem dX5_eighth_62 : decode cX5_eighth 62 = .ok (.lcmp, 1) := by decide +kernel
theorem dX5_eighth_63 : decode cX5_eighth 63 = .ok (.ifCond .le 11, 3) := by decide +kernel
theorem dX5_eighth_66 : decode cX5_eighth 66 = .ok (.lload_n 2, 1) := by decide +kernel
theorem dX5_eighth_67 : decode cX5_eighth 67 = .ok (.lconst 0, 1) := by decide +kernel
theorem dX5_eighth_68 : decode cX5_eighth 68 = .ok (.lcmp, 1) := by decide +kernel
theorem dX5_eighth_69 : decode cX5_eighth 69 = .ok (.ifCond .gt 5, 3) := by decide +kernel
theorem dX5_eighth_72 : decode cX5_eighth 72 = .ok (.iconst 4, 1) := by decide +kernel
theorem dX5_eighth_73 : decode cX5_eighth 73 = .ok (.ireturn, 1) := by decide +kernel
theorem dX5_eighth_74 : decode cX5_eighth 74 = .ok (.lload_n 0, 1) := by decide +kernel
theorem dX5_eighth_75 : decode cX5_eighth 75 = .ok (.lload_n 2, 1) := by decide +kernel
theorem dX5_eighth_76 : decode cX5_eighth 76 = .ok (.lcmp, 1) := by decide +kernel
theorem dX5_eighth_77 : decode cX5_eighth 77 = .ok (.ifCond .lt 11, 3) := by decide +kernel
theorem dX5_eighth_80 : decode cX5_eighth 80 = .ok (.lload_n 0, 1) := by decide +kernel
theorem dX5_eighth_81 : decode cX5_eighth 81 = .ok (.lconst 0, 1) := by decide +kernel
theorem dX5_eighth_82 : decode cX5_eighth 82 = .ok (.lcmp, 1) := by decide +kernel
theorem dX5_eighth_83 : decode cX5_eighth 83 = .ok (.ifCond .ge 5, 3) := by decide +kernel
theorem dX5_eighth_86 : decode cX5_eighth 86 = .ok (.iconst 5, 1) := by decide +kernel
theorem dX5_eighth_87 : decode cX5_eighth 87 = .ok (.ireturn, 1) := by decide +kernel
theorem dX5_eighth_88 : decode cX5_eighth 88 = .ok (.lload_n 2, 1) := by decide +kernel
theorem dX5_eighth_89 : decode cX5_eighth 89 = .ok (.lneg, 1) := by decide +kernel
theorem dX5_eighth_90 : decode cX5_eighth 90 = .ok (.lload_n 0, 1) := by decide +kernel
theorem dX5_eighth_91 : decode cX5_eighth 91 = .ok (.lcmp, 1) := by decide +kernel
theorem dX5_eighth_92 : decode cX5_eighth 92 = .ok (.ifCond .le 12, 3) := by decide +kernel
theorem dX5_eighth_95 : decode cX5_eighth 95 = .ok (.lload_n 0, 1) := by decide +kernel
theorem dX5_eighth_96 : decode cX5_eighth 96 = .ok (.lconst 0, 1) := by decide +kernel
theorem dX5_eighth_97 : decode cX5_eighth 97 = .ok (.lcmp, 1) := by decide +kernel
theorem dX5_eighth_98 : decode cX5_eighth 98 = .ok (.ifCond .lt 6, 3) := by decide +kernel
theorem dX5_eighth_101 : decode cX5_eighth 101 = .ok (.bipush 6, 2) := by decide +kernel
theorem dX5_eighth_103 : decode cX5_eighth 103 = .ok (.ireturn, 1) := by decide +kernel
theorem dX5_eighth_104 : decode cX5_eighth 104 = .ok (.lload_n 2, 1) := by decide +kernel
theorem dX5_eighth_105 : decode cX5_eighth 105 = .ok (.lconst 0, 1) := by decide +kernel
theorem dX5_eighth_106 : decode cX5_eighth 106 = .ok (.lcmp, 1) := by decide +kernel
theorem dX5_eighth_107 : decode cX5_eighth 107 = .ok (.ifCond .ge 8, 3) := by decide +kernel
theorem dX5_eighth_110 : decode cX5_eighth 110 = .ok (.bipush 7, 2) := by decide +kernel
theorem dX5_eighth_112 : decode cX5_eighth 112 = .ok (.goto 4, 3) := by decide +kernel
theorem dX5_eighth_115 : decode cX5_eighth 115 = .ok (.iconst (-1), 1) := by decide +kernel
theorem dX5_eighth_116 : decode cX5_eighth 116 = .ok (.ireturn, 1) := by decide +kernel
theorem dX6_init_0 : decode cX6_init 0 = .ok (.aload_n 0, 1) := by decide +kernel
theorem dX6_init_1 : decode cX6_init 1 = .ok (.invokespecial 1, 3) := by decide +kernel
theorem dX6_init_4 : decode cX6_init 4 = .ok (.aload_n 0, 1) := by decide +kernel
theorem dX6_init_5 : decode cX6_init 5 = .ok (.bipush 9, 2) := by decide +kernel
theorem dX6_init_7 : decode cX6_init 7 = .ok (.newarray .boolean, 2) := by decide +kernel
theorem dX6_init_9 : decode cX6_init 9 = .ok (.putfield 7, 3) := by decide +kernel
theorem dX6_init_12 : decode cX6_init 12 = .ok (.aload_n 0, 1) := by decide +kernel
theorem dX6_init_13 : decode cX6_init 13 = .ok (.bipush 9, 2) := by decide +kernel
theorem dX6_init_15 : decode cX6_init 15 = .ok (.newarray .int, 2) := by decide +kernel
theorem dX6_init_17 : decode cX6_init 17 = .ok (.putfield 13, 3) := by decide +kernel
theorem dX6_init_20 : decode cX6_init 20 = .ok (.aload_n 0, 1) := by decide +kernel
theorem dX6_init_21 : decode cX6_init 21 = .ok (.bipush 9, 2) := by decide +kernel
theorem dX6_init_23 : decode cX6_init 23 = .ok (.newarray .int, 2) := by decide +kernel
theorem dX6_init_25 : decode cX6_init 25 = .ok (.putfield 17, 3) := by decide +kernel
theorem dX6_init_28 : decode cX6_init 28 = .ok (.aload_n 0, 1) := by decide +kernel
theorem dX6_init_29 : decode cX6_init 29 = .ok (.sipush 576, 3) := by decide +kernel
theorem dX6_init_32 : decode cX6_init 32 = .ok (.newarray .int, 2) := by decide +kernel
theorem dX6_init_34 : decode cX6_init 34 = .ok (.putfield 20, 3) := by decide +kernel
theorem dX6_init_37 : decode cX6_init 37 = .ok (.aload_n 0, 1) := by decide +kernel
theorem dX6_init_38 : decode cX6_init 38 = .ok (.sipush 576, 3) := by decide +kernel
theorem dX6_init_41 : decode cX6_init 41 = .ok (.newarray .int, 2) := by decide +kernel
theorem dX6_init_43 : decode cX6_init 43 = .ok (.putfield 23, 3) := by decide +kernel
theorem dX6_init_46 : decode cX6_init 46 = .ok (.aload_n 0, 1) := by decide +kernel
theorem dX6_init_47 : decode cX6_init 47 = .ok (.bipush 6, 2) := by decide +kernel
theorem dX6_init_49 : decode cX6_init 49 = .ok (.newarray .int, 2) := by decide +kernel
theorem dX6_init_51 : decode cX6_init 51 = .ok (.putfield 26, 3) := by decide +kernel
theorem dX6_init_54 : decode cX6_init 54 = .ok (.aload_n 0, 1) := by decide +kernel
theorem dX6_init_55 : decode cX6_init 55 = .ok (.sipush 384, 3) := by decide +kernel
theorem dX6_init_58 : decode cX6_init 58 = .ok (.newarray .long, 2) := by decide +kernel
theorem dX6_init_60 : decode cX6_init 60 = .ok (.putfield 29, 3) := by decide +kernel
theorem dX6_init_63 : decode cX6_init 63 = .ok (.aload_n 0, 1) := by decide +kernel
theorem dX6_init_64 : decode cX6_init 64 = .ok (.bipush 64, 2) := by decide +kernel
theorem dX6_init_66 : decode cX6_init 66 = .ok (.newarray .long, 2) := by decide +kernel
theorem dX6_init_68 : decode cX6_init 68 = .ok (.putfield 33, 3) := by decide +kernel
theorem dX6_init_71 : decode cX6_init 71 = .ok (.aload_n 0, 1) := by decide +kernel
theorem dX6_init_72 : decode cX6_init 72 = .ok (.bipush 10, 2) := by decide +kernel
theorem dX6_init_74 : decode cX6_init 74 = .ok (.newarray .boolean, 2) := by decide +kernel
theorem dX6_init_76 : decode cX6_init 76 = .ok (.putfield 36, 3) := by decide +kernel
theorem dX6_init_79 : decode cX6_init 79 = .ok (.aload_n 0, 1) := by decide +kernel
theorem dX6_init_80 : decode cX6_init 80 = .ok (.bipush 100, 2) := by decide +kernel
theorem dX6_init_82 : decode cX6_init 82 = .ok (.putfield 39, 3) := by decide +kernel
theorem dX6_init_85 : decode cX6_init 85 = .ok (.aload_n 0, 1) := by decide +kernel
theorem dX6_init_86 : decode cX6_init 86 = .ok (.bipush 50, 2) := by decide +kernel
theorem dX6_init_88 : decode cX6_init 88 = .ok (.putfield 43, 3) := by decide +kernel
theorem dX6_init_91 : decode cX6_init 91 = .ok (.aload_n 0, 1) := by decide +kernel
theorem dX6_init_92 : decode cX6_init 92 = .ok (.iconst 1, 1) := by decide +kernel
theorem dX6_init_93 : decode cX6_init 93 = .ok (.putfield 46, 3) := by decide +kernel
theorem dX6_init_96 : decode cX6_init 96 = .ok (.aload_n 0, 1) := by decide +kernel
theorem dX6_init_97 : decode cX6_init 97 = .ok (.bipush 64, 2) := by decide +kernel
theorem dX6_init_99 : decode cX6_init 99 = .ok (.newarray .int, 2) := by decide +kernel
theorem dX6_init_101 : decode cX6_init 101 = .ok (.putfield 49, 3) := by decide +kernel
theorem dX6_init_104 : decode cX6_init 104 = .ok (.aload_n 0, 1) := by decide +kernel
theorem dX6_init_105 : decode cX6_init 105 = .ok (.bipush 64, 2) := by decide +kernel
theorem dX6_init_107 : decode cX6_init 107 = .ok (.newarray .int, 2) := by decide +kernel
theorem dX6_init_109 : decode cX6_init 109 = .ok (.putfield 52, 3) := by decide +kernel
theorem dX6_init_112 : decode cX6_init 112 = .ok (.aload_n 0, 1) := by decide +kernel
theorem dX6_init_113 : decode cX6_init 113 = .ok (.bipush 64, 2) := by decide +kernel
theorem dX6_init_115 : decode cX6_init 115 = .ok (.newarray .int, 2) := by decide +kernel
theorem dX6_init_117 : decode cX6_init 117 = .ok (.putfield 55, 3) := by decide +kernel
theorem dX6_init_120 : decode cX6_init 120 = .ok (.return_, 1) := by decide +kernel
theorem dX6_in_0 : decode cX6_in 0 = .ok (.lload_n 0, 1) := by decide +kernel
theorem dX6_in_1 : decode cX6_in 1 = .ok (.lload_n 2, 1) := by decide +kernel
theorem dX6_in_2 : decode cX6_in 2 = .ok (.lcmp, 1) := by decide +kernel
theorem dX6_in_3 : decode cX6_in 3 = .ok (.ifCond .lt 14, 3) := by decide +kernel
theorem dX6_in_6 : decode cX6_in 6 = .ok (.lload_n 0, 1) := by decide +kernel
theorem dX6_in_7 : decode cX6_in 7 = .ok (.lload 4, 2) := by decide +kernel
theorem dX6_in_9 : decode cX6_in 9 = .ok (.lcmp, 1) := by decide +kernel
theorem dX6_in_10 : decode cX6_in 10 = .ok (.ifCond .gt 7, 3) := by decide +kernel
theorem dX6_in_13 : decode cX6_in 13 = .ok (.iconst 1, 1) := by decide +kernel
theorem dX6_in_14 : decode cX6_in 14 = .ok (.goto 4, 3) := by decide +kernel
theorem dX6_in_17 : decode cX6_in 17 = .ok (.iconst 0, 1) := by decide +kernel
theorem dX6_in_18 : decode cX6_in 18 = .ok (.ireturn, 1) := by decide +kernel
theorem dX6_noSheet_0 : decode cX6_noSheet 0 = .ok (.iload_n 1, 1) := by decide +kernel
theorem dX6_noSheet_1 : decode cX6_noSheet 1 = .ok (.i2l, 1) := by decide +kernel
theorem dX6_noSheet_2 : decode cX6_noSheet 2 = .ok (.lconst 0, 1) := by decide +kernel
theorem dX6_noSheet_3 : decode cX6_noSheet 3 = .ok (.ldc2_w 58, 3) := by decide +kernel
theorem dX6_noSheet_6 : decode cX6_noSheet 6 = .ok (.invokestatic 60, 3) := by decide +kernel
theorem dX6_noSheet_9 : decode cX6_noSheet 9 = .ok (.ifCond .ne 8, 3) := by decide +kernel
theorem dX6_noSheet_12 : decode cX6_noSheet 12 = .ok (.bipush (-2), 2) := by decide +kernel
theorem dX6_noSheet_14 : decode cX6_noSheet 14 = .ok (.goto 18, 3) := by decide +kernel
theorem dX6_noSheet_17 : decode cX6_noSheet 17 = .ok (.aload_n 0, 1) := by decide +kernel
theorem dX6_noSheet_18 : decode cX6_noSheet 18 = .ok (.getfield 7, 3) := by decide +kernel
theorem dX6_noSheet_21 : decode cX6_noSheet 21 = .ok (.iload_n 1, 1) := by decide +kernel
theorem dX6_noSheet_22 : decode cX6_noSheet 22 = .ok (.baload, 1) := by decide +kernel
theorem dX6_noSheet_23 : decode cX6_noSheet 23 = .ok (.ifCond .eq 7, 3) := by decide +kernel
theorem dX6_noSheet_26 : decode cX6_noSheet 26 = .ok (.iconst 0, 1) := by decide +kernel
theorem dX6_noSheet_27 : decode cX6_noSheet 27 = .ok (.goto 5, 3) := by decide +kernel
theorem dX6_noSheet_30 : decode cX6_noSheet 30 = .ok (.bipush (-10), 2) := by decide +kernel
theorem dX6_noSheet_32 : decode cX6_noSheet 32 = .ok (.ireturn, 1) := by decide +kernel
theorem dX6_sheet_0 : decode cX6_sheet 0 = .ok (.iload_n 1, 1) := by decide +kernel
theorem dX6_sheet_1 : decode cX6_sheet 1 = .ok (.i2l, 1) := by decide +kernel
theorem dX6_sheet_2 : decode cX6_sheet 2 = .ok (.lconst 0, 1) := by decide +kernel
theorem dX6_sheet_3 : decode cX6_sheet 3 = .ok (.ldc2_w 58, 3) := by decide +kernel
theorem dX6_sheet_6 : decode cX6_sheet 6 = .ok (.invokestatic 60, 3) := by decide +kernel
theorem dX6_sheet_9 : decode cX6_sheet 9 = .ok (.ifCond .eq 21, 3) := by decide +kernel
theorem dX6_sheet_12 : decode cX6_sheet 12 = .ok (.iload_n 2, 1) := by decide +kernel
theorem dX6_sheet_13 : decode cX6_sheet 13 = .ok (.i2l, 1) := by decide +kernel
theorem dX6_sheet_14 : decode cX6_sheet 14 = .ok (.lconst 0, 1) := by decide +kernel
theorem dX6_sheet_15 : decode cX6_sheet 15 = .ok (.ldc2_w 64, 3) := by decide +kernel
theorem dX6_sheet_18 : decode cX6_sheet 18 = .ok (.invokestatic 60, 3) := by decide +kernel
theorem dX6_sheet_21 : decode cX6_sheet 21 = .ok (.ifCond .eq 9, 3) := by decide +kernel
theorem dX6_sheet_24 : decode cX6_sheet 24 = .ok (.iload_n 3, 1) := by decide +kernel
theorem dX6_sheet_25 : decode cX6_sheet 25 = .ok (.bipush 64, 2) := by decide +kernel
theorem dX6_sheet_27 : decode cX6_sheet 27 = .ok (.if_icmp .le 6, 3) := by decide +kernel
theorem dX6_sheet_30 : decode cX6_sheet 30 = .ok (.bipush (-2), 2) := by decide +kernel
theorem dX6_sheet_32 : decode cX6_sheet 32 = .ok (.ireturn, 1) := by decide +kernel
theorem dX6_sheet_33 : decode cX6_sheet 33 = .ok (.iload_n 3, 1) := by decide +kernel
theorem dX6_sheet_34 : decode cX6_sheet 34 = .ok (.ifCond .ge 6, 3) := by decide +kernel
theorem dX6_sheet_37 : decode cX6_sheet 37 = .ok (.bipush (-12), 2) := by decide +kernel
theorem dX6_sheet_39 : decode cX6_sheet 39 = .ok (.ireturn, 1) := by decide +kernel
theorem dX6_sheet_40 : decode cX6_sheet 40 = .ok (.aload_n 0, 1) := by decide +kernel
theorem dX6_sheet_41 : decode cX6_sheet 41 = .ok (.getfield 7, 3) := by decide +kernel
theorem dX6_sheet_44 : decode cX6_sheet 44 = .ok (.iload_n 1, 1) := by decide +kernel
theorem dX6_sheet_45 : decode cX6_sheet 45 = .ok (.iconst 1, 1) := by decide +kernel
theorem dX6_sheet_46 : decode cX6_sheet 46 = .ok (.bastore, 1) := by decide +kernel
theorem dX6_sheet_47 : decode cX6_sheet 47 = .ok (.aload_n 0, 1) := by decide +kernel
theorem dX6_sheet_48 : decode cX6_sheet 48 = .ok (.getfield 13, 3) := by decide +kernel
theorem dX6_sheet_51 : decode cX6_sheet 51 = .ok (.iload_n 1, 1) := by decide +kernel
theorem dX6_sheet_52 : decode cX6_sheet 52 = .ok (.iload_n 2, 1) := by decide +kernel
theorem dX6_sheet_53 : decode cX6_sheet 53 = .ok (.iastore, 1) := by decide +kernel
theorem dX6_sheet_54 : decode cX6_sheet 54 = .ok (.aload_n 0, 1) := by decide +kernel
theorem dX6_sheet_55 : decode cX6_sheet 55 = .ok (.getfield 17, 3) := by decide +kernel
theorem dX6_sheet_58 : decode cX6_sheet 58 = .ok (.iload_n 1, 1) := by decide +kernel
theorem dX6_sheet_59 : decode cX6_sheet 59 = .ok (.iload_n 3, 1) := by decide +kernel
theorem dX6_sheet_60 : decode cX6_sheet 60 = .ok (.iastore, 1) := by decide +kernel
theorem dX6_sheet_61 : decode cX6_sheet 61 = .ok (.iconst 0, 1) := by decide +kernel
theorem dX6_sheet_62 : decode cX6_sheet 62 = .ok (.istore 4, 2) := by decide +kernel
theorem dX6_sheet_64 : decode cX6_sheet 64 = .ok (.iload 4, 2) := by decide +kernel
theorem dX6_sheet_66 : decode cX6_sheet 66 = .ok (.iload_n 3, 1) := by decide +kernel
theorem dX6_sheet_67 : decode cX6_sheet 67 = .ok (.if_icmp .ge 35, 3) := by decide +kernel
theorem dX6_sheet_70 : decode cX6_sheet 70 = .ok (.aload_n 0, 1) := by decide +kernel
theorem dX6_sheet_71 : decode cX6_sheet 71 = .ok (.getfield 20, 3) := by decide +kernel
theorem dX6_sheet_74 : decode cX6_sheet 74 = .ok (.bipush 64, 2) := by decide +kernel
theorem dX6_sheet_76 : decode cX6_sheet 76 = .ok (.iload_n 1, 1) := by decide +kernel
theorem dX6_sheet_77 : decode cX6_sheet 77 = .ok (.imul, 1) := by decide +kernel
theorem dX6_sheet_78 : decode cX6_sheet 78 = .ok (.iload 4, 2) := by decide +kernel
theorem dX6_sheet_80 : decode cX6_sheet 80 = .ok (.iadd, 1) := by decide +kernel
theorem dX6_sheet_81 : decode cX6_sheet 81 = .ok (.iconst 1, 1) := by decide +kernel
theorem dX6_sheet_82 : decode cX6_sheet 82 = .ok (.iastore, 1) := by decide +kernel
theorem dX6_sheet_83 : decode cX6_sheet 83 = .ok (.aload_n 0, 1) := by decide +kernel
theorem dX6_sheet_84 : decode cX6_sheet 84 = .ok (.getfield 23, 3) := by decide +kernel
theorem dX6_sheet_87 : decode cX6_sheet 87 = .ok (.bipush 64, 2) := by decide +kernel
theorem dX6_sheet_89 : decode cX6_sheet 89 = .ok (.iload_n 1, 1) := by decide +kernel
theorem dX6_sheet_90 : decode cX6_sheet 90 = .ok (.imul, 1) := by decide +kernel
theorem dX6_sheet_91 : decode cX6_sheet 91 = .ok (.iload 4, 2) := by decide +kernel
theorem dX6_sheet_93 : decode cX6_sheet 93 = .ok (.iadd, 1) := by decide +kernel
theorem dX6_sheet_94 : decode cX6_sheet 94 = .ok (.iconst 0, 1) := by decide +kernel
theorem dX6_sheet_95 : decode cX6_sheet 95 = .ok (.iastore, 1) := by decide +kernel
theorem dX6_sheet_96 : decode cX6_sheet 96 = .ok (.iinc 4 1, 3) := by decide +kernel
theorem dX6_sheet_99 : decode cX6_sheet 99 = .ok (.goto (-35), 3) := by decide +kernel
theorem dX6_sheet_102 : decode cX6_sheet 102 = .ok (.iconst 1, 1) := by decide +kernel
theorem dX6_sheet_103 : decode cX6_sheet 103 = .ok (.ireturn, 1) := by decide +kernel
theorem dX6_drop_0 : decode cX6_drop 0 = .ok (.aload_n 0, 1) := by decide +kernel
theorem dX6_drop_1 : decode cX6_drop 1 = .ok (.iload_n 1, 1) := by decide +kernel
theorem dX6_drop_2 : decode cX6_drop 2 = .ok (.invokevirtual 66, 3) := by decide +kernel
theorem dX6_drop_5 : decode cX6_drop 5 = .ok (.istore_n 2, 1) := by decide +kernel
theorem dX6_drop_6 : decode cX6_drop 6 = .ok (.iload_n 2, 1) := by decide +kernel
theorem dX6_drop_7 : decode cX6_drop 7 = .ok (.ifCond .ge 5, 3) := by decide +kernel
theorem dX6_drop_10 : decode cX6_drop 10 = .ok (.iload_n 2, 1) := by decide +kernel
theorem dX6_drop_11 : decode cX6_drop 11 = .ok (.ireturn, 1) := by decide +kernel
theorem dX6_drop_12 : decode cX6_drop 12 = .ok (.aload_n 0, 1) := by decide +kernel
theorem dX6_drop_13 : decode cX6_drop 13 = .ok (.getfield 7, 3) := by decide +kernel
theorem dX6_drop_16 : decode cX6_drop 16 = .ok (.iload_n 1, 1) := by decide +kernel
theorem dX6_drop_17 : decode cX6_drop 17 = .ok (.iconst 0, 1) := by decide +kernel
theorem dX6_drop_18 : decode cX6_drop 18 = .ok (.bastore, 1) := by decide +kernel
theorem dX6_drop_19 : decode cX6_drop 19 = .ok (.aload_n 0, 1) := by decide +kernel
theorem dX6_drop_20 : decode cX6_drop 20 = .ok (.getfield 17, 3) := by decide +kernel
theorem dX6_drop_23 : decode cX6_drop 23 = .ok (.iload_n 1, 1) := by decide +kernel
theorem dX6_drop_24 : decode cX6_drop 24 = .ok (.iaload, 1) := by decide +kernel
theorem dX6_drop_25 : decode cX6_drop 25 = .ok (.ireturn, 1) := by decide +kernel
theorem dX6_fits_0 : decode cX6_fits 0 = .ok (.iload_n 0, 1) := by decide +kernel
theorem dX6_fits_1 : decode cX6_fits 1 = .ok (.iconst 2, 1) := by decide +kernel
theorem dX6_fits_2 : decode cX6_fits 2 = .ok (.if_icmp .eq 37, 3) := by decide +kernel
theorem dX6_fits_5 : decode cX6_fits 5 = .ok (.iload_n 1, 1) := by decide +kernel
theorem dX6_fits_6 : decode cX6_fits 6 = .ok (.i2l, 1) := by decide +kernel
theorem dX6_fits_7 : decode cX6_fits 7 = .ok (.iload_n 0, 1) := by decide +kernel
theorem dX6_fits_8 : decode cX6_fits 8 = .ok (.ifCond .ne 9, 3) := by decide +kernel
theorem dX6_fits_11 : decode cX6_fits 11 = .ok (.ldc2_w 70, 3) := by decide +kernel
theorem dX6_fits_14 : decode cX6_fits 14 = .ok (.goto 6, 3) := by decide +kernel
theorem dX6_fits_17 : decode cX6_fits 17 = .ok (.ldc2_w 72, 3) := by decide +kernel
theorem dX6_fits_20 : decode cX6_fits 20 = .ok (.iload_n 0, 1) := by decide +kernel
theorem dX6_fits_21 : decode cX6_fits 21 = .ok (.ifCond .ne 9, 3) := by decide +kernel
theorem dX6_fits_24 : decode cX6_fits 24 = .ok (.ldc2_w 74, 3) := by decide +kernel
theorem dX6_fits_27 : decode cX6_fits 27 = .ok (.goto 6, 3) := by decide +kernel
theorem dX6_fits_30 : decode cX6_fits 30 = .ok (.ldc2_w 76, 3) := by decide +kernel
theorem dX6_fits_33 : decode cX6_fits 33 = .ok (.invokestatic 60, 3) := by decide +kernel
theorem dX6_fits_36 : decode cX6_fits 36 = .ok (.ifCond .eq 7, 3) := by decide +kernel
theorem dX6_fits_39 : decode cX6_fits 39 = .ok (.iconst 1, 1) := by decide +kernel
theorem dX6_fits_40 : decode cX6_fits 40 = .ok (.goto 4, 3) := by decide +kernel
theorem dX6_fits_43 : decode cX6_fits 43 = .ok (.iconst 0, 1) := by decide +kernel
theorem dX6_fits_44 : decode cX6_fits 44 = .ok (.ireturn, 1) := by decide +kernel
theorem dX6_put_0 : decode cX6_put 0 = .ok (.aload_n 0, 1) := by decide +kernel
theorem dX6_put_1 : decode cX6_put 1 = .ok (.iload_n 1, 1) := by decide +kernel
theorem dX6_put_2 : decode cX6_put 2 = .ok (.invokevirtual 66, 3) := by decide +kernel
theorem dX6_put_5 : decode cX6_put 5 = .ok (.istore 4, 2) := by decide +kernel
theorem dX6_put_7 : decode cX6_put 7 = .ok (.iload 4, 2) := by decide +kernel
theorem dX6_put_9 : decode cX6_put 9 = .ok (.ifCond .ge 6, 3) := by decide +kernel
theorem dX6_put_12 : decode cX6_put 12 = .ok (.iload 4, 2) := by decide +kernel
theorem dX6_put_14 : decode cX6_put 14 = .ok (.ireturn, 1) := by decide +kernel
theorem dX6_put_15 : decode cX6_put 15 = .ok (.iload_n 2, 1) := by decide +kernel
theorem dX6_put_16 : decode cX6_put 16 = .ok (.i2l, 1) := by decide +kernel
theorem dX6_put_17 : decode cX6_put 17 = .ok (.lconst 0, 1) := by decide +kernel
theorem dX6_put_18 : decode cX6_put 18 = .ok (.aload_n 0, 1) := by decide +kernel
theorem dX6_put_19 : decode cX6_put 19 = .ok (.getfield 17, 3) := by decide +kernel
theorem dX6_put_22 : decode cX6_put 22 = .ok (.iload_n 1, 1) := by decide +kernel
theorem dX6_put_23 : decode cX6_put 23 = .ok (.iaload, 1) := by decide +kernel
theorem dX6_put_24 : decode cX6_put 24 = .ok (.iconst 1, 1) := by decide +kernel
theorem dX6_put_25 : decode cX6_put 25 = .ok (.isub, 1) := by decide +kernel
theorem dX6_put_26 : decode cX6_put 26 = .ok (.i2l, 1) := by decide +kernel
theorem dX6_put_27 : decode cX6_put 27 = .ok (.invokestatic 60, 3) := by decide +kernel
theorem dX6_put_30 : decode cX6_put 30 = .ok (.ifCond .ne 6, 3) := by decide +kernel
theorem dX6_put_33 : decode cX6_put 33 = .ok (.bipush (-13), 2) := by decide +kernel
theorem dX6_put_35 : decode cX6_put 35 = .ok (.ireturn, 1) := by decide +kernel
theorem dX6_put_36 : decode cX6_put 36 = .ok (.aload_n 0, 1) := by decide +kernel
theorem dX6_put_37 : decode cX6_put 37 = .ok (.getfield 13, 3) := by decide +kernel
theorem dX6_put_40 : decode cX6_put 40 = .ok (.iload_n 1, 1) := by decide +kernel
theorem dX6_put_41 : decode cX6_put 41 = .ok (.iaload, 1) := by decide +kernel
theorem dX6_put_42 : decode cX6_put 42 = .ok (.iload_n 3, 1) := by decide +kernel
theorem dX6_put_43 : decode cX6_put 43 = .ok (.invokestatic 78, 3) := by decide +kernel
theorem dX6_put_46 : decode cX6_put 46 = .ok (.ifCond .ne 6, 3) := by decide +kernel
theorem dX6_put_49 : decode cX6_put 49 = .ok (.bipush (-14), 2) := by decide +kernel
theorem dX6_put_51 : decode cX6_put 51 = .ok (.ireturn, 1) := by decide +kernel
theorem dX6_put_52 : decode cX6_put 52 = .ok (.aload_n 0, 1) := by decide +kernel
theorem dX6_put_53 : decode cX6_put 53 = .ok (.getfield 20, 3) := by decide +kernel
theorem dX6_put_56 : decode cX6_put 56 = .ok (.bipush 64, 2) := by decide +kernel
theorem dX6_put_58 : decode cX6_put 58 = .ok (.iload_n 1, 1) := by decide +kernel
theorem dX6_put_59 : decode cX6_put 59 = .ok (.imul, 1) := by decide +kernel
theorem dX6_put_60 : decode cX6_put 60 = .ok (.iload_n 2, 1) := by decide +kernel
theorem dX6_put_61 : decode cX6_put 61 = .ok (.iadd, 1) := by decide +kernel
theorem dX6_put_62 : decode cX6_put 62 = .ok (.iconst 1, 1) := by decide +kernel
theorem dX6_put_63 : decode cX6_put 63 = .ok (.iastore, 1) := by decide +kernel
theorem dX6_put_64 : decode cX6_put 64 = .ok (.aload_n 0, 1) := by decide +kernel
theorem dX6_put_65 : decode cX6_put 65 = .ok (.getfield 23, 3) := by decide +kernel
theorem dX6_put_68 : decode cX6_put 68 = .ok (.bipush 64, 2) := by decide +kernel
theorem dX6_put_70 : decode cX6_put 70 = .ok (.iload_n 1, 1) := by decide +kernel
theorem dX6_put_71 : decode cX6_put 71 = .ok (.imul, 1) := by decide +kernel
theorem dX6_put_72 : decode cX6_put 72 = .ok (.iload_n 2, 1) := by decide +kernel
theorem dX6_put_73 : decode cX6_put 73 = .ok (.iadd, 1) := by decide +kernel
theorem dX6_put_74 : decode cX6_put 74 = .ok (.iload_n 3, 1) := by decide +kernel
theorem dX6_put_75 : decode cX6_put 75 = .ok (.iastore, 1) := by decide +kernel
theorem dX6_put_76 : decode cX6_put 76 = .ok (.iconst 1, 1) := by decide +kernel
theorem dX6_put_77 : decode cX6_put 77 = .ok (.ireturn, 1) := by decide +kernel
theorem dX6_get_0 : decode cX6_get 0 = .ok (.aload_n 0, 1) := by decide +kernel
theorem dX6_get_1 : decode cX6_get 1 = .ok (.iload_n 1, 1) := by decide +kernel
theorem dX6_get_2 : decode cX6_get 2 = .ok (.invokevirtual 66, 3) := by decide +kernel
theorem dX6_get_5 : decode cX6_get 5 = .ok (.istore_n 3, 1) := by decide +kernel
theorem dX6_get_6 : decode cX6_get 6 = .ok (.iload_n 3, 1) := by decide +kernel
theorem dX6_get_7 : decode cX6_get 7 = .ok (.ifCond .ge 10, 3) := by decide +kernel
theorem dX6_get_10 : decode cX6_get 10 = .ok (.ldc2_w 82, 3) := by decide +kernel
theorem dX6_get_13 : decode cX6_get 13 = .ok (.iload_n 3, 1) := by decide +kernel
theorem dX6_get_14 : decode cX6_get 14 = .ok (.i2l, 1) := by decide +kernel
theorem dX6_get_15 : decode cX6_get 15 = .ok (.ladd, 1) := by decide +kernel
theorem dX6_get_16 : decode cX6_get 16 = .ok (.lreturn, 1) := by decide +kernel
theorem dX6_get_17 : decode cX6_get 17 = .ok (.iload_n 2, 1) := by decide +kernel
theorem dX6_get_18 : decode cX6_get 18 = .ok (.i2l, 1) := by decide +kernel
theorem dX6_get_19 : decode cX6_get 19 = .ok (.lconst 0, 1) := by decide +kernel
theorem dX6_get_20 : decode cX6_get 20 = .ok (.aload_n 0, 1) := by decide +kernel
theorem dX6_get_21 : decode cX6_get 21 = .ok (.getfield 17, 3) := by decide +kernel
theorem dX6_get_24 : decode cX6_get 24 = .ok (.iload_n 1, 1) := by decide +kernel
theorem dX6_get_25 : decode cX6_get 25 = .ok (.iaload, 1) := by decide +kernel
theorem dX6_get_26 : decode cX6_get 26 = .ok (.iconst 1, 1) := by decide +kernel
theorem dX6_get_27 : decode cX6_get 27 = .ok (.isub, 1) := by decide +kernel
theorem dX6_get_28 : decode cX6_get 28 = .ok (.i2l, 1) := by decide +kernel
theorem dX6_get_29 : decode cX6_get 29 = .ok (.invokestatic 60, 3) := by decide +kernel
theorem dX6_get_32 : decode cX6_get 32 = .ok (.ifCond .ne 7, 3) := by decide +kernel
theorem dX6_get_35 : decode cX6_get 35 = .ok (.ldc2_w 84, 3) := by decide +kernel
theorem dX6_get_38 : decode cX6_get 38 = .ok (.lreturn, 1) := by decide +kernel
theorem dX6_get_39 : decode cX6_get 39 = .ok (.aload_n 0, 1) := by decide +kernel
theorem dX6_get_40 : decode cX6_get 40 = .ok (.getfield 20, 3) := by decide +kernel
theorem dX6_get_43 : decode cX6_get 43 = .ok (.bipush 64, 2) := by decide +kernel
theorem dX6_get_45 : decode cX6_get 45 = .ok (.iload_n 1, 1) := by decide +kernel
theorem dX6_get_46 : decode cX6_get 46 = .ok (.imul, 1) := by decide +kernel
theorem dX6_get_47 : decode cX6_get 47 = .ok (.iload_n 2, 1) := by decide +kernel
theorem dX6_get_48 : decode cX6_get 48 = .ok (.iadd, 1) := by decide +kernel
theorem dX6_get_49 : decode cX6_get 49 = .ok (.iaload, 1) := by decide +kernel
theorem dX6_get_50 : decode cX6_get 50 = .ok (.ifCond .ne 9, 3) := by decide +kernel
theorem dX6_get_53 : decode cX6_get 53 = .ok (.ldc2_w 86, 3) := by decide +kernel
theorem dX6_get_56 : decode cX6_get 56 = .ok (.goto 15, 3) := by decide +kernel
theorem dX6_get_59 : decode cX6_get 59 = .ok (.aload_n 0, 1) := by decide +kernel
theorem dX6_get_60 : decode cX6_get 60 = .ok (.getfield 23, 3) := by decide +kernel
theorem dX6_get_63 : decode cX6_get 63 = .ok (.bipush 64, 2) := by decide +kernel
theorem dX6_get_65 : decode cX6_get 65 = .ok (.iload_n 1, 1) := by decide +kernel
theorem dX6_get_66 : decode cX6_get 66 = .ok (.imul, 1) := by decide +kernel
theorem dX6_get_67 : decode cX6_get 67 = .ok (.iload_n 2, 1) := by decide +kernel
theorem dX6_get_68 : decode cX6_get 68 = .ok (.iadd, 1) := by decide +kernel
theorem dX6_get_69 : decode cX6_get 69 = .ok (.iaload, 1) := by decide +kernel
theorem dX6_get_70 : decode cX6_get 70 = .ok (.i2l, 1) := by decide +kernel
theorem dX6_get_71 : decode cX6_get 71 = .ok (.lreturn, 1) := by decide +kernel
theorem dX6_lose_0 : decode cX6_lose 0 = .ok (.aload_n 0, 1) := by decide +kernel
theorem dX6_lose_1 : decode cX6_lose 1 = .ok (.iload_n 1, 1) := by decide +kernel
theorem dX6_lose_2 : decode cX6_lose 2 = .ok (.invokevirtual 66, 3) := by decide +kernel
theorem dX6_lose_5 : decode cX6_lose 5 = .ok (.istore_n 3, 1) := by decide +kernel
theorem dX6_lose_6 : decode cX6_lose 6 = .ok (.iload_n 3, 1) := by decide +kernel
theorem dX6_lose_7 : decode cX6_lose 7 = .ok (.ifCond .ge 5, 3) := by decide +kernel
theorem dX6_lose_10 : decode cX6_lose 10 = .ok (.iload_n 3, 1) := by decide +kernel
theorem dX6_lose_11 : decode cX6_lose 11 = .ok (.ireturn, 1) := by decide +kernel
theorem dX6_lose_12 : decode cX6_lose 12 = .ok (.iload_n 2, 1) := by decide +kernel
theorem dX6_lose_13 : decode cX6_lose 13 = .ok (.i2l, 1) := by decide +kernel
theorem dX6_lose_14 : decode cX6_lose 14 = .ok (.lconst 0, 1) := by decide +kernel
theorem dX6_lose_15 : decode cX6_lose 15 = .ok (.aload_n 0, 1) := by decide +kernel
theorem dX6_lose_16 : decode cX6_lose 16 = .ok (.getfield 17, 3) := by decide +kernel
theorem dX6_lose_19 : decode cX6_lose 19 = .ok (.iload_n 1, 1) := by decide +kernel
theorem dX6_lose_20 : decode cX6_lose 20 = .ok (.iaload, 1) := by decide +kernel
theorem dX6_lose_21 : decode cX6_lose 21 = .ok (.iconst 1, 1) := by decide +kernel
theorem dX6_lose_22 : decode cX6_lose 22 = .ok (.isub, 1) := by decide +kernel
theorem dX6_lose_23 : decode cX6_lose 23 = .ok (.i2l, 1) := by decide +kernel
theorem dX6_lose_24 : decode cX6_lose 24 = .ok (.invokestatic 60, 3) := by decide +kernel
theorem dX6_lose_27 : decode cX6_lose 27 = .ok (.ifCond .ne 6, 3) := by decide +kernel
theorem dX6_lose_30 : decode cX6_lose 30 = .ok (.bipush (-13), 2) := by decide +kernel
theorem dX6_lose_32 : decode cX6_lose 32 = .ok (.ireturn, 1) := by decide +kernel
theorem dX6_lose_33 : decode cX6_lose 33 = .ok (.aload_n 0, 1) := by decide +kernel
theorem dX6_lose_34 : decode cX6_lose 34 = .ok (.getfield 20, 3) := by decide +kernel
theorem dX6_lose_37 : decode cX6_lose 37 = .ok (.bipush 64, 2) := by decide +kernel
theorem dX6_lose_39 : decode cX6_lose 39 = .ok (.iload_n 1, 1) := by decide +kernel
theorem dX6_lose_40 : decode cX6_lose 40 = .ok (.imul, 1) := by decide +kernel
theorem dX6_lose_41 : decode cX6_lose 41 = .ok (.iload_n 2, 1) := by decide +kernel
theorem dX6_lose_42 : decode cX6_lose 42 = .ok (.iadd, 1) := by decide +kernel
theorem dX6_lose_43 : decode cX6_lose 43 = .ok (.iaload, 1) := by decide +kernel
theorem dX6_lose_44 : decode cX6_lose 44 = .ok (.istore 4, 2) := by decide +kernel
theorem dX6_lose_46 : decode cX6_lose 46 = .ok (.aload_n 0, 1) := by decide +kernel
theorem dX6_lose_47 : decode cX6_lose 47 = .ok (.getfield 20, 3) := by decide +kernel
theorem dX6_lose_50 : decode cX6_lose 50 = .ok (.bipush 64, 2) := by decide +kernel
theorem dX6_lose_52 : decode cX6_lose 52 = .ok (.iload_n 1, 1) := by decide +kernel
theorem dX6_lose_53 : decode cX6_lose 53 = .ok (.imul, 1) := by decide +kernel
theorem dX6_lose_54 : decode cX6_lose 54 = .ok (.iload_n 2, 1) := by decide +kernel
theorem dX6_lose_55 : decode cX6_lose 55 = .ok (.iadd, 1) := by decide +kernel
theorem dX6_lose_56 : decode cX6_lose 56 = .ok (.iconst 0, 1) := by decide +kernel
theorem dX6_lose_57 : decode cX6_lose 57 = .ok (.iastore, 1) := by decide +kernel
theorem dX6_lose_58 : decode cX6_lose 58 = .ok (.aload_n 0, 1) := by decide +kernel
theorem dX6_lose_59 : decode cX6_lose 59 = .ok (.getfield 23, 3) := by decide +kernel
theorem dX6_lose_62 : decode cX6_lose 62 = .ok (.bipush 64, 2) := by decide +kernel
theorem dX6_lose_64 : decode cX6_lose 64 = .ok (.iload_n 1, 1) := by decide +kernel
theorem dX6_lose_65 : decode cX6_lose 65 = .ok (.imul, 1) := by decide +kernel
theorem dX6_lose_66 : decode cX6_lose 66 = .ok (.iload_n 2, 1) := by decide +kernel
theorem dX6_lose_67 : decode cX6_lose 67 = .ok (.iadd, 1) := by decide +kernel
theorem dX6_lose_68 : decode cX6_lose 68 = .ok (.iconst 0, 1) := by decide +kernel
theorem dX6_lose_69 : decode cX6_lose 69 = .ok (.iastore, 1) := by decide +kernel
theorem dX6_lose_70 : decode cX6_lose 70 = .ok (.iload 4, 2) := by decide +kernel
theorem dX6_lose_72 : decode cX6_lose 72 = .ok (.ifCond .ne 7, 3) := by decide +kernel
theorem dX6_lose_75 : decode cX6_lose 75 = .ok (.iconst 0, 1) := by decide +kernel
theorem dX6_lose_76 : decode cX6_lose 76 = .ok (.goto 4, 3) := by decide +kernel
theorem dX6_lose_79 : decode cX6_lose 79 = .ok (.iconst 1, 1) := by decide +kernel
theorem dX6_lose_80 : decode cX6_lose 80 = .ok (.ireturn, 1) := by decide +kernel
theorem dX6_stands_0 : decode cX6_stands 0 = .ok (.aload_n 0, 1) := by decide +kernel
theorem dX6_stands_1 : decode cX6_stands 1 = .ok (.iload_n 1, 1) := by decide +kernel
theorem dX6_stands_2 : decode cX6_stands 2 = .ok (.invokevirtual 66, 3) := by decide +kernel
theorem dX6_stands_5 : decode cX6_stands 5 = .ok (.istore_n 3, 1) := by decide +kernel
theorem dX6_stands_6 : decode cX6_stands 6 = .ok (.iload_n 3, 1) := by decide +kernel
theorem dX6_stands_7 : decode cX6_stands 7 = .ok (.ifCond .ge 5, 3) := by decide +kernel
theorem dX6_stands_10 : decode cX6_stands 10 = .ok (.iload_n 3, 1) := by decide +kernel
theorem dX6_stands_11 : decode cX6_stands 11 = .ok (.ireturn, 1) := by decide +kernel
theorem dX6_stands_12 : decode cX6_stands 12 = .ok (.iload_n 2, 1) := by decide +kernel
theorem dX6_stands_13 : decode cX6_stands 13 = .ok (.i2l, 1) := by decide +kernel
theorem dX6_stands_14 : decode cX6_stands 14 = .ok (.lconst 0, 1) := by decide +kernel
theorem dX6_stands_15 : decode cX6_stands 15 = .ok (.aload_n 0, 1) := by decide +kernel
theorem dX6_stands_16 : decode cX6_stands 16 = .ok (.getfield 17, 3) := by decide +kernel
theorem dX6_stands_19 : decode cX6_stands 19 = .ok (.iload_n 1, 1) := by decide +kernel
theorem dX6_stands_20 : decode cX6_stands 20 = .ok (.iaload, 1) := by decide +kernel
theorem dX6_stands_21 : decode cX6_stands 21 = .ok (.iconst 1, 1) := by decide +kernel
theorem dX6_stands_22 : decode cX6_stands 22 = .ok (.isub, 1) := by decide +kernel
theorem dX6_stands_23 : decode cX6_stands 23 = .ok (.i2l, 1) := by decide +kernel
theorem dX6_stands_24 : decode cX6_stands 24 = .ok (.invokestatic 60, 3) := by decide +kernel
theorem dX6_stands_27 : decode cX6_stands 27 = .ok (.ifCond .eq 17, 3) := by decide +kernel
theorem dX6_stands_30 : decode cX6_stands 30 = .ok (.aload_n 0, 1) := by decide +kernel
theorem dX6_stands_31 : decode cX6_stands 31 = .ok (.getfield 20, 3) := by decide +kernel
theorem dX6_stands_34 : decode cX6_stands 34 = .ok (.bipush 64, 2) := by decide +kernel
theorem dX6_stands_36 : decode cX6_stands 36 = .ok (.iload_n 1, 1) := by decide +kernel
theorem dX6_stands_37 : decode cX6_stands 37 = .ok (.imul, 1) := by decide +kernel
theorem dX6_stands_38 : decode cX6_stands 38 = .ok (.iload_n 2, 1) := by decide +kernel
theorem dX6_stands_39 : decode cX6_stands 39 = .ok (.iadd, 1) := by decide +kernel
theorem dX6_stands_40 : decode cX6_stands 40 = .ok (.iaload, 1) := by decide +kernel
theorem dX6_stands_41 : decode cX6_stands 41 = .ok (.goto 5, 3) := by decide +kernel
theorem dX6_stands_44 : decode cX6_stands 44 = .ok (.bipush (-13), 2) := by decide +kernel
theorem dX6_stands_46 : decode cX6_stands 46 = .ok (.ireturn, 1) := by decide +kernel
theorem dX6_copy_0 : decode cX6_copy 0 = .ok (.iload_n 1, 1) := by decide +kernel
theorem dX6_copy_1 : decode cX6_copy 1 = .ok (.i2l, 1) := by decide +kernel
theorem dX6_copy_2 : decode cX6_copy 2 = .ok (.lconst 0, 1) := by decide +kernel
theorem dX6_copy_3 : decode cX6_copy 3 = .ok (.ldc2_w 58, 3) := by decide +kernel
theorem dX6_copy_6 : decode cX6_copy 6 = .ok (.invokestatic 60, 3) := by decide +kernel
theorem dX6_copy_9 : decode cX6_copy 9 = .ok (.ifCond .eq 15, 3) := by decide +kernel
theorem dX6_copy_12 : decode cX6_copy 12 = .ok (.iload_n 3, 1) := by decide +kernel
theorem dX6_copy_13 : decode cX6_copy 13 = .ok (.i2l, 1) := by decide +kernel
theorem dX6_copy_14 : decode cX6_copy 14 = .ok (.lconst 0, 1) := by decide +kernel
theorem dX6_copy_15 : decode cX6_copy 15 = .ok (.ldc2_w 58, 3) := by decide +kernel
theorem dX6_copy_18 : decode cX6_copy 18 = .ok (.invokestatic 60, 3) := by decide +kernel
theorem dX6_copy_21 : decode cX6_copy 21 = .ok (.ifCond .ne 6, 3) := by decide +kernel
theorem dX6_copy_24 : decode cX6_copy 24 = .ok (.bipush (-2), 2) := by decide +kernel
theorem dX6_copy_26 : decode cX6_copy 26 = .ok (.ireturn, 1) := by decide +kernel
theorem dX6_copy_27 : decode cX6_copy 27 = .ok (.aload_n 0, 1) := by decide +kernel
theorem dX6_copy_28 : decode cX6_copy 28 = .ok (.getfield 7, 3) := by decide +kernel
theorem dX6_copy_31 : decode cX6_copy 31 = .ok (.iload_n 1, 1) := by decide +kernel
theorem dX6_copy_32 : decode cX6_copy 32 = .ok (.baload, 1) := by decide +kernel
theorem dX6_copy_33 : decode cX6_copy 33 = .ok (.ifCond .eq 12, 3) := by decide +kernel
theorem dX6_copy_36 : decode cX6_copy 36 = .ok (.aload_n 0, 1) := by decide +kernel
theorem dX6_copy_37 : decode cX6_copy 37 = .ok (.getfield 7, 3) := by decide +kernel
theorem dX6_copy_40 : decode cX6_copy 40 = .ok (.iload_n 3, 1) := by decide +kernel
theorem dX6_copy_41 : decode cX6_copy 41 = .ok (.baload, 1) := by decide +kernel
theorem dX6_copy_42 : decode cX6_copy 42 = .ok (.ifCond .ne 6, 3) := by decide +kernel
theorem dX6_copy_45 : decode cX6_copy 45 = .ok (.bipush (-10), 2) := by decide +kernel
theorem dX6_copy_47 : decode cX6_copy 47 = .ok (.ireturn, 1) := by decide +kernel
theorem dX6_copy_48 : decode cX6_copy 48 = .ok (.aload_n 0, 1) := by decide +kernel
theorem dX6_copy_49 : decode cX6_copy 49 = .ok (.getfield 13, 3) := by decide +kernel
theorem dX6_copy_52 : decode cX6_copy 52 = .ok (.iload_n 1, 1) := by decide +kernel
theorem dX6_copy_53 : decode cX6_copy 53 = .ok (.iaload, 1) := by decide +kernel
theorem dX6_copy_54 : decode cX6_copy 54 = .ok (.aload_n 0, 1) := by decide +kernel
theorem dX6_copy_55 : decode cX6_copy 55 = .ok (.getfield 13, 3) := by decide +kernel
theorem dX6_copy_58 : decode cX6_copy 58 = .ok (.iload_n 3, 1) := by decide +kernel
theorem dX6_copy_59 : decode cX6_copy 59 = .ok (.iaload, 1) := by decide +kernel
theorem dX6_copy_60 : decode cX6_copy 60 = .ok (.if_icmp .eq 6, 3) := by decide +kernel
theorem dX6_copy_63 : decode cX6_copy 63 = .ok (.bipush (-11), 2) := by decide +kernel
theorem dX6_copy_65 : decode cX6_copy 65 = .ok (.ireturn, 1) := by decide +kernel
theorem dX6_copy_66 : decode cX6_copy 66 = .ok (.iload 5, 2) := by decide +kernel
theorem dX6_copy_68 : decode cX6_copy 68 = .ok (.ifCond .ge 6, 3) := by decide +kernel
theorem dX6_copy_71 : decode cX6_copy 71 = .ok (.bipush (-12), 2) := by decide +kernel
theorem dX6_copy_73 : decode cX6_copy 73 = .ok (.ireturn, 1) := by decide +kernel
theorem dX6_copy_74 : decode cX6_copy 74 = .ok (.iload_n 2, 1) := by decide +kernel
theorem dX6_copy_75 : decode cX6_copy 75 = .ok (.ifCond .lt 43, 3) := by decide +kernel
theorem dX6_copy_78 : decode cX6_copy 78 = .ok (.iload 4, 2) := by decide +kernel
theorem dX6_copy_80 : decode cX6_copy 80 = .ok (.ifCond .lt 38, 3) := by decide +kernel
theorem dX6_copy_83 : decode cX6_copy 83 = .ok (.iload_n 2, 1) := by decide +kernel
theorem dX6_copy_84 : decode cX6_copy 84 = .ok (.i2l, 1) := by decide +kernel
theorem dX6_copy_85 : decode cX6_copy 85 = .ok (.iload 5, 2) := by decide +kernel
theorem dX6_copy_87 : decode cX6_copy 87 = .ok (.i2l, 1) := by decide +kernel
theorem dX6_copy_88 : decode cX6_copy 88 = .ok (.ladd, 1) := by decide +kernel
theorem dX6_copy_89 : decode cX6_copy 89 = .ok (.aload_n 0, 1) := by decide +kernel
theorem dX6_copy_90 : decode cX6_copy 90 = .ok (.getfield 17, 3) := by decide +kernel
theorem dX6_copy_93 : decode cX6_copy 93 = .ok (.iload_n 1, 1) := by decide +kernel
theorem dX6_copy_94 : decode cX6_copy 94 = .ok (.iaload, 1) := by decide +kernel
theorem dX6_copy_95 : decode cX6_copy 95 = .ok (.i2l, 1) := by decide +kernel
theorem dX6_copy_96 : decode cX6_copy 96 = .ok (.lcmp, 1) := by decide +kernel
theorem dX6_copy_97 : decode cX6_copy 97 = .ok (.ifCond .gt 21, 3) := by decide +kernel
theorem dX6_copy_100 : decode cX6_copy 100 = .ok (.iload 4, 2) := by decide +kernel
theorem dX6_copy_102 : decode cX6_copy 102 = .ok (.i2l, 1) := by decide +kernel
theorem dX6_copy_103 : decode cX6_copy 103 = .ok (.iload 5, 2) := by decide +kernel
theorem dX6_copy_105 : decode cX6_copy 105 = .ok (.i2l, 1) := by decide +kernel
theorem dX6_copy_106 : decode cX6_copy 106 = .ok (.ladd, 1) := by decide +kernel
theorem dX6_copy_107 : decode cX6_copy 107 = .ok (.aload_n 0, 1) := by decide +kernel
theorem dX6_copy_108 : decode cX6_copy 108 = .ok (.getfield 17, 3) := by decide +kernel
theorem dX6_copy_111 : decode cX6_copy 111 = .ok (.iload_n 3, 1) := by decide +kernel
theorem dX6_copy_112 : decode cX6_copy 112 = .ok (.iaload, 1) := by decide +kernel
theorem dX6_copy_113 : decode cX6_copy 113 = .ok (.i2l, 1) := by decide +kernel
theorem dX6_copy_114 : decode cX6_copy 114 = .ok (.lcmp, 1) := by decide +kernel
theorem dX6_copy_115 : decode cX6_copy 115 = .ok (.ifCond .le 6, 3) := by decide +kernel
theorem dX6_copy_118 : decode cX6_copy 118 = .ok (.bipush (-13), 2) := by decide +kernel
theorem dX6_copy_120 : decode cX6_copy 120 = .ok (.ireturn, 1) := by decide +kernel
theorem dX6_copy_121 : decode cX6_copy 121 = .ok (.iconst 0, 1) := by decide +kernel
theorem dX6_copy_122 : decode cX6_copy 122 = .ok (.istore 6, 2) := by decide +kernel
theorem dX6_copy_124 : decode cX6_copy 124 = .ok (.iload 6, 2) := by decide +kernel
theorem dX6_copy_126 : decode cX6_copy 126 = .ok (.iload 5, 2) := by decide +kernel
theorem dX6_copy_128 : decode cX6_copy 128 = .ok (.if_icmp .ge 51, 3) := by decide +kernel
theorem dX6_copy_131 : decode cX6_copy 131 = .ok (.aload_n 0, 1) := by decide +kernel
theorem dX6_copy_132 : decode cX6_copy 132 = .ok (.getfield 49, 3) := by decide +kernel
theorem dX6_copy_135 : decode cX6_copy 135 = .ok (.iload 6, 2) := by decide +kernel
theorem dX6_copy_137 : decode cX6_copy 137 = .ok (.aload_n 0, 1) := by decide +kernel
theorem dX6_copy_138 : decode cX6_copy 138 = .ok (.getfield 20, 3) := by decide +kernel
theorem dX6_copy_141 : decode cX6_copy 141 = .ok (.bipush 64, 2) := by decide +kernel
theorem dX6_copy_143 : decode cX6_copy 143 = .ok (.iload_n 1, 1) := by decide +kernel
theorem dX6_copy_144 : decode cX6_copy 144 = .ok (.imul, 1) := by decide +kernel
theorem dX6_copy_145 : decode cX6_copy 145 = .ok (.iload_n 2, 1) := by decide +kernel
theorem dX6_copy_146 : decode cX6_copy 146 = .ok (.iadd, 1) := by decide +kernel
theorem dX6_copy_147 : decode cX6_copy 147 = .ok (.iload 6, 2) := by decide +kernel
theorem dX6_copy_149 : decode cX6_copy 149 = .ok (.iadd, 1) := by decide +kernel
theorem dX6_copy_150 : decode cX6_copy 150 = .ok (.iaload, 1) := by decide +kernel
theorem dX6_copy_151 : decode cX6_copy 151 = .ok (.iastore, 1) := by decide +kernel
theorem dX6_copy_152 : decode cX6_copy 152 = .ok (.aload_n 0, 1) := by decide +kernel
theorem dX6_copy_153 : decode cX6_copy 153 = .ok (.getfield 52, 3) := by decide +kernel
theorem dX6_copy_156 : decode cX6_copy 156 = .ok (.iload 6, 2) := by decide +kernel
theorem dX6_copy_158 : decode cX6_copy 158 = .ok (.aload_n 0, 1) := by decide +kernel
theorem dX6_copy_159 : decode cX6_copy 159 = .ok (.getfield 23, 3) := by decide +kernel
theorem dX6_copy_162 : decode cX6_copy 162 = .ok (.bipush 64, 2) := by decide +kernel
theorem dX6_copy_164 : decode cX6_copy 164 = .ok (.iload_n 1, 1) := by decide +kernel
theorem dX6_copy_165 : decode cX6_copy 165 = .ok (.imul, 1) := by decide +kernel
theorem dX6_copy_166 : decode cX6_copy 166 = .ok (.iload_n 2, 1) := by decide +kernel
theorem dX6_copy_167 : decode cX6_copy 167 = .ok (.iadd, 1) := by decide +kernel
theorem dX6_copy_168 : decode cX6_copy 168 = .ok (.iload 6, 2) := by decide +kernel
theorem dX6_copy_170 : decode cX6_copy 170 = .ok (.iadd, 1) := by decide +kernel
theorem dX6_copy_171 : decode cX6_copy 171 = .ok (.iaload, 1) := by decide +kernel
theorem dX6_copy_172 : decode cX6_copy 172 = .ok (.iastore, 1) := by decide +kernel
theorem dX6_copy_173 : decode cX6_copy 173 = .ok (.iinc 6 1, 3) := by decide +kernel
theorem dX6_copy_176 : decode cX6_copy 176 = .ok (.goto (-52), 3) := by decide +kernel
theorem dX6_copy_179 : decode cX6_copy 179 = .ok (.iconst 0, 1) := by decide +kernel
theorem dX6_copy_180 : decode cX6_copy 180 = .ok (.istore 6, 2) := by decide +kernel
theorem dX6_copy_182 : decode cX6_copy 182 = .ok (.iload 6, 2) := by decide +kernel
theorem dX6_copy_184 : decode cX6_copy 184 = .ok (.iload 5, 2) := by decide +kernel
theorem dX6_copy_186 : decode cX6_copy 186 = .ok (.if_icmp .ge 53, 3) := by decide +kernel
theorem dX6_copy_189 : decode cX6_copy 189 = .ok (.aload_n 0, 1) := by decide +kernel
theorem dX6_copy_190 : decode cX6_copy 190 = .ok (.getfield 20, 3) := by decide +kernel
theorem dX6_copy_193 : decode cX6_copy 193 = .ok (.bipush 64, 2) := by decide +kernel
theorem dX6_copy_195 : decode cX6_copy 195 = .ok (.iload_n 3, 1) := by decide +kernel
theorem dX6_copy_196 : decode cX6_copy 196 = .ok (.imul, 1) := by decide +kernel
theorem dX6_copy_197 : decode cX6_copy 197 = .ok (.iload 4, 2) := by decide +kernel
theorem dX6_copy_199 : decode cX6_copy 199 = .ok (.iadd, 1) := by decide +kernel
theorem dX6_copy_200 : decode cX6_copy 200 = .ok (.iload 6, 2) := by decide +kernel
theorem dX6_copy_202 : decode cX6_copy 202 = .ok (.iadd, 1) := by decide +kernel
theorem dX6_copy_203 : decode cX6_copy 203 = .ok (.aload_n 0, 1) := by decide +kernel
theorem dX6_copy_204 : decode cX6_copy 204 = .ok (.getfield 49, 3) := by decide +kernel
theorem dX6_copy_207 : decode cX6_copy 207 = .ok (.iload 6, 2) := by decide +kernel
theorem dX6_copy_209 : decode cX6_copy 209 = .ok (.iaload, 1) := by decide +kernel
theorem dX6_copy_210 : decode cX6_copy 210 = .ok (.iastore, 1) := by decide +kernel
theorem dX6_copy_211 : decode cX6_copy 211 = .ok (.aload_n 0, 1) := by decide +kernel
theorem dX6_copy_212 : decode cX6_copy 212 = .ok (.getfield 23, 3) := by decide +kernel
theorem dX6_copy_215 : decode cX6_copy 215 = .ok (.bipush 64, 2) := by decide +kernel
theorem dX6_copy_217 : decode cX6_copy 217 = .ok (.iload_n 3, 1) := by decide +kernel
theorem dX6_copy_218 : decode cX6_copy 218 = .ok (.imul, 1) := by decide +kernel
theorem dX6_copy_219 : decode cX6_copy 219 = .ok (.iload 4, 2) := by decide +kernel
theorem dX6_copy_221 : decode cX6_copy 221 = .ok (.iadd, 1) := by decide +kernel
theorem dX6_copy_222 : decode cX6_copy 222 = .ok (.iload 6, 2) := by decide +kernel
theorem dX6_copy_224 : decode cX6_copy 224 = .ok (.iadd, 1) := by decide +kernel
theorem dX6_copy_225 : decode cX6_copy 225 = .ok (.aload_n 0, 1) := by decide +kernel
theorem dX6_copy_226 : decode cX6_copy 226 = .ok (.getfield 52, 3) := by decide +kernel
theorem dX6_copy_229 : decode cX6_copy 229 = .ok (.iload 6, 2) := by decide +kernel
theorem dX6_copy_231 : decode cX6_copy 231 = .ok (.iaload, 1) := by decide +kernel
theorem dX6_copy_232 : decode cX6_copy 232 = .ok (.iastore, 1) := by decide +kernel
theorem dX6_copy_233 : decode cX6_copy 233 = .ok (.iinc 6 1, 3) := by decide +kernel
theorem dX6_copy_236 : decode cX6_copy 236 = .ok (.goto (-54), 3) := by decide +kernel
theorem dX6_copy_239 : decode cX6_copy 239 = .ok (.iload 5, 2) := by decide +kernel
theorem dX6_copy_241 : decode cX6_copy 241 = .ok (.ireturn, 1) := by decide +kernel
theorem dX6_spikes_0 : decode cX6_spikes 0 = .ok (.iload_n 1, 1) := by decide +kernel
theorem dX6_spikes_1 : decode cX6_spikes 1 = .ok (.i2l, 1) := by decide +kernel
theorem dX6_spikes_2 : decode cX6_spikes 2 = .ok (.lconst 0, 1) := by decide +kernel
theorem dX6_spikes_3 : decode cX6_spikes 3 = .ok (.ldc2_w 58, 3) := by decide +kernel
theorem dX6_spikes_6 : decode cX6_spikes 6 = .ok (.invokestatic 60, 3) := by decide +kernel
theorem dX6_spikes_9 : decode cX6_spikes 9 = .ok (.ifCond .eq 7, 3) := by decide +kernel
theorem dX6_spikes_12 : decode cX6_spikes 12 = .ok (.iload_n 2, 1) := by decide +kernel
theorem dX6_spikes_13 : decode cX6_spikes 13 = .ok (.ifCond .ge 6, 3) := by decide +kernel
theorem dX6_spikes_16 : decode cX6_spikes 16 = .ok (.bipush (-2), 2) := by decide +kernel
theorem dX6_spikes_18 : decode cX6_spikes 18 = .ok (.ireturn, 1) := by decide +kernel
theorem dX6_spikes_19 : decode cX6_spikes 19 = .ok (.aload_n 0, 1) := by decide +kernel
theorem dX6_spikes_20 : decode cX6_spikes 20 = .ok (.getfield 7, 3) := by decide +kernel
theorem dX6_spikes_23 : decode cX6_spikes 23 = .ok (.iload_n 1, 1) := by decide +kernel
theorem dX6_spikes_24 : decode cX6_spikes 24 = .ok (.baload, 1) := by decide +kernel
theorem dX6_spikes_25 : decode cX6_spikes 25 = .ok (.ifCond .ne 6, 3) := by decide +kernel
theorem dX6_spikes_28 : decode cX6_spikes 28 = .ok (.bipush (-10), 2) := by decide +kernel
theorem dX6_spikes_30 : decode cX6_spikes 30 = .ok (.ireturn, 1) := by decide +kernel
theorem dX6_spikes_31 : decode cX6_spikes 31 = .ok (.bipush 64, 2) := by decide +kernel
theorem dX6_spikes_33 : decode cX6_spikes 33 = .ok (.iload_n 1, 1) := by decide +kernel
theorem dX6_spikes_34 : decode cX6_spikes 34 = .ok (.imul, 1) := by decide +kernel
theorem dX6_spikes_35 : decode cX6_spikes 35 = .ok (.istore_n 3, 1) := by decide +kernel
theorem dX6_spikes_36 : decode cX6_spikes 36 = .ok (.iconst 0, 1) := by decide +kernel
theorem dX6_spikes_37 : decode cX6_spikes 37 = .ok (.istore 4, 2) := by decide +kernel
theorem dX6_spikes_39 : decode cX6_spikes 39 = .ok (.iconst 0, 1) := by decide +kernel
theorem dX6_spikes_40 : decode cX6_spikes 40 = .ok (.istore 5, 2) := by decide +kernel
theorem dX6_spikes_42 : decode cX6_spikes 42 = .ok (.iload 5, 2) := by decide +kernel
theorem dX6_spikes_44 : decode cX6_spikes 44 = .ok (.aload_n 0, 1) := by decide +kernel
theorem dX6_spikes_45 : decode cX6_spikes 45 = .ok (.getfield 17, 3) := by decide +kernel
theorem dX6_spikes_48 : decode cX6_spikes 48 = .ok (.iload_n 1, 1) := by decide +kernel
theorem dX6_spikes_49 : decode cX6_spikes 49 = .ok (.iaload, 1) := by decide +kernel
theorem dX6_spikes_50 : decode cX6_spikes 50 = .ok (.if_icmp .ge 154, 3) := by decide +kernel
theorem dX6_spikes_53 : decode cX6_spikes 53 = .ok (.aload_n 0, 1) := by decide +kernel
theorem dX6_spikes_54 : decode cX6_spikes 54 = .ok (.getfield 49, 3) := by decide +kernel
theorem dX6_spikes_57 : decode cX6_spikes 57 = .ok (.iload 5, 2) := by decide +kernel
theorem dX6_spikes_59 : decode cX6_spikes 59 = .ok (.iconst 0, 1) := by decide +kernel
theorem dX6_spikes_60 : decode cX6_spikes 60 = .ok (.iastore, 1) := by decide +kernel
theorem dX6_spikes_61 : decode cX6_spikes 61 = .ok (.iload 5, 2) := by decide +kernel
theorem dX6_spikes_63 : decode cX6_spikes 63 = .ok (.ifCond .le 135, 3) := by decide +kernel
theorem dX6_spikes_66 : decode cX6_spikes 66 = .ok (.iload 5, 2) := by decide +kernel
theorem dX6_spikes_68 : decode cX6_spikes 68 = .ok (.iconst 1, 1) := by decide +kernel
theorem dX6_spikes_69 : decode cX6_spikes 69 = .ok (.iadd, 1) := by decide +kernel
theorem dX6_spikes_70 : decode cX6_spikes 70 = .ok (.aload_n 0, 1) := by decide +kernel
theorem dX6_spikes_71 : decode cX6_spikes 71 = .ok (.getfield 17, 3) := by decide +kernel
theorem dX6_spikes_74 : decode cX6_spikes 74 = .ok (.iload_n 1, 1) := by decide +kernel
theorem dX6_spikes_75 : decode cX6_spikes 75 = .ok (.iaload, 1) := by decide +kernel
theorem dX6_spikes_76 : decode cX6_spikes 76 = .ok (.if_icmp .ge 122, 3) := by decide +kernel
theorem dX6_spikes_79 : decode cX6_spikes 79 = .ok (.aload_n 0, 1) := by decide +kernel
theorem dX6_spikes_80 : decode cX6_spikes 80 = .ok (.getfield 20, 3) := by decide +kernel
theorem dX6_spikes_83 : decode cX6_spikes 83 = .ok (.iload_n 3, 1) := by decide +kernel
theorem dX6_spikes_84 : decode cX6_spikes 84 = .ok (.iload 5, 2) := by decide +kernel
theorem dX6_spikes_86 : decode cX6_spikes 86 = .ok (.iadd, 1) := by decide +kernel
theorem dX6_spikes_87 : decode cX6_spikes 87 = .ok (.iaload, 1) := by decide +kernel
theorem dX6_spikes_88 : decode cX6_spikes 88 = .ok (.ifCond .le 110, 3) := by decide +kernel
theorem dX6_spikes_91 : decode cX6_spikes 91 = .ok (.aload_n 0, 1) := by decide +kernel
theorem dX6_spikes_92 : decode cX6_spikes 92 = .ok (.getfield 20, 3) := by decide +kernel
theorem dX6_spikes_95 : decode cX6_spikes 95 = .ok (.iload_n 3, 1) := by decide +kernel
theorem dX6_spikes_96 : decode cX6_spikes 96 = .ok (.iload 5, 2) := by decide +kernel
theorem dX6_spikes_98 : decode cX6_spikes 98 = .ok (.iadd, 1) := by decide +kernel
theorem dX6_spikes_99 : decode cX6_spikes 99 = .ok (.iconst 1, 1) := by decide +kernel
theorem dX6_spikes_100 : decode cX6_spikes 100 = .ok (.isub, 1) := by decide +kernel
theorem dX6_spikes_101 : decode cX6_spikes 101 = .ok (.iaload, 1) := by decide +kernel
theorem dX6_spikes_102 : decode cX6_spikes 102 = .ok (.ifCond .le 96, 3) := by decide +kernel
theorem dX6_spikes_105 : decode cX6_spikes 105 = .ok (.aload_n 0, 1) := by decide +kernel
theorem dX6_spikes_106 : decode cX6_spikes 106 = .ok (.getfield 20, 3) := by decide +kernel
theorem dX6_spikes_109 : decode cX6_spikes 109 = .ok (.iload_n 3, 1) := by decide +kernel
theorem dX6_spikes_110 : decode cX6_spikes 110 = .ok (.iload 5, 2) := by decide +kernel
theorem dX6_spikes_112 : decode cX6_spikes 112 = .ok (.iadd, 1) := by decide +kernel
theorem dX6_spikes_113 : decode cX6_spikes 113 = .ok (.iconst 1, 1) := by decide +kernel
theorem dX6_spikes_114 : decode cX6_spikes 114 = .ok (.iadd, 1) := by decide +kernel
theorem dX6_spikes_115 : decode cX6_spikes 115 = .ok (.iaload, 1) := by decide +kernel
theorem dX6_spikes_116 : decode cX6_spikes 116 = .ok (.ifCond .le 82, 3) := by decide +kernel
theorem dX6_spikes_119 : decode cX6_spikes 119 = .ok (.ldc2_w 64, 3) := by decide +kernel
theorem dX6_spikes_122 : decode cX6_spikes 122 = .ok (.aload_n 0, 1) := by decide +kernel
theorem dX6_spikes_123 : decode cX6_spikes 123 = .ok (.getfield 23, 3) := by decide +kernel
theorem dX6_spikes_126 : decode cX6_spikes 126 = .ok (.iload_n 3, 1) := by decide +kernel
theorem dX6_spikes_127 : decode cX6_spikes 127 = .ok (.iload 5, 2) := by decide +kernel
theorem dX6_spikes_129 : decode cX6_spikes 129 = .ok (.iadd, 1) := by decide +kernel
theorem dX6_spikes_130 : decode cX6_spikes 130 = .ok (.iaload, 1) := by decide +kernel
theorem dX6_spikes_131 : decode cX6_spikes 131 = .ok (.i2l, 1) := by decide +kernel
theorem dX6_spikes_132 : decode cX6_spikes 132 = .ok (.lmul, 1) := by decide +kernel
theorem dX6_spikes_133 : decode cX6_spikes 133 = .ok (.aload_n 0, 1) := by decide +kernel
theorem dX6_spikes_134 : decode cX6_spikes 134 = .ok (.getfield 23, 3) := by decide +kernel
theorem dX6_spikes_137 : decode cX6_spikes 137 = .ok (.iload_n 3, 1) := by decide +kernel
theorem dX6_spikes_138 : decode cX6_spikes 138 = .ok (.iload 5, 2) := by decide +kernel
theorem dX6_spikes_140 : decode cX6_spikes 140 = .ok (.iadd, 1) := by decide +kernel
theorem dX6_spikes_141 : decode cX6_spikes 141 = .ok (.iconst 1, 1) := by decide +kernel
theorem dX6_spikes_142 : decode cX6_spikes 142 = .ok (.isub, 1) := by decide +kernel
theorem dX6_spikes_143 : decode cX6_spikes 143 = .ok (.iaload, 1) := by decide +kernel
theorem dX6_spikes_144 : decode cX6_spikes 144 = .ok (.i2l, 1) := by decide +kernel
theorem dX6_spikes_145 : decode cX6_spikes 145 = .ok (.lsub, 1) := by decide +kernel
theorem dX6_spikes_146 : decode cX6_spikes 146 = .ok (.aload_n 0, 1) := by decide +kernel
theorem dX6_spikes_147 : decode cX6_spikes 147 = .ok (.getfield 23, 3) := by decide +kernel
theorem dX6_spikes_150 : decode cX6_spikes 150 = .ok (.iload_n 3, 1) := by decide +kernel
theorem dX6_spikes_151 : decode cX6_spikes 151 = .ok (.iload 5, 2) := by decide +kernel
theorem dX6_spikes_153 : decode cX6_spikes 153 = .ok (.iadd, 1) := by decide +kernel
theorem dX6_spikes_154 : decode cX6_spikes 154 = .ok (.iconst 1, 1) := by decide +kernel
theorem dX6_spikes_155 : decode cX6_spikes 155 = .ok (.iadd, 1) := by decide +kernel
theorem dX6_spikes_156 : decode cX6_spikes 156 = .ok (.iaload, 1) := by decide +kernel
theorem dX6_spikes_157 : decode cX6_spikes 157 = .ok (.i2l, 1) := by decide +kernel
theorem dX6_spikes_158 : decode cX6_spikes 158 = .ok (.lsub, 1) := by decide +kernel
theorem dX6_spikes_159 : decode cX6_spikes 159 = .ok (.lstore 6, 2) := by decide +kernel
theorem dX6_spikes_161 : decode cX6_spikes 161 = .ok (.aload_n 0, 1) := by decide +kernel
theorem dX6_spikes_162 : decode cX6_spikes 162 = .ok (.getfield 49, 3) := by decide +kernel
theorem dX6_spikes_165 : decode cX6_spikes 165 = .ok (.iload 5, 2) := by decide +kernel
theorem dX6_spikes_167 : decode cX6_spikes 167 = .ok (.lload 6, 2) := by decide +kernel
theorem dX6_spikes_169 : decode cX6_spikes 169 = .ok (.ldc2_w 64, 3) := by decide +kernel
theorem dX6_spikes_172 : decode cX6_spikes 172 = .ok (.iload_n 2, 1) := by decide +kernel
theorem dX6_spikes_173 : decode cX6_spikes 173 = .ok (.i2l, 1) := by decide +kernel
theorem dX6_spikes_174 : decode cX6_spikes 174 = .ok (.lmul, 1) := by decide +kernel
theorem dX6_spikes_175 : decode cX6_spikes 175 = .ok (.lcmp, 1) := by decide +kernel
theorem dX6_spikes_176 : decode cX6_spikes 176 = .ok (.ifCond .gt 16, 3) := by decide +kernel
theorem dX6_spikes_179 : decode cX6_spikes 179 = .ok (.lload 6, 2) := by decide +kernel
theorem dX6_spikes_181 : decode cX6_spikes 181 = .ok (.lneg, 1) := by decide +kernel
theorem dX6_spikes_182 : decode cX6_spikes 182 = .ok (.ldc2_w 64, 3) := by decide +kernel
theorem dX6_spikes_185 : decode cX6_spikes 185 = .ok (.iload_n 2, 1) := by decide +kernel
theorem dX6_spikes_186 : decode cX6_spikes 186 = .ok (.i2l, 1) := by decide +kernel
theorem dX6_spikes_187 : decode cX6_spikes 187 = .ok (.lmul, 1) := by decide +kernel
theorem dX6_spikes_188 : decode cX6_spikes 188 = .ok (.lcmp, 1) := by decide +kernel
theorem dX6_spikes_189 : decode cX6_spikes 189 = .ok (.ifCond .le 7, 3) := by decide +kernel
theorem dX6_spikes_192 : decode cX6_spikes 192 = .ok (.iconst 1, 1) := by decide +kernel
theorem dX6_spikes_193 : decode cX6_spikes 193 = .ok (.goto 4, 3) := by decide +kernel
theorem dX6_spikes_196 : decode cX6_spikes 196 = .ok (.iconst 0, 1) := by decide +kernel
theorem dX6_spikes_197 : decode cX6_spikes 197 = .ok (.iastore, 1) := by decide +kernel
theorem dX6_spikes_198 : decode cX6_spikes 198 = .ok (.iinc 5 1, 3) := by decide +kernel
theorem dX6_spikes_201 : decode cX6_spikes 201 = .ok (.goto (-159), 3) := by decide +kernel
theorem dX6_spikes_204 : decode cX6_spikes 204 = .ok (.iconst 0, 1) := by decide +kernel
theorem dX6_spikes_205 : decode cX6_spikes 205 = .ok (.istore 5, 2) := by decide +kernel
theorem dX6_spikes_207 : decode cX6_spikes 207 = .ok (.iload 5, 2) := by decide +kernel
theorem dX6_spikes_209 : decode cX6_spikes 209 = .ok (.aload_n 0, 1) := by decide +kernel
theorem dX6_spikes_210 : decode cX6_spikes 210 = .ok (.getfield 17, 3) := by decide +kernel
theorem dX6_spikes_213 : decode cX6_spikes 213 = .ok (.iload_n 1, 1) := by decide +kernel
theorem dX6_spikes_214 : decode cX6_spikes 214 = .ok (.iaload, 1) := by decide +kernel
theorem dX6_spikes_215 : decode cX6_spikes 215 = .ok (.if_icmp .ge 43, 3) := by decide +kernel
theorem dX6_spikes_218 : decode cX6_spikes 218 = .ok (.aload_n 0, 1) := by decide +kernel
theorem dX6_spikes_219 : decode cX6_spikes 219 = .ok (.getfield 49, 3) := by decide +kernel
theorem dX6_spikes_222 : decode cX6_spikes 222 = .ok (.iload 5, 2) := by decide +kernel
theorem dX6_spikes_224 : decode cX6_spikes 224 = .ok (.iaload, 1) := by decide +kernel
theorem dX6_spikes_225 : decode cX6_spikes 225 = .ok (.iconst 1, 1) := by decide +kernel
theorem dX6_spikes_226 : decode cX6_spikes 226 = .ok (.if_icmp .ne 26, 3) := by decide +kernel
theorem dX6_spikes_229 : decode cX6_spikes 229 = .ok (.aload_n 0, 1) := by decide +kernel
theorem dX6_spikes_230 : decode cX6_spikes 230 = .ok (.getfield 20, 3) := by decide +kernel
theorem dX6_spikes_233 : decode cX6_spikes 233 = .ok (.iload_n 3, 1) := by decide +kernel
theorem dX6_spikes_234 : decode cX6_spikes 234 = .ok (.iload 5, 2) := by decide +kernel
theorem dX6_spikes_236 : decode cX6_spikes 236 = .ok (.iadd, 1) := by decide +kernel
theorem dX6_spikes_237 : decode cX6_spikes 237 = .ok (.iconst 0, 1) := by decide +kernel
theorem dX6_spikes_238 : decode cX6_spikes 238 = .ok (.iastore, 1) := by decide +kernel
theorem dX6_spikes_239 : decode cX6_spikes 239 = .ok (.aload_n 0, 1) := by decide +kernel
theorem dX6_spikes_240 : decode cX6_spikes 240 = .ok (.getfield 23, 3) := by decide +kernel
theorem dX6_spikes_243 : decode cX6_spikes 243 = .ok (.iload_n 3, 1) := by decide +kernel
theorem dX6_spikes_244 : decode cX6_spikes 244 = .ok (.iload 5, 2) := by decide +kernel
theorem dX6_spikes_246 : decode cX6_spikes 246 = .ok (.iadd, 1) := by decide +kernel
theorem dX6_spikes_247 : decode cX6_spikes 247 = .ok (.iconst 0, 1) := by decide +kernel
theorem dX6_spikes_248 : decode cX6_spikes 248 = .ok (.iastore, 1) := by decide +kernel
theorem dX6_spikes_249 : decode cX6_spikes 249 = .ok (.iinc 4 1, 3) := by decide +kernel
theorem dX6_spikes_252 : decode cX6_spikes 252 = .ok (.iinc 5 1, 3) := by decide +kernel
theorem dX6_spikes_255 : decode cX6_spikes 255 = .ok (.goto (-48), 3) := by decide +kernel
theorem dX6_spikes_258 : decode cX6_spikes 258 = .ok (.iload 4, 2) := by decide +kernel
theorem dX6_spikes_260 : decode cX6_spikes 260 = .ok (.ireturn, 1) := by decide +kernel
theorem dX6_fill_0 : decode cX6_fill 0 = .ok (.iload_n 1, 1) := by decide +kernel
theorem dX6_fill_1 : decode cX6_fill 1 = .ok (.i2l, 1) := by decide +kernel
theorem dX6_fill_2 : decode cX6_fill 2 = .ok (.lconst 0, 1) := by decide +kernel
theorem dX6_fill_3 : decode cX6_fill 3 = .ok (.ldc2_w 58, 3) := by decide +kernel
theorem dX6_fill_6 : decode cX6_fill 6 = .ok (.invokestatic 60, 3) := by decide +kernel
theorem dX6_fill_9 : decode cX6_fill 9 = .ok (.ifCond .eq 15, 3) := by decide +kernel
theorem dX6_fill_12 : decode cX6_fill 12 = .ok (.iload_n 2, 1) := by decide +kernel
theorem dX6_fill_13 : decode cX6_fill 13 = .ok (.i2l, 1) := by decide +kernel
theorem dX6_fill_14 : decode cX6_fill 14 = .ok (.lconst 0, 1) := by decide +kernel
theorem dX6_fill_15 : decode cX6_fill 15 = .ok (.ldc2_w 88, 3) := by decide +kernel
theorem dX6_fill_18 : decode cX6_fill 18 = .ok (.invokestatic 60, 3) := by decide +kernel
theorem dX6_fill_21 : decode cX6_fill 21 = .ok (.ifCond .ne 6, 3) := by decide +kernel
theorem dX6_fill_24 : decode cX6_fill 24 = .ok (.bipush (-2), 2) := by decide +kernel
theorem dX6_fill_26 : decode cX6_fill 26 = .ok (.ireturn, 1) := by decide +kernel
theorem dX6_fill_27 : decode cX6_fill 27 = .ok (.aload_n 0, 1) := by decide +kernel
theorem dX6_fill_28 : decode cX6_fill 28 = .ok (.getfield 7, 3) := by decide +kernel
theorem dX6_fill_31 : decode cX6_fill 31 = .ok (.iload_n 1, 1) := by decide +kernel
theorem dX6_fill_32 : decode cX6_fill 32 = .ok (.baload, 1) := by decide +kernel
theorem dX6_fill_33 : decode cX6_fill 33 = .ok (.ifCond .ne 6, 3) := by decide +kernel
theorem dX6_fill_36 : decode cX6_fill 36 = .ok (.bipush (-10), 2) := by decide +kernel
theorem dX6_fill_38 : decode cX6_fill 38 = .ok (.ireturn, 1) := by decide +kernel
theorem dX6_fill_39 : decode cX6_fill 39 = .ok (.bipush 64, 2) := by decide +kernel
theorem dX6_fill_41 : decode cX6_fill 41 = .ok (.iload_n 1, 1) := by decide +kernel
theorem dX6_fill_42 : decode cX6_fill 42 = .ok (.imul, 1) := by decide +kernel
theorem dX6_fill_43 : decode cX6_fill 43 = .ok (.istore_n 3, 1) := by decide +kernel
theorem dX6_fill_44 : decode cX6_fill 44 = .ok (.iconst 0, 1) := by decide +kernel
theorem dX6_fill_45 : decode cX6_fill 45 = .ok (.istore 4, 2) := by decide +kernel
theorem dX6_fill_47 : decode cX6_fill 47 = .ok (.iconst 0, 1) := by decide +kernel
theorem dX6_fill_48 : decode cX6_fill 48 = .ok (.istore 5, 2) := by decide +kernel
theorem dX6_fill_50 : decode cX6_fill 50 = .ok (.iload 5, 2) := by decide +kernel
theorem dX6_fill_52 : decode cX6_fill 52 = .ok (.aload_n 0, 1) := by decide +kernel
theorem dX6_fill_53 : decode cX6_fill 53 = .ok (.getfield 17, 3) := by decide +kernel
theorem dX6_fill_56 : decode cX6_fill 56 = .ok (.iload_n 1, 1) := by decide +kernel
theorem dX6_fill_57 : decode cX6_fill 57 = .ok (.iaload, 1) := by decide +kernel
theorem dX6_fill_58 : decode cX6_fill 58 = .ok (.if_icmp .ge 186, 3) := by decide +kernel
theorem dX6_fill_61 : decode cX6_fill 61 = .ok (.iload 5, 2) := by decide +kernel
theorem dX6_fill_63 : decode cX6_fill 63 = .ok (.istore 6, 2) := by decide +kernel
theorem dX6_fill_65 : decode cX6_fill 65 = .ok (.iload 6, 2) := by decide +kernel
theorem dX6_fill_67 : decode cX6_fill 67 = .ok (.aload_n 0, 1) := by decide +kernel
theorem dX6_fill_68 : decode cX6_fill 68 = .ok (.getfield 17, 3) := by decide +kernel
theorem dX6_fill_71 : decode cX6_fill 71 = .ok (.iload_n 1, 1) := by decide +kernel
theorem dX6_fill_72 : decode cX6_fill 72 = .ok (.iaload, 1) := by decide +kernel
theorem dX6_fill_73 : decode cX6_fill 73 = .ok (.if_icmp .ge 21, 3) := by decide +kernel
theorem dX6_fill_76 : decode cX6_fill 76 = .ok (.aload_n 0, 1) := by decide +kernel
theorem dX6_fill_77 : decode cX6_fill 77 = .ok (.getfield 20, 3) := by decide +kernel
theorem dX6_fill_80 : decode cX6_fill 80 = .ok (.iload_n 3, 1) := by decide +kernel
theorem dX6_fill_81 : decode cX6_fill 81 = .ok (.iload 6, 2) := by decide +kernel
theorem dX6_fill_83 : decode cX6_fill 83 = .ok (.iadd, 1) := by decide +kernel
theorem dX6_fill_84 : decode cX6_fill 84 = .ok (.iaload, 1) := by decide +kernel
theorem dX6_fill_85 : decode cX6_fill 85 = .ok (.ifCond .ne 9, 3) := by decide +kernel
theorem dX6_fill_88 : decode cX6_fill 88 = .ok (.iinc 6 1, 3) := by decide +kernel
theorem dX6_fill_91 : decode cX6_fill 91 = .ok (.goto (-26), 3) := by decide +kernel
theorem dX6_fill_94 : decode cX6_fill 94 = .ok (.iload 6, 2) := by decide +kernel
theorem dX6_fill_96 : decode cX6_fill 96 = .ok (.iload 5, 2) := by decide +kernel
theorem dX6_fill_98 : decode cX6_fill 98 = .ok (.isub, 1) := by decide +kernel
theorem dX6_fill_99 : decode cX6_fill 99 = .ok (.istore 7, 2) := by decide +kernel
theorem dX6_fill_101 : decode cX6_fill 101 = .ok (.iload 7, 2) := by decide +kernel
theorem dX6_fill_103 : decode cX6_fill 103 = .ok (.ifCond .le 122, 3) := by decide +kernel
theorem dX6_fill_106 : decode cX6_fill 106 = .ok (.iload 7, 2) := by decide +kernel
theorem dX6_fill_108 : decode cX6_fill 108 = .ok (.iload_n 2, 1) := by decide +kernel
theorem dX6_fill_109 : decode cX6_fill 109 = .ok (.if_icmp .gt 116, 3) := by decide +kernel
theorem dX6_fill_112 : decode cX6_fill 112 = .ok (.iload 5, 2) := by decide +kernel
theorem dX6_fill_114 : decode cX6_fill 114 = .ok (.ifCond .le 111, 3) := by decide +kernel
theorem dX6_fill_117 : decode cX6_fill 117 = .ok (.iload 6, 2) := by decide +kernel
theorem dX6_fill_119 : decode cX6_fill 119 = .ok (.aload_n 0, 1) := by decide +kernel
theorem dX6_fill_120 : decode cX6_fill 120 = .ok (.getfield 17, 3) := by decide +kernel
theorem dX6_fill_123 : decode cX6_fill 123 = .ok (.iload_n 1, 1) := by decide +kernel
theorem dX6_fill_124 : decode cX6_fill 124 = .ok (.iaload, 1) := by decide +kernel
theorem dX6_fill_125 : decode cX6_fill 125 = .ok (.if_icmp .ge 100, 3) := by decide +kernel
theorem dX6_fill_128 : decode cX6_fill 128 = .ok (.aload_n 0, 1) := by decide +kernel
theorem dX6_fill_129 : decode cX6_fill 129 = .ok (.getfield 23, 3) := by decide +kernel
theorem dX6_fill_132 : decode cX6_fill 132 = .ok (.iload_n 3, 1) := by decide +kernel
theorem dX6_fill_133 : decode cX6_fill 133 = .ok (.iload 5, 2) := by decide +kernel
theorem dX6_fill_135 : decode cX6_fill 135 = .ok (.iadd, 1) := by decide +kernel
theorem dX6_fill_136 : decode cX6_fill 136 = .ok (.iconst 1, 1) := by decide +kernel
theorem dX6_fill_137 : decode cX6_fill 137 = .ok (.isub, 1) := by decide +kernel
theorem dX6_fill_138 : decode cX6_fill 138 = .ok (.iaload, 1) := by decide +kernel
theorem dX6_fill_139 : decode cX6_fill 139 = .ok (.i2l, 1) := by decide +kernel
theorem dX6_fill_140 : decode cX6_fill 140 = .ok (.lstore 8, 2) := by decide +kernel
theorem dX6_fill_142 : decode cX6_fill 142 = .ok (.aload_n 0, 1) := by decide +kernel
theorem dX6_fill_143 : decode cX6_fill 143 = .ok (.getfield 23, 3) := by decide +kernel
theorem dX6_fill_146 : decode cX6_fill 146 = .ok (.iload_n 3, 1) := by decide +kernel
theorem dX6_fill_147 : decode cX6_fill 147 = .ok (.iload 6, 2) := by decide +kernel
theorem dX6_fill_149 : decode cX6_fill 149 = .ok (.iadd, 1) := by decide +kernel
theorem dX6_fill_150 : decode cX6_fill 150 = .ok (.iaload, 1) := by decide +kernel
theorem dX6_fill_151 : decode cX6_fill 151 = .ok (.i2l, 1) := by decide +kernel
theorem dX6_fill_152 : decode cX6_fill 152 = .ok (.lstore 10, 2) := by decide +kernel
theorem dX6_fill_154 : decode cX6_fill 154 = .ok (.iconst 1, 1) := by decide +kernel
theorem dX6_fill_155 : decode cX6_fill 155 = .ok (.istore 12, 2) := by decide +kernel
theorem dX6_fill_157 : decode cX6_fill 157 = .ok (.iload 12, 2) := by decide +kernel
theorem dX6_fill_159 : decode cX6_fill 159 = .ok (.iload 7, 2) := by decide +kernel
theorem dX6_fill_161 : decode cX6_fill 161 = .ok (.if_icmp .gt 57, 3) := by decide +kernel
theorem dX6_fill_164 : decode cX6_fill 164 = .ok (.aload_n 0, 1) := by decide +kernel
theorem dX6_fill_165 : decode cX6_fill 165 = .ok (.getfield 20, 3) := by decide +kernel
theorem dX6_fill_168 : decode cX6_fill 168 = .ok (.iload_n 3, 1) := by decide +kernel
theorem dX6_fill_169 : decode cX6_fill 169 = .ok (.iload 5, 2) := by decide +kernel
theorem dX6_fill_171 : decode cX6_fill 171 = .ok (.iadd, 1) := by decide +kernel
theorem dX6_fill_172 : decode cX6_fill 172 = .ok (.iload 12, 2) := by decide +kernel
theorem dX6_fill_174 : decode cX6_fill 174 = .ok (.iadd, 1) := by decide +kernel
theorem dX6_fill_175 : decode cX6_fill 175 = .ok (.iconst 1, 1) := by decide +kernel
theorem dX6_fill_176 : decode cX6_fill 176 = .ok (.isub, 1) := by decide +kernel
theorem dX6_fill_177 : decode cX6_fill 177 = .ok (.iconst 2, 1) := by decide +kernel
theorem dX6_fill_178 : decode cX6_fill 178 = .ok (.iastore, 1) := by decide +kernel
theorem dX6_fill_179 : decode cX6_fill 179 = .ok (.aload_n 0, 1) := by decide +kernel
theorem dX6_fill_180 : decode cX6_fill 180 = .ok (.getfield 23, 3) := by decide +kernel
theorem dX6_fill_183 : decode cX6_fill 183 = .ok (.iload_n 3, 1) := by decide +kernel
theorem dX6_fill_184 : decode cX6_fill 184 = .ok (.iload 5, 2) := by decide +kernel
theorem dX6_fill_186 : decode cX6_fill 186 = .ok (.iadd, 1) := by decide +kernel
theorem dX6_fill_187 : decode cX6_fill 187 = .ok (.iload 12, 2) := by decide +kernel
theorem dX6_fill_189 : decode cX6_fill 189 = .ok (.iadd, 1) := by decide +kernel
theorem dX6_fill_190 : decode cX6_fill 190 = .ok (.iconst 1, 1) := by decide +kernel
theorem dX6_fill_191 : decode cX6_fill 191 = .ok (.isub, 1) := by decide +kernel
theorem dX6_fill_192 : decode cX6_fill 192 = .ok (.lload 8, 2) := by decide +kernel
theorem dX6_fill_194 : decode cX6_fill 194 = .ok (.lload 10, 2) := by decide +kernel
theorem dX6_fill_196 : decode cX6_fill 196 = .ok (.lload 8, 2) := by decide +kernel
theorem dX6_fill_198 : decode cX6_fill 198 = .ok (.lsub, 1) := by decide +kernel
theorem dX6_fill_199 : decode cX6_fill 199 = .ok (.iload 12, 2) := by decide +kernel
theorem dX6_fill_201 : decode cX6_fill 201 = .ok (.i2l, 1) := by decide +kernel
theorem dX6_fill_202 : decode cX6_fill 202 = .ok (.lmul, 1) := by decide +kernel
theorem dX6_fill_203 : decode cX6_fill 203 = .ok (.iload 7, 2) := by decide +kernel
theorem dX6_fill_205 : decode cX6_fill 205 = .ok (.iconst 1, 1) := by decide +kernel
theorem dX6_fill_206 : decode cX6_fill 206 = .ok (.iadd, 1) := by decide +kernel
theorem dX6_fill_207 : decode cX6_fill 207 = .ok (.i2l, 1) := by decide +kernel
theorem dX6_fill_208 : decode cX6_fill 208 = .ok (.ldiv, 1) := by decide +kernel
theorem dX6_fill_209 : decode cX6_fill 209 = .ok (.ladd, 1) := by decide +kernel
theorem dX6_fill_210 : decode cX6_fill 210 = .ok (.l2i, 1) := by decide +kernel
theorem dX6_fill_211 : decode cX6_fill 211 = .ok (.iastore, 1) := by decide +kernel
theorem dX6_fill_212 : decode cX6_fill 212 = .ok (.iinc 12 1, 3) := by decide +kernel
theorem dX6_fill_215 : decode cX6_fill 215 = .ok (.goto (-58), 3) := by decide +kernel
theorem dX6_fill_218 : decode cX6_fill 218 = .ok (.iload 4, 2) := by decide +kernel
theorem dX6_fill_220 : decode cX6_fill 220 = .ok (.iload 7, 2) := by decide +kernel
theorem dX6_fill_222 : decode cX6_fill 222 = .ok (.iadd, 1) := by decide +kernel
theorem dX6_fill_223 : decode cX6_fill 223 = .ok (.istore 4, 2) := by decide +kernel
theorem dX6_fill_225 : decode cX6_fill 225 = .ok (.iload 7, 2) := by decide +kernel
theorem dX6_fill_227 : decode cX6_fill 227 = .ok (.ifCond .le 8, 3) := by decide +kernel
theorem dX6_fill_230 : decode cX6_fill 230 = .ok (.iload 6, 2) := by decide +kernel
theorem dX6_fill_232 : decode cX6_fill 232 = .ok (.goto 7, 3) := by decide +kernel
theorem dX6_fill_235 : decode cX6_fill 235 = .ok (.iload 5, 2) := by decide +kernel
theorem dX6_fill_237 : decode cX6_fill 237 = .ok (.iconst 1, 1) := by decide +kernel
theorem dX6_fill_238 : decode cX6_fill 238 = .ok (.iadd, 1) := by decide +kernel
theorem dX6_fill_239 : decode cX6_fill 239 = .ok (.istore 5, 2) := by decide +kernel
theorem dX6_fill_241 : decode cX6_fill 241 = .ok (.goto (-191), 3) := by decide +kernel
theorem dX6_fill_244 : decode cX6_fill 244 = .ok (.iload 4, 2) := by decide +kernel
theorem dX6_fill_246 : decode cX6_fill 246 = .ok (.ireturn, 1) := by decide +kernel
theorem dX6_gaps_0 : decode cX6_gaps 0 = .ok (.iconst 0, 1) := by decide +kernel
theorem dX6_gaps_1 : decode cX6_gaps 1 = .ok (.istore_n 3, 1) := by decide +kernel
theorem dX6_gaps_2 : decode cX6_gaps 2 = .ok (.iconst 0, 1) := by decide +kernel
theorem dX6_gaps_3 : decode cX6_gaps 3 = .ok (.istore 4, 2) := by decide +kernel
theorem dX6_gaps_5 : decode cX6_gaps 5 = .ok (.iconst 0, 1) := by decide +kernel
theorem dX6_gaps_6 : decode cX6_gaps 6 = .ok (.istore 5, 2) := by decide +kernel
theorem dX6_gaps_8 : decode cX6_gaps 8 = .ok (.iconst 0, 1) := by decide +kernel
theorem dX6_gaps_9 : decode cX6_gaps 9 = .ok (.istore 6, 2) := by decide +kernel
theorem dX6_gaps_11 : decode cX6_gaps 11 = .ok (.iload 6, 2) := by decide +kernel
theorem dX6_gaps_13 : decode cX6_gaps 13 = .ok (.aload_n 0, 1) := by decide +kernel
theorem dX6_gaps_14 : decode cX6_gaps 14 = .ok (.getfield 17, 3) := by decide +kernel
theorem dX6_gaps_17 : decode cX6_gaps 17 = .ok (.iload_n 1, 1) := by decide +kernel
theorem dX6_gaps_18 : decode cX6_gaps 18 = .ok (.iaload, 1) := by decide +kernel
theorem dX6_gaps_19 : decode cX6_gaps 19 = .ok (.if_icmp .ge 64, 3) := by decide +kernel
theorem dX6_gaps_22 : decode cX6_gaps 22 = .ok (.aload_n 0, 1) := by decide +kernel
theorem dX6_gaps_23 : decode cX6_gaps 23 = .ok (.getfield 20, 3) := by decide +kernel
theorem dX6_gaps_26 : decode cX6_gaps 26 = .ok (.bipush 64, 2) := by decide +kernel
theorem dX6_gaps_28 : decode cX6_gaps 28 = .ok (.iload_n 1, 1) := by decide +kernel
theorem dX6_gaps_29 : decode cX6_gaps 29 = .ok (.imul, 1) := by decide +kernel
theorem dX6_gaps_30 : decode cX6_gaps 30 = .ok (.iload 6, 2) := by decide +kernel
theorem dX6_gaps_32 : decode cX6_gaps 32 = .ok (.iadd, 1) := by decide +kernel
theorem dX6_gaps_33 : decode cX6_gaps 33 = .ok (.iaload, 1) := by decide +kernel
theorem dX6_gaps_34 : decode cX6_gaps 34 = .ok (.ifCond .ne 10, 3) := by decide +kernel
theorem dX6_gaps_37 : decode cX6_gaps 37 = .ok (.iload 5, 2) := by decide +kernel
theorem dX6_gaps_39 : decode cX6_gaps 39 = .ok (.iconst 1, 1) := by decide +kernel
theorem dX6_gaps_40 : decode cX6_gaps 40 = .ok (.iadd, 1) := by decide +kernel
theorem dX6_gaps_41 : decode cX6_gaps 41 = .ok (.goto 4, 3) := by decide +kernel
theorem dX6_gaps_44 : decode cX6_gaps 44 = .ok (.iconst 0, 1) := by decide +kernel
theorem dX6_gaps_45 : decode cX6_gaps 45 = .ok (.istore 5, 2) := by decide +kernel
theorem dX6_gaps_47 : decode cX6_gaps 47 = .ok (.iload_n 3, 1) := by decide +kernel
theorem dX6_gaps_48 : decode cX6_gaps 48 = .ok (.iload 5, 2) := by decide +kernel
theorem dX6_gaps_50 : decode cX6_gaps 50 = .ok (.iconst 1, 1) := by decide +kernel
theorem dX6_gaps_51 : decode cX6_gaps 51 = .ok (.if_icmp .ne 7, 3) := by decide +kernel
theorem dX6_gaps_54 : decode cX6_gaps 54 = .ok (.iconst 1, 1) := by decide +kernel
theorem dX6_gaps_55 : decode cX6_gaps 55 = .ok (.goto 4, 3) := by decide +kernel
theorem dX6_gaps_58 : decode cX6_gaps 58 = .ok (.iconst 0, 1) := by decide +kernel
theorem dX6_gaps_59 : decode cX6_gaps 59 = .ok (.iadd, 1) := by decide +kernel
theorem dX6_gaps_60 : decode cX6_gaps 60 = .ok (.istore_n 3, 1) := by decide +kernel
theorem dX6_gaps_61 : decode cX6_gaps 61 = .ok (.iload 5, 2) := by decide +kernel
theorem dX6_gaps_63 : decode cX6_gaps 63 = .ok (.iload 4, 2) := by decide +kernel
theorem dX6_gaps_65 : decode cX6_gaps 65 = .ok (.if_icmp .le 8, 3) := by decide +kernel
theorem dX6_gaps_68 : decode cX6_gaps 68 = .ok (.iload 5, 2) := by decide +kernel
theorem dX6_gaps_70 : decode cX6_gaps 70 = .ok (.goto 5, 3) := by decide +kernel
theorem dX6_gaps_73 : decode cX6_gaps 73 = .ok (.iload 4, 2) := by decide +kernel
theorem dX6_gaps_75 : decode cX6_gaps 75 = .ok (.istore 4, 2) := by decide +kernel
theorem dX6_gaps_77 : decode cX6_gaps 77 = .ok (.iinc 6 1, 3) := by decide +kernel
theorem dX6_gaps_80 : decode cX6_gaps 80 = .ok (.goto (-69), 3) := by decide +kernel
theorem dX6_gaps_83 : decode cX6_gaps 83 = .ok (.iload_n 2, 1) := by decide +kernel
theorem dX6_gaps_84 : decode cX6_gaps 84 = .ok (.ifCond .eq 8, 3) := by decide +kernel
theorem dX6_gaps_87 : decode cX6_gaps 87 = .ok (.iload 4, 2) := by decide +kernel
theorem dX6_gaps_89 : decode cX6_gaps 89 = .ok (.goto 4, 3) := by decide +kernel
theorem dX6_gaps_92 : decode cX6_gaps 92 = .ok (.iload_n 3, 1) := by decide +kernel
theorem dX6_gaps_93 : decode cX6_gaps 93 = .ok (.ireturn, 1) := by decide +kernel
theorem dX6_those_0 : decode cX6_those 0 = .ok (.iconst 0, 1) := by decide +kernel
theorem dX6_those_1 : decode cX6_those 1 = .ok (.istore_n 3, 1) := by decide +kernel
theorem dX6_those_2 : decode cX6_those 2 = .ok (.iconst 0, 1) := by decide +kernel
theorem dX6_those_3 : decode cX6_those 3 = .ok (.istore 4, 2) := by decide +kernel
theorem dX6_those_5 : decode cX6_those 5 = .ok (.iload 4, 2) := by decide +kernel
theorem dX6_those_7 : decode cX6_those 7 = .ok (.aload_n 0, 1) := by decide +kernel
theorem dX6_those_8 : decode cX6_those 8 = .ok (.getfield 17, 3) := by decide +kernel
theorem dX6_those_11 : decode cX6_those 11 = .ok (.iload_n 1, 1) := by decide +kernel
theorem dX6_those_12 : decode cX6_those 12 = .ok (.iaload, 1) := by decide +kernel
theorem dX6_those_13 : decode cX6_those 13 = .ok (.if_icmp .ge 33, 3) := by decide +kernel
theorem dX6_those_16 : decode cX6_those 16 = .ok (.iload_n 3, 1) := by decide +kernel
theorem dX6_those_17 : decode cX6_those 17 = .ok (.aload_n 0, 1) := by decide +kernel
theorem dX6_those_18 : decode cX6_those 18 = .ok (.getfield 20, 3) := by decide +kernel
theorem dX6_those_21 : decode cX6_those 21 = .ok (.bipush 64, 2) := by decide +kernel
theorem dX6_those_23 : decode cX6_those 23 = .ok (.iload_n 1, 1) := by decide +kernel
theorem dX6_those_24 : decode cX6_those 24 = .ok (.imul, 1) := by decide +kernel
theorem dX6_those_25 : decode cX6_those 25 = .ok (.iload 4, 2) := by decide +kernel
theorem dX6_those_27 : decode cX6_those 27 = .ok (.iadd, 1) := by decide +kernel
theorem dX6_those_28 : decode cX6_those 28 = .ok (.iaload, 1) := by decide +kernel
theorem dX6_those_29 : decode cX6_those 29 = .ok (.iload_n 2, 1) := by decide +kernel
theorem dX6_those_30 : decode cX6_those 30 = .ok (.if_icmp .ne 7, 3) := by decide +kernel
theorem dX6_those_33 : decode cX6_those 33 = .ok (.iconst 1, 1) := by decide +kernel
theorem dX6_those_34 : decode cX6_those 34 = .ok (.goto 4, 3) := by decide +kernel
theorem dX6_those_37 : decode cX6_those 37 = .ok (.iconst 0, 1) := by decide +kernel
theorem dX6_those_38 : decode cX6_those 38 = .ok (.iadd, 1) := by decide +kernel
theorem dX6_those_39 : decode cX6_those 39 = .ok (.istore_n 3, 1) := by decide +kernel
theorem dX6_those_40 : decode cX6_those 40 = .ok (.iinc 4 1, 3) := by decide +kernel
theorem dX6_those_43 : decode cX6_those 43 = .ok (.goto (-38), 3) := by decide +kernel
theorem dX6_those_46 : decode cX6_those 46 = .ok (.iload_n 3, 1) := by decide +kernel
theorem dX6_those_47 : decode cX6_those 47 = .ok (.ireturn, 1) := by decide +kernel
theorem dX6_about_0 : decode cX6_about 0 = .ok (.iload_n 1, 1) := by decide +kernel
theorem dX6_about_1 : decode cX6_about 1 = .ok (.i2l, 1) := by decide +kernel
theorem dX6_about_2 : decode cX6_about 2 = .ok (.lconst 0, 1) := by decide +kernel
theorem dX6_about_3 : decode cX6_about 3 = .ok (.ldc2_w 58, 3) := by decide +kernel
theorem dX6_about_6 : decode cX6_about 6 = .ok (.invokestatic 60, 3) := by decide +kernel
theorem dX6_about_9 : decode cX6_about 9 = .ok (.ifCond .eq 15, 3) := by decide +kernel
theorem dX6_about_12 : decode cX6_about 12 = .ok (.iload_n 2, 1) := by decide +kernel
theorem dX6_about_13 : decode cX6_about 13 = .ok (.i2l, 1) := by decide +kernel
theorem dX6_about_14 : decode cX6_about 14 = .ok (.lconst 0, 1) := by decide +kernel
theorem dX6_about_15 : decode cX6_about 15 = .ok (.ldc2_w 90, 3) := by decide +kernel
theorem dX6_about_18 : decode cX6_about 18 = .ok (.invokestatic 60, 3) := by decide +kernel
theorem dX6_about_21 : decode cX6_about 21 = .ok (.ifCond .ne 6, 3) := by decide +kernel
theorem dX6_about_24 : decode cX6_about 24 = .ok (.bipush (-2), 2) := by decide +kernel
theorem dX6_about_26 : decode cX6_about 26 = .ok (.ireturn, 1) := by decide +kernel
theorem dX6_about_27 : decode cX6_about 27 = .ok (.aload_n 0, 1) := by decide +kernel
theorem dX6_about_28 : decode cX6_about 28 = .ok (.getfield 7, 3) := by decide +kernel
theorem dX6_about_31 : decode cX6_about 31 = .ok (.iload_n 1, 1) := by decide +kernel
theorem dX6_about_32 : decode cX6_about 32 = .ok (.baload, 1) := by decide +kernel
theorem dX6_about_33 : decode cX6_about 33 = .ok (.ifCond .ne 6, 3) := by decide +kernel
theorem dX6_about_36 : decode cX6_about 36 = .ok (.bipush (-10), 2) := by decide +kernel
theorem dX6_about_38 : decode cX6_about 38 = .ok (.ireturn, 1) := by decide +kernel
theorem dX6_about_39 : decode cX6_about 39 = .ok (.iload_n 2, 1) := by decide +kernel
theorem dX6_about_40 : decode cX6_about 40 = .ok (.tableswitch 71 0 4 #[36, 43, 50, 57, 64], 36) := by decide +kernel
theorem dX6_about_76 : decode cX6_about 76 = .ok (.aload_n 0, 1) := by decide +kernel
theorem dX6_about_77 : decode cX6_about 77 = .ok (.getfield 13, 3) := by decide +kernel
theorem dX6_about_80 : decode cX6_about 80 = .ok (.iload_n 1, 1) := by decide +kernel
theorem dX6_about_81 : decode cX6_about 81 = .ok (.iaload, 1) := by decide +kernel
theorem dX6_about_82 : decode cX6_about 82 = .ok (.ireturn, 1) := by decide +kernel
theorem dX6_about_83 : decode cX6_about 83 = .ok (.aload_n 0, 1) := by decide +kernel
theorem dX6_about_84 : decode cX6_about 84 = .ok (.getfield 17, 3) := by decide +kernel
theorem dX6_about_87 : decode cX6_about 87 = .ok (.iload_n 1, 1) := by decide +kernel
theorem dX6_about_88 : decode cX6_about 88 = .ok (.iaload, 1) := by decide +kernel
theorem dX6_about_89 : decode cX6_about 89 = .ok (.ireturn, 1) := by decide +kernel
theorem dX6_about_90 : decode cX6_about 90 = .ok (.aload_n 0, 1) := by decide +kernel
theorem dX6_about_91 : decode cX6_about 91 = .ok (.iload_n 1, 1) := by decide +kernel
theorem dX6_about_92 : decode cX6_about 92 = .ok (.iconst 0, 1) := by decide +kernel
theorem dX6_about_93 : decode cX6_about 93 = .ok (.invokevirtual 92, 3) := by decide +kernel
theorem dX6_about_96 : decode cX6_about 96 = .ok (.ireturn, 1) := by decide +kernel
theorem dX6_about_97 : decode cX6_about 97 = .ok (.aload_n 0, 1) := by decide +kernel
theorem dX6_about_98 : decode cX6_about 98 = .ok (.iload_n 1, 1) := by decide +kernel
theorem dX6_about_99 : decode cX6_about 99 = .ok (.iconst 1, 1) := by decide +kernel
theorem dX6_about_100 : decode cX6_about 100 = .ok (.invokevirtual 92, 3) := by decide +kernel
theorem dX6_about_103 : decode cX6_about 103 = .ok (.ireturn, 1) := by decide +kernel
theorem dX6_about_104 : decode cX6_about 104 = .ok (.aload_n 0, 1) := by decide +kernel
theorem dX6_about_105 : decode cX6_about 105 = .ok (.iload_n 1, 1) := by decide +kernel
theorem dX6_about_106 : decode cX6_about 106 = .ok (.iconst 0, 1) := by decide +kernel
theorem dX6_about_107 : decode cX6_about 107 = .ok (.invokevirtual 96, 3) := by decide +kernel
theorem dX6_about_110 : decode cX6_about 110 = .ok (.ireturn, 1) := by decide +kernel
theorem dX6_about_111 : decode cX6_about 111 = .ok (.aload_n 0, 1) := by decide +kernel
theorem dX6_about_112 : decode cX6_about 112 = .ok (.iload_n 1, 1) := by decide +kernel
theorem dX6_about_113 : decode cX6_about 113 = .ok (.iconst 2, 1) := by decide +kernel
theorem dX6_about_114 : decode cX6_about 114 = .ok (.invokevirtual 96, 3) := by decide +kernel
theorem dX6_about_117 : decode cX6_about 117 = .ok (.ireturn, 1) := by decide +kernel
theorem dX6_isRow_0 : decode cX6_isRow 0 = .ok (.iload_n 0, 1) := by decide +kernel
theorem dX6_isRow_1 : decode cX6_isRow 1 = .ok (.i2l, 1) := by decide +kernel
theorem dX6_isRow_2 : decode cX6_isRow 2 = .ok (.lconst 0, 1) := by decide +kernel
theorem dX6_isRow_3 : decode cX6_isRow 3 = .ok (.ldc2_w 90, 3) := by decide +kernel
theorem dX6_isRow_6 : decode cX6_isRow 6 = .ok (.invokestatic 60, 3) := by decide +kernel
theorem dX6_isRow_9 : decode cX6_isRow 9 = .ok (.ireturn, 1) := by decide +kernel
theorem dX6_raise_0 : decode cX6_raise 0 = .ok (.iload_n 1, 1) := by decide +kernel
theorem dX6_raise_1 : decode cX6_raise 1 = .ok (.i2l, 1) := by decide +kernel
theorem dX6_raise_2 : decode cX6_raise 2 = .ok (.lconst 0, 1) := by decide +kernel
theorem dX6_raise_3 : decode cX6_raise 3 = .ok (.ldc2_w 58, 3) := by decide +kernel
theorem dX6_raise_6 : decode cX6_raise 6 = .ok (.invokestatic 60, 3) := by decide +kernel
theorem dX6_raise_9 : decode cX6_raise 9 = .ok (.ifCond .eq 10, 3) := by decide +kernel
theorem dX6_raise_12 : decode cX6_raise 12 = .ok (.iload_n 2, 1) := by decide +kernel
theorem dX6_raise_13 : decode cX6_raise 13 = .ok (.invokestatic 100, 3) := by decide +kernel
theorem dX6_raise_16 : decode cX6_raise 16 = .ok (.ifCond .ne 6, 3) := by decide +kernel
theorem dX6_raise_19 : decode cX6_raise 19 = .ok (.bipush (-2), 2) := by decide +kernel
theorem dX6_raise_21 : decode cX6_raise 21 = .ok (.ireturn, 1) := by decide +kernel
theorem dX6_raise_22 : decode cX6_raise 22 = .ok (.aload_n 0, 1) := by decide +kernel
theorem dX6_raise_23 : decode cX6_raise 23 = .ok (.getfield 7, 3) := by decide +kernel
theorem dX6_raise_26 : decode cX6_raise 26 = .ok (.iload_n 1, 1) := by decide +kernel
theorem dX6_raise_27 : decode cX6_raise 27 = .ok (.baload, 1) := by decide +kernel
theorem dX6_raise_28 : decode cX6_raise 28 = .ok (.ifCond .ne 6, 3) := by decide +kernel
theorem dX6_raise_31 : decode cX6_raise 31 = .ok (.bipush (-10), 2) := by decide +kernel
theorem dX6_raise_33 : decode cX6_raise 33 = .ok (.ireturn, 1) := by decide +kernel
theorem dX6_raise_34 : decode cX6_raise 34 = .ok (.aload_n 0, 1) := by decide +kernel
theorem dX6_raise_35 : decode cX6_raise 35 = .ok (.iload_n 1, 1) := by decide +kernel
theorem dX6_raise_36 : decode cX6_raise 36 = .ok (.iconst 0, 1) := by decide +kernel
theorem dX6_raise_37 : decode cX6_raise 37 = .ok (.invokevirtual 96, 3) := by decide +kernel
theorem dX6_raise_40 : decode cX6_raise 40 = .ok (.ifCond .le 6, 3) := by decide +kernel
theorem dX6_raise_43 : decode cX6_raise 43 = .ok (.bipush (-15), 2) := by decide +kernel
theorem dX6_raise_45 : decode cX6_raise 45 = .ok (.ireturn, 1) := by decide +kernel
theorem dX6_raise_46 : decode cX6_raise 46 = .ok (.aload_n 0, 1) := by decide +kernel
theorem dX6_raise_47 : decode cX6_raise 47 = .ok (.getfield 26, 3) := by decide +kernel
theorem dX6_raise_50 : decode cX6_raise 50 = .ok (.iload_n 2, 1) := by decide +kernel
theorem dX6_raise_51 : decode cX6_raise 51 = .ok (.aload_n 0, 1) := by decide +kernel
theorem dX6_raise_52 : decode cX6_raise 52 = .ok (.getfield 17, 3) := by decide +kernel
theorem dX6_raise_55 : decode cX6_raise 55 = .ok (.iload_n 1, 1) := by decide +kernel
theorem dX6_raise_56 : decode cX6_raise 56 = .ok (.iaload, 1) := by decide +kernel
theorem dX6_raise_57 : decode cX6_raise 57 = .ok (.iastore, 1) := by decide +kernel
theorem dX6_raise_58 : decode cX6_raise 58 = .ok (.iconst 0, 1) := by decide +kernel
theorem dX6_raise_59 : decode cX6_raise 59 = .ok (.istore_n 3, 1) := by decide +kernel
theorem dX6_raise_60 : decode cX6_raise 60 = .ok (.iload_n 3, 1) := by decide +kernel
theorem dX6_raise_61 : decode cX6_raise 61 = .ok (.aload_n 0, 1) := by decide +kernel
theorem dX6_raise_62 : decode cX6_raise 62 = .ok (.getfield 17, 3) := by decide +kernel
theorem dX6_raise_65 : decode cX6_raise 65 = .ok (.iload_n 1, 1) := by decide +kernel
theorem dX6_raise_66 : decode cX6_raise 66 = .ok (.iaload, 1) := by decide +kernel
theorem dX6_raise_67 : decode cX6_raise 67 = .ok (.if_icmp .ge 32, 3) := by decide +kernel
theorem dX6_raise_70 : decode cX6_raise 70 = .ok (.aload_n 0, 1) := by decide +kernel
theorem dX6_raise_71 : decode cX6_raise 71 = .ok (.getfield 29, 3) := by decide +kernel
theorem dX6_raise_74 : decode cX6_raise 74 = .ok (.bipush 64, 2) := by decide +kernel
theorem dX6_raise_76 : decode cX6_raise 76 = .ok (.iload_n 2, 1) := by decide +kernel
theorem dX6_raise_77 : decode cX6_raise 77 = .ok (.imul, 1) := by decide +kernel
theorem dX6_raise_78 : decode cX6_raise 78 = .ok (.iload_n 3, 1) := by decide +kernel
theorem dX6_raise_79 : decode cX6_raise 79 = .ok (.iadd, 1) := by decide +kernel
theorem dX6_raise_80 : decode cX6_raise 80 = .ok (.aload_n 0, 1) := by decide +kernel
theorem dX6_raise_81 : decode cX6_raise 81 = .ok (.getfield 23, 3) := by decide +kernel
theorem dX6_raise_84 : decode cX6_raise 84 = .ok (.bipush 64, 2) := by decide +kernel
theorem dX6_raise_86 : decode cX6_raise 86 = .ok (.iload_n 1, 1) := by decide +kernel
theorem dX6_raise_87 : decode cX6_raise 87 = .ok (.imul, 1) := by decide +kernel
theorem dX6_raise_88 : decode cX6_raise 88 = .ok (.iload_n 3, 1) := by decide +kernel
theorem dX6_raise_89 : decode cX6_raise 89 = .ok (.iadd, 1) := by decide +kernel
