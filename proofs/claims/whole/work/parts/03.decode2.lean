theorem dX6_raise_90 : decode cX6_raise 90 = .ok (.iaload, 1) := by decide +kernel
theorem dX6_raise_91 : decode cX6_raise 91 = .ok (.i2l, 1) := by decide +kernel
theorem dX6_raise_92 : decode cX6_raise 92 = .ok (.lastore, 1) := by decide +kernel
theorem dX6_raise_93 : decode cX6_raise 93 = .ok (.iinc 3 1, 3) := by decide +kernel
theorem dX6_raise_96 : decode cX6_raise 96 = .ok (.goto (-36), 3) := by decide +kernel
theorem dX6_raise_99 : decode cX6_raise 99 = .ok (.aload_n 0, 1) := by decide +kernel
theorem dX6_raise_100 : decode cX6_raise 100 = .ok (.getfield 17, 3) := by decide +kernel
theorem dX6_raise_103 : decode cX6_raise 103 = .ok (.iload_n 1, 1) := by decide +kernel
theorem dX6_raise_104 : decode cX6_raise 104 = .ok (.iaload, 1) := by decide +kernel
theorem dX6_raise_105 : decode cX6_raise 105 = .ok (.ireturn, 1) := by decide +kernel
theorem dX6_number_0 : decode cX6_number 0 = .ok (.iload_n 1, 1) := by decide +kernel
theorem dX6_number_1 : decode cX6_number 1 = .ok (.invokestatic 100, 3) := by decide +kernel
theorem dX6_number_4 : decode cX6_number 4 = .ok (.ifCond .ne 7, 3) := by decide +kernel
theorem dX6_number_7 : decode cX6_number 7 = .ok (.ldc2_w 104, 3) := by decide +kernel
theorem dX6_number_10 : decode cX6_number 10 = .ok (.lreturn, 1) := by decide +kernel
theorem dX6_number_11 : decode cX6_number 11 = .ok (.iload_n 2, 1) := by decide +kernel
theorem dX6_number_12 : decode cX6_number 12 = .ok (.i2l, 1) := by decide +kernel
theorem dX6_number_13 : decode cX6_number 13 = .ok (.lconst 0, 1) := by decide +kernel
theorem dX6_number_14 : decode cX6_number 14 = .ok (.aload_n 0, 1) := by decide +kernel
theorem dX6_number_15 : decode cX6_number 15 = .ok (.getfield 26, 3) := by decide +kernel
theorem dX6_number_18 : decode cX6_number 18 = .ok (.iload_n 1, 1) := by decide +kernel
theorem dX6_number_19 : decode cX6_number 19 = .ok (.iaload, 1) := by decide +kernel
theorem dX6_number_20 : decode cX6_number 20 = .ok (.iconst 1, 1) := by decide +kernel
theorem dX6_number_21 : decode cX6_number 21 = .ok (.isub, 1) := by decide +kernel
theorem dX6_number_22 : decode cX6_number 22 = .ok (.i2l, 1) := by decide +kernel
theorem dX6_number_23 : decode cX6_number 23 = .ok (.invokestatic 60, 3) := by decide +kernel
theorem dX6_number_26 : decode cX6_number 26 = .ok (.ifCond .eq 17, 3) := by decide +kernel
theorem dX6_number_29 : decode cX6_number 29 = .ok (.aload_n 0, 1) := by decide +kernel
theorem dX6_number_30 : decode cX6_number 30 = .ok (.getfield 29, 3) := by decide +kernel
theorem dX6_number_33 : decode cX6_number 33 = .ok (.bipush 64, 2) := by decide +kernel
theorem dX6_number_35 : decode cX6_number 35 = .ok (.iload_n 1, 1) := by decide +kernel
theorem dX6_number_36 : decode cX6_number 36 = .ok (.imul, 1) := by decide +kernel
theorem dX6_number_37 : decode cX6_number 37 = .ok (.iload_n 2, 1) := by decide +kernel
theorem dX6_number_38 : decode cX6_number 38 = .ok (.iadd, 1) := by decide +kernel
theorem dX6_number_39 : decode cX6_number 39 = .ok (.laload, 1) := by decide +kernel
theorem dX6_number_40 : decode cX6_number 40 = .ok (.goto 6, 3) := by decide +kernel
theorem dX6_number_43 : decode cX6_number 43 = .ok (.ldc2_w 84, 3) := by decide +kernel
theorem dX6_number_46 : decode cX6_number 46 = .ok (.lreturn, 1) := by decide +kernel
theorem dX6_factor_0 : decode cX6_factor 0 = .ok (.iload_n 0, 1) := by decide +kernel
theorem dX6_factor_1 : decode cX6_factor 1 = .ok (.ifCond .ne 17, 3) := by decide +kernel
theorem dX6_factor_4 : decode cX6_factor 4 = .ok (.iload_n 2, 1) := by decide +kernel
theorem dX6_factor_5 : decode cX6_factor 5 = .ok (.iload_n 3, 1) := by decide +kernel
theorem dX6_factor_6 : decode cX6_factor 6 = .ok (.if_icmp .ne 7, 3) := by decide +kernel
theorem dX6_factor_9 : decode cX6_factor 9 = .ok (.iload_n 1, 1) := by decide +kernel
theorem dX6_factor_10 : decode cX6_factor 10 = .ok (.goto 4, 3) := by decide +kernel
theorem dX6_factor_13 : decode cX6_factor 13 = .ok (.iconst 0, 1) := by decide +kernel
theorem dX6_factor_14 : decode cX6_factor 14 = .ok (.iconst 1, 1) := by decide +kernel
theorem dX6_factor_15 : decode cX6_factor 15 = .ok (.isub, 1) := by decide +kernel
theorem dX6_factor_16 : decode cX6_factor 16 = .ok (.i2l, 1) := by decide +kernel
theorem dX6_factor_17 : decode cX6_factor 17 = .ok (.lreturn, 1) := by decide +kernel
theorem dX6_factor_18 : decode cX6_factor 18 = .ok (.iload_n 0, 1) := by decide +kernel
theorem dX6_factor_19 : decode cX6_factor 19 = .ok (.iconst 1, 1) := by decide +kernel
theorem dX6_factor_20 : decode cX6_factor 20 = .ok (.if_icmp .ne 52, 3) := by decide +kernel
theorem dX6_factor_23 : decode cX6_factor 23 = .ok (.iload_n 1, 1) := by decide +kernel
theorem dX6_factor_24 : decode cX6_factor 24 = .ok (.i2l, 1) := by decide +kernel
theorem dX6_factor_25 : decode cX6_factor 25 = .ok (.iload_n 1, 1) := by decide +kernel
theorem dX6_factor_26 : decode cX6_factor 26 = .ok (.i2l, 1) := by decide +kernel
theorem dX6_factor_27 : decode cX6_factor 27 = .ok (.lmul, 1) := by decide +kernel
theorem dX6_factor_28 : decode cX6_factor 28 = .ok (.lconst 1, 1) := by decide +kernel
theorem dX6_factor_29 : decode cX6_factor 29 = .ok (.lsub, 1) := by decide +kernel
theorem dX6_factor_30 : decode cX6_factor 30 = .ok (.lstore 4, 2) := by decide +kernel
theorem dX6_factor_32 : decode cX6_factor 32 = .ok (.iload_n 2, 1) := by decide +kernel
theorem dX6_factor_33 : decode cX6_factor 33 = .ok (.iload_n 3, 1) := by decide +kernel
theorem dX6_factor_34 : decode cX6_factor 34 = .ok (.if_icmp .ne 11, 3) := by decide +kernel
theorem dX6_factor_37 : decode cX6_factor 37 = .ok (.iload_n 1, 1) := by decide +kernel
theorem dX6_factor_38 : decode cX6_factor 38 = .ok (.i2l, 1) := by decide +kernel
theorem dX6_factor_39 : decode cX6_factor 39 = .ok (.lload 4, 2) := by decide +kernel
theorem dX6_factor_41 : decode cX6_factor 41 = .ok (.lmul, 1) := by decide +kernel
theorem dX6_factor_42 : decode cX6_factor 42 = .ok (.goto 4, 3) := by decide +kernel
theorem dX6_factor_45 : decode cX6_factor 45 = .ok (.lconst 0, 1) := by decide +kernel
theorem dX6_factor_46 : decode cX6_factor 46 = .ok (.lload 4, 2) := by decide +kernel
theorem dX6_factor_48 : decode cX6_factor 48 = .ok (.lsub, 1) := by decide +kernel
theorem dX6_factor_49 : decode cX6_factor 49 = .ok (.ldc2_w 106, 3) := by decide +kernel
theorem dX6_factor_52 : decode cX6_factor 52 = .ok (.iconst 2, 1) := by decide +kernel
theorem dX6_factor_53 : decode cX6_factor 53 = .ok (.iload_n 2, 1) := by decide +kernel
theorem dX6_factor_54 : decode cX6_factor 54 = .ok (.imul, 1) := by decide +kernel
theorem dX6_factor_55 : decode cX6_factor 55 = .ok (.iload_n 1, 1) := by decide +kernel
theorem dX6_factor_56 : decode cX6_factor 56 = .ok (.isub, 1) := by decide +kernel
theorem dX6_factor_57 : decode cX6_factor 57 = .ok (.iconst 1, 1) := by decide +kernel
theorem dX6_factor_58 : decode cX6_factor 58 = .ok (.iadd, 1) := by decide +kernel
theorem dX6_factor_59 : decode cX6_factor 59 = .ok (.i2l, 1) := by decide +kernel
theorem dX6_factor_60 : decode cX6_factor 60 = .ok (.lmul, 1) := by decide +kernel
theorem dX6_factor_61 : decode cX6_factor 61 = .ok (.iconst 2, 1) := by decide +kernel
theorem dX6_factor_62 : decode cX6_factor 62 = .ok (.iload_n 3, 1) := by decide +kernel
theorem dX6_factor_63 : decode cX6_factor 63 = .ok (.imul, 1) := by decide +kernel
theorem dX6_factor_64 : decode cX6_factor 64 = .ok (.iload_n 1, 1) := by decide +kernel
theorem dX6_factor_65 : decode cX6_factor 65 = .ok (.isub, 1) := by decide +kernel
theorem dX6_factor_66 : decode cX6_factor 66 = .ok (.iconst 1, 1) := by decide +kernel
theorem dX6_factor_67 : decode cX6_factor 67 = .ok (.iadd, 1) := by decide +kernel
theorem dX6_factor_68 : decode cX6_factor 68 = .ok (.i2l, 1) := by decide +kernel
theorem dX6_factor_69 : decode cX6_factor 69 = .ok (.lmul, 1) := by decide +kernel
theorem dX6_factor_70 : decode cX6_factor 70 = .ok (.lsub, 1) := by decide +kernel
theorem dX6_factor_71 : decode cX6_factor 71 = .ok (.lreturn, 1) := by decide +kernel
theorem dX6_factor_72 : decode cX6_factor 72 = .ok (.iload_n 0, 1) := by decide +kernel
theorem dX6_factor_73 : decode cX6_factor 73 = .ok (.iconst 2, 1) := by decide +kernel
theorem dX6_factor_74 : decode cX6_factor 74 = .ok (.if_icmp .ne 43, 3) := by decide +kernel
theorem dX6_factor_77 : decode cX6_factor 77 = .ok (.iload_n 3, 1) := by decide +kernel
theorem dX6_factor_78 : decode cX6_factor 78 = .ok (.iload_n 2, 1) := by decide +kernel
theorem dX6_factor_79 : decode cX6_factor 79 = .ok (.if_icmp .ge 15, 3) := by decide +kernel
theorem dX6_factor_82 : decode cX6_factor 82 = .ok (.iload_n 1, 1) := by decide +kernel
theorem dX6_factor_83 : decode cX6_factor 83 = .ok (.iconst 1, 1) := by decide +kernel
theorem dX6_factor_84 : decode cX6_factor 84 = .ok (.isub, 1) := by decide +kernel
theorem dX6_factor_85 : decode cX6_factor 85 = .ok (.i2l, 1) := by decide +kernel
theorem dX6_factor_86 : decode cX6_factor 86 = .ok (.iload_n 2, 1) := by decide +kernel
theorem dX6_factor_87 : decode cX6_factor 87 = .ok (.iload_n 3, 1) := by decide +kernel
theorem dX6_factor_88 : decode cX6_factor 88 = .ok (.isub, 1) := by decide +kernel
theorem dX6_factor_89 : decode cX6_factor 89 = .ok (.i2l, 1) := by decide +kernel
theorem dX6_factor_90 : decode cX6_factor 90 = .ok (.lmul, 1) := by decide +kernel
theorem dX6_factor_91 : decode cX6_factor 91 = .ok (.goto 4, 3) := by decide +kernel
theorem dX6_factor_94 : decode cX6_factor 94 = .ok (.lconst 0, 1) := by decide +kernel
theorem dX6_factor_95 : decode cX6_factor 95 = .ok (.iload_n 3, 1) := by decide +kernel
theorem dX6_factor_96 : decode cX6_factor 96 = .ok (.iload_n 1, 1) := by decide +kernel
theorem dX6_factor_97 : decode cX6_factor 97 = .ok (.iconst 1, 1) := by decide +kernel
theorem dX6_factor_98 : decode cX6_factor 98 = .ok (.isub, 1) := by decide +kernel
theorem dX6_factor_99 : decode cX6_factor 99 = .ok (.if_icmp .ge 15, 3) := by decide +kernel
theorem dX6_factor_102 : decode cX6_factor 102 = .ok (.iload_n 2, 1) := by decide +kernel
theorem dX6_factor_103 : decode cX6_factor 103 = .ok (.i2l, 1) := by decide +kernel
theorem dX6_factor_104 : decode cX6_factor 104 = .ok (.iload_n 1, 1) := by decide +kernel
theorem dX6_factor_105 : decode cX6_factor 105 = .ok (.iconst 1, 1) := by decide +kernel
theorem dX6_factor_106 : decode cX6_factor 106 = .ok (.isub, 1) := by decide +kernel
theorem dX6_factor_107 : decode cX6_factor 107 = .ok (.iload_n 3, 1) := by decide +kernel
theorem dX6_factor_108 : decode cX6_factor 108 = .ok (.isub, 1) := by decide +kernel
theorem dX6_factor_109 : decode cX6_factor 109 = .ok (.i2l, 1) := by decide +kernel
theorem dX6_factor_110 : decode cX6_factor 110 = .ok (.lmul, 1) := by decide +kernel
theorem dX6_factor_111 : decode cX6_factor 111 = .ok (.goto 4, 3) := by decide +kernel
theorem dX6_factor_114 : decode cX6_factor 114 = .ok (.lconst 0, 1) := by decide +kernel
theorem dX6_factor_115 : decode cX6_factor 115 = .ok (.lsub, 1) := by decide +kernel
theorem dX6_factor_116 : decode cX6_factor 116 = .ok (.lreturn, 1) := by decide +kernel
theorem dX6_factor_117 : decode cX6_factor 117 = .ok (.iconst 0, 1) := by decide +kernel
theorem dX6_factor_118 : decode cX6_factor 118 = .ok (.istore 4, 2) := by decide +kernel
theorem dX6_factor_120 : decode cX6_factor 120 = .ok (.iload_n 2, 1) := by decide +kernel
theorem dX6_factor_121 : decode cX6_factor 121 = .ok (.iload_n 2, 1) := by decide +kernel
theorem dX6_factor_122 : decode cX6_factor 122 = .ok (.iconst 1, 1) := by decide +kernel
theorem dX6_factor_123 : decode cX6_factor 123 = .ok (.ishr, 1) := by decide +kernel
theorem dX6_factor_124 : decode cX6_factor 124 = .ok (.ixor, 1) := by decide +kernel
theorem dX6_factor_125 : decode cX6_factor 125 = .ok (.istore 5, 2) := by decide +kernel
theorem dX6_factor_127 : decode cX6_factor 127 = .ok (.iconst 1, 1) := by decide +kernel
theorem dX6_factor_128 : decode cX6_factor 128 = .ok (.istore 6, 2) := by decide +kernel
theorem dX6_factor_130 : decode cX6_factor 130 = .ok (.iload 6, 2) := by decide +kernel
theorem dX6_factor_132 : decode cX6_factor 132 = .ok (.iload_n 1, 1) := by decide +kernel
theorem dX6_factor_133 : decode cX6_factor 133 = .ok (.if_icmp .ge 29, 3) := by decide +kernel
theorem dX6_factor_136 : decode cX6_factor 136 = .ok (.iconst 2, 1) := by decide +kernel
theorem dX6_factor_137 : decode cX6_factor 137 = .ok (.iload 4, 2) := by decide +kernel
theorem dX6_factor_139 : decode cX6_factor 139 = .ok (.imul, 1) := by decide +kernel
theorem dX6_factor_140 : decode cX6_factor 140 = .ok (.iload 5, 2) := by decide +kernel
theorem dX6_factor_142 : decode cX6_factor 142 = .ok (.iconst 1, 1) := by decide +kernel
theorem dX6_factor_143 : decode cX6_factor 143 = .ok (.iand, 1) := by decide +kernel
theorem dX6_factor_144 : decode cX6_factor 144 = .ok (.iadd, 1) := by decide +kernel
theorem dX6_factor_145 : decode cX6_factor 145 = .ok (.istore 4, 2) := by decide +kernel
theorem dX6_factor_147 : decode cX6_factor 147 = .ok (.iload 5, 2) := by decide +kernel
theorem dX6_factor_149 : decode cX6_factor 149 = .ok (.iconst 1, 1) := by decide +kernel
theorem dX6_factor_150 : decode cX6_factor 150 = .ok (.ishr, 1) := by decide +kernel
theorem dX6_factor_151 : decode cX6_factor 151 = .ok (.istore 5, 2) := by decide +kernel
theorem dX6_factor_153 : decode cX6_factor 153 = .ok (.iconst 2, 1) := by decide +kernel
theorem dX6_factor_154 : decode cX6_factor 154 = .ok (.iload 6, 2) := by decide +kernel
theorem dX6_factor_156 : decode cX6_factor 156 = .ok (.imul, 1) := by decide +kernel
theorem dX6_factor_157 : decode cX6_factor 157 = .ok (.istore 6, 2) := by decide +kernel
theorem dX6_factor_159 : decode cX6_factor 159 = .ok (.goto (-29), 3) := by decide +kernel
theorem dX6_factor_162 : decode cX6_factor 162 = .ok (.iload 4, 2) := by decide +kernel
theorem dX6_factor_164 : decode cX6_factor 164 = .ok (.iload_n 3, 1) := by decide +kernel
theorem dX6_factor_165 : decode cX6_factor 165 = .ok (.iand, 1) := by decide +kernel
theorem dX6_factor_166 : decode cX6_factor 166 = .ok (.istore 6, 2) := by decide +kernel
theorem dX6_factor_168 : decode cX6_factor 168 = .ok (.iconst 0, 1) := by decide +kernel
theorem dX6_factor_169 : decode cX6_factor 169 = .ok (.istore 7, 2) := by decide +kernel
theorem dX6_factor_171 : decode cX6_factor 171 = .ok (.iload 6, 2) := by decide +kernel
theorem dX6_factor_173 : decode cX6_factor 173 = .ok (.ifCond .le 21, 3) := by decide +kernel
theorem dX6_factor_176 : decode cX6_factor 176 = .ok (.iload 7, 2) := by decide +kernel
theorem dX6_factor_178 : decode cX6_factor 178 = .ok (.iload 6, 2) := by decide +kernel
theorem dX6_factor_180 : decode cX6_factor 180 = .ok (.iconst 1, 1) := by decide +kernel
theorem dX6_factor_181 : decode cX6_factor 181 = .ok (.iand, 1) := by decide +kernel
theorem dX6_factor_182 : decode cX6_factor 182 = .ok (.ixor, 1) := by decide +kernel
theorem dX6_factor_183 : decode cX6_factor 183 = .ok (.istore 7, 2) := by decide +kernel
theorem dX6_factor_185 : decode cX6_factor 185 = .ok (.iload 6, 2) := by decide +kernel
theorem dX6_factor_187 : decode cX6_factor 187 = .ok (.iconst 1, 1) := by decide +kernel
theorem dX6_factor_188 : decode cX6_factor 188 = .ok (.ishr, 1) := by decide +kernel
theorem dX6_factor_189 : decode cX6_factor 189 = .ok (.istore 6, 2) := by decide +kernel
theorem dX6_factor_191 : decode cX6_factor 191 = .ok (.goto (-20), 3) := by decide +kernel
theorem dX6_factor_194 : decode cX6_factor 194 = .ok (.iload 7, 2) := by decide +kernel
theorem dX6_factor_196 : decode cX6_factor 196 = .ok (.iconst 1, 1) := by decide +kernel
theorem dX6_factor_197 : decode cX6_factor 197 = .ok (.if_icmp .ne 9, 3) := by decide +kernel
theorem dX6_factor_200 : decode cX6_factor 200 = .ok (.ldc2_w 108, 3) := by decide +kernel
theorem dX6_factor_203 : decode cX6_factor 203 = .ok (.goto 4, 3) := by decide +kernel
theorem dX6_factor_206 : decode cX6_factor 206 = .ok (.lconst 1, 1) := by decide +kernel
theorem dX6_factor_207 : decode cX6_factor 207 = .ok (.lreturn, 1) := by decide +kernel
theorem dX6_isPower_0 : decode cX6_isPower 0 = .ok (.iconst 1, 1) := by decide +kernel
theorem dX6_isPower_1 : decode cX6_isPower 1 = .ok (.istore_n 1, 1) := by decide +kernel
theorem dX6_isPower_2 : decode cX6_isPower 2 = .ok (.iload_n 1, 1) := by decide +kernel
theorem dX6_isPower_3 : decode cX6_isPower 3 = .ok (.iload_n 0, 1) := by decide +kernel
theorem dX6_isPower_4 : decode cX6_isPower 4 = .ok (.if_icmp .ge 10, 3) := by decide +kernel
theorem dX6_isPower_7 : decode cX6_isPower 7 = .ok (.iconst 2, 1) := by decide +kernel
theorem dX6_isPower_8 : decode cX6_isPower 8 = .ok (.iload_n 1, 1) := by decide +kernel
theorem dX6_isPower_9 : decode cX6_isPower 9 = .ok (.imul, 1) := by decide +kernel
theorem dX6_isPower_10 : decode cX6_isPower 10 = .ok (.istore_n 1, 1) := by decide +kernel
theorem dX6_isPower_11 : decode cX6_isPower 11 = .ok (.goto (-9), 3) := by decide +kernel
theorem dX6_isPower_14 : decode cX6_isPower 14 = .ok (.iload_n 0, 1) := by decide +kernel
theorem dX6_isPower_15 : decode cX6_isPower 15 = .ok (.ifCond .le 12, 3) := by decide +kernel
theorem dX6_isPower_18 : decode cX6_isPower 18 = .ok (.iload_n 1, 1) := by decide +kernel
theorem dX6_isPower_19 : decode cX6_isPower 19 = .ok (.iload_n 0, 1) := by decide +kernel
theorem dX6_isPower_20 : decode cX6_isPower 20 = .ok (.if_icmp .ne 7, 3) := by decide +kernel
theorem dX6_isPower_23 : decode cX6_isPower 23 = .ok (.iconst 1, 1) := by decide +kernel
theorem dX6_isPower_24 : decode cX6_isPower 24 = .ok (.goto 4, 3) := by decide +kernel
theorem dX6_isPower_27 : decode cX6_isPower 27 = .ok (.iconst 0, 1) := by decide +kernel
theorem dX6_isPower_28 : decode cX6_isPower 28 = .ok (.ireturn, 1) := by decide +kernel
theorem dX6_turn_0 : decode cX6_turn 0 = .ok (.iload_n 1, 1) := by decide +kernel
theorem dX6_turn_1 : decode cX6_turn 1 = .ok (.invokestatic 100, 3) := by decide +kernel
theorem dX6_turn_4 : decode cX6_turn 4 = .ok (.ifCond .eq 15, 3) := by decide +kernel
theorem dX6_turn_7 : decode cX6_turn 7 = .ok (.iload_n 2, 1) := by decide +kernel
theorem dX6_turn_8 : decode cX6_turn 8 = .ok (.i2l, 1) := by decide +kernel
theorem dX6_turn_9 : decode cX6_turn 9 = .ok (.lconst 0, 1) := by decide +kernel
theorem dX6_turn_10 : decode cX6_turn 10 = .ok (.ldc2_w 106, 3) := by decide +kernel
theorem dX6_turn_13 : decode cX6_turn 13 = .ok (.invokestatic 60, 3) := by decide +kernel
theorem dX6_turn_16 : decode cX6_turn 16 = .ok (.ifCond .ne 6, 3) := by decide +kernel
theorem dX6_turn_19 : decode cX6_turn 19 = .ok (.bipush (-2), 2) := by decide +kernel
theorem dX6_turn_21 : decode cX6_turn 21 = .ok (.ireturn, 1) := by decide +kernel
theorem dX6_turn_22 : decode cX6_turn 22 = .ok (.aload_n 0, 1) := by decide +kernel
theorem dX6_turn_23 : decode cX6_turn 23 = .ok (.getfield 26, 3) := by decide +kernel
theorem dX6_turn_26 : decode cX6_turn 26 = .ok (.iload_n 1, 1) := by decide +kernel
theorem dX6_turn_27 : decode cX6_turn 27 = .ok (.iaload, 1) := by decide +kernel
theorem dX6_turn_28 : decode cX6_turn 28 = .ok (.istore_n 3, 1) := by decide +kernel
theorem dX6_turn_29 : decode cX6_turn 29 = .ok (.iload_n 2, 1) := by decide +kernel
theorem dX6_turn_30 : decode cX6_turn 30 = .ok (.iconst 1, 1) := by decide +kernel
theorem dX6_turn_31 : decode cX6_turn 31 = .ok (.if_icmp .eq 8, 3) := by decide +kernel
theorem dX6_turn_34 : decode cX6_turn 34 = .ok (.iload_n 2, 1) := by decide +kernel
theorem dX6_turn_35 : decode cX6_turn 35 = .ok (.iconst 2, 1) := by decide +kernel
theorem dX6_turn_36 : decode cX6_turn 36 = .ok (.if_icmp .ne 8, 3) := by decide +kernel
theorem dX6_turn_39 : decode cX6_turn 39 = .ok (.iload_n 3, 1) := by decide +kernel
theorem dX6_turn_40 : decode cX6_turn 40 = .ok (.iconst 2, 1) := by decide +kernel
theorem dX6_turn_41 : decode cX6_turn 41 = .ok (.if_icmp .lt 15, 3) := by decide +kernel
theorem dX6_turn_44 : decode cX6_turn 44 = .ok (.iload_n 2, 1) := by decide +kernel
theorem dX6_turn_45 : decode cX6_turn 45 = .ok (.iconst 3, 1) := by decide +kernel
theorem dX6_turn_46 : decode cX6_turn 46 = .ok (.if_icmp .ne 13, 3) := by decide +kernel
theorem dX6_turn_49 : decode cX6_turn 49 = .ok (.iload_n 3, 1) := by decide +kernel
theorem dX6_turn_50 : decode cX6_turn 50 = .ok (.invokestatic 110, 3) := by decide +kernel
theorem dX6_turn_53 : decode cX6_turn 53 = .ok (.ifCond .ne 6, 3) := by decide +kernel
theorem dX6_turn_56 : decode cX6_turn 56 = .ok (.bipush (-3), 2) := by decide +kernel
theorem dX6_turn_58 : decode cX6_turn 58 = .ok (.ireturn, 1) := by decide +kernel
theorem dX6_turn_59 : decode cX6_turn 59 = .ok (.iconst 0, 1) := by decide +kernel
theorem dX6_turn_60 : decode cX6_turn 60 = .ok (.istore 4, 2) := by decide +kernel
theorem dX6_turn_62 : decode cX6_turn 62 = .ok (.iload 4, 2) := by decide +kernel
theorem dX6_turn_64 : decode cX6_turn 64 = .ok (.iload_n 3, 1) := by decide +kernel
theorem dX6_turn_65 : decode cX6_turn 65 = .ok (.if_icmp .ge 46, 3) := by decide +kernel
theorem dX6_turn_68 : decode cX6_turn 68 = .ok (.iload_n 2, 1) := by decide +kernel
theorem dX6_turn_69 : decode cX6_turn 69 = .ok (.iconst 1, 1) := by decide +kernel
theorem dX6_turn_70 : decode cX6_turn 70 = .ok (.if_icmp .eq 8, 3) := by decide +kernel
theorem dX6_turn_73 : decode cX6_turn 73 = .ok (.iload_n 2, 1) := by decide +kernel
theorem dX6_turn_74 : decode cX6_turn 74 = .ok (.iconst 2, 1) := by decide +kernel
theorem dX6_turn_75 : decode cX6_turn 75 = .ok (.if_icmp .ne 36, 3) := by decide +kernel
theorem dX6_turn_78 : decode cX6_turn 78 = .ok (.aload_n 0, 1) := by decide +kernel
theorem dX6_turn_79 : decode cX6_turn 79 = .ok (.getfield 29, 3) := by decide +kernel
theorem dX6_turn_82 : decode cX6_turn 82 = .ok (.bipush 64, 2) := by decide +kernel
theorem dX6_turn_84 : decode cX6_turn 84 = .ok (.iload_n 1, 1) := by decide +kernel
theorem dX6_turn_85 : decode cX6_turn 85 = .ok (.imul, 1) := by decide +kernel
theorem dX6_turn_86 : decode cX6_turn 86 = .ok (.iload 4, 2) := by decide +kernel
theorem dX6_turn_88 : decode cX6_turn 88 = .ok (.iadd, 1) := by decide +kernel
theorem dX6_turn_89 : decode cX6_turn 89 = .ok (.laload, 1) := by decide +kernel
theorem dX6_turn_90 : decode cX6_turn 90 = .ok (.ldc2_w 113, 3) := by decide +kernel
theorem dX6_turn_93 : decode cX6_turn 93 = .ok (.ldc2_w 115, 3) := by decide +kernel
theorem dX6_turn_96 : decode cX6_turn 96 = .ok (.invokestatic 60, 3) := by decide +kernel
theorem dX6_turn_99 : decode cX6_turn 99 = .ok (.ifCond .ne 6, 3) := by decide +kernel
theorem dX6_turn_102 : decode cX6_turn 102 = .ok (.bipush (-16), 2) := by decide +kernel
theorem dX6_turn_104 : decode cX6_turn 104 = .ok (.ireturn, 1) := by decide +kernel
theorem dX6_turn_105 : decode cX6_turn 105 = .ok (.iinc 4 1, 3) := by decide +kernel
theorem dX6_turn_108 : decode cX6_turn 108 = .ok (.goto (-46), 3) := by decide +kernel
theorem dX6_turn_111 : decode cX6_turn 111 = .ok (.iconst 0, 1) := by decide +kernel
theorem dX6_turn_112 : decode cX6_turn 112 = .ok (.istore 4, 2) := by decide +kernel
theorem dX6_turn_114 : decode cX6_turn 114 = .ok (.iload 4, 2) := by decide +kernel
theorem dX6_turn_116 : decode cX6_turn 116 = .ok (.iload_n 3, 1) := by decide +kernel
theorem dX6_turn_117 : decode cX6_turn 117 = .ok (.if_icmp .ge 154, 3) := by decide +kernel
theorem dX6_turn_120 : decode cX6_turn 120 = .ok (.lconst 0, 1) := by decide +kernel
theorem dX6_turn_121 : decode cX6_turn 121 = .ok (.lstore 5, 2) := by decide +kernel
theorem dX6_turn_123 : decode cX6_turn 123 = .ok (.lconst 0, 1) := by decide +kernel
theorem dX6_turn_124 : decode cX6_turn 124 = .ok (.lstore 7, 2) := by decide +kernel
theorem dX6_turn_126 : decode cX6_turn 126 = .ok (.iconst 0, 1) := by decide +kernel
theorem dX6_turn_127 : decode cX6_turn 127 = .ok (.istore 9, 2) := by decide +kernel
theorem dX6_turn_129 : decode cX6_turn 129 = .ok (.iload 9, 2) := by decide +kernel
theorem dX6_turn_131 : decode cX6_turn 131 = .ok (.iload_n 3, 1) := by decide +kernel
theorem dX6_turn_132 : decode cX6_turn 132 = .ok (.if_icmp .ge 61, 3) := by decide +kernel
theorem dX6_turn_135 : decode cX6_turn 135 = .ok (.aload_n 0, 1) := by decide +kernel
theorem dX6_turn_136 : decode cX6_turn 136 = .ok (.getfield 29, 3) := by decide +kernel
theorem dX6_turn_139 : decode cX6_turn 139 = .ok (.bipush 64, 2) := by decide +kernel
theorem dX6_turn_141 : decode cX6_turn 141 = .ok (.iload_n 1, 1) := by decide +kernel
theorem dX6_turn_142 : decode cX6_turn 142 = .ok (.imul, 1) := by decide +kernel
theorem dX6_turn_143 : decode cX6_turn 143 = .ok (.iload 9, 2) := by decide +kernel
theorem dX6_turn_145 : decode cX6_turn 145 = .ok (.iadd, 1) := by decide +kernel
theorem dX6_turn_146 : decode cX6_turn 146 = .ok (.laload, 1) := by decide +kernel
theorem dX6_turn_147 : decode cX6_turn 147 = .ok (.lstore 10, 2) := by decide +kernel
theorem dX6_turn_149 : decode cX6_turn 149 = .ok (.iload_n 2, 1) := by decide +kernel
theorem dX6_turn_150 : decode cX6_turn 150 = .ok (.iload_n 3, 1) := by decide +kernel
theorem dX6_turn_151 : decode cX6_turn 151 = .ok (.iload 4, 2) := by decide +kernel
theorem dX6_turn_153 : decode cX6_turn 153 = .ok (.iload 9, 2) := by decide +kernel
theorem dX6_turn_155 : decode cX6_turn 155 = .ok (.invokestatic 117, 3) := by decide +kernel
theorem dX6_turn_158 : decode cX6_turn 158 = .ok (.lstore 12, 2) := by decide +kernel
theorem dX6_turn_160 : decode cX6_turn 160 = .ok (.lload 5, 2) := by decide +kernel
theorem dX6_turn_162 : decode cX6_turn 162 = .ok (.lload 12, 2) := by decide +kernel
theorem dX6_turn_164 : decode cX6_turn 164 = .ok (.lload 10, 2) := by decide +kernel
theorem dX6_turn_166 : decode cX6_turn 166 = .ok (.bipush 32, 2) := by decide +kernel
theorem dX6_turn_168 : decode cX6_turn 168 = .ok (.lshr, 1) := by decide +kernel
theorem dX6_turn_169 : decode cX6_turn 169 = .ok (.lmul, 1) := by decide +kernel
theorem dX6_turn_170 : decode cX6_turn 170 = .ok (.ladd, 1) := by decide +kernel
theorem dX6_turn_171 : decode cX6_turn 171 = .ok (.lstore 5, 2) := by decide +kernel
theorem dX6_turn_173 : decode cX6_turn 173 = .ok (.lload 7, 2) := by decide +kernel
theorem dX6_turn_175 : decode cX6_turn 175 = .ok (.lload 12, 2) := by decide +kernel
theorem dX6_turn_177 : decode cX6_turn 177 = .ok (.lload 10, 2) := by decide +kernel
theorem dX6_turn_179 : decode cX6_turn 179 = .ok (.ldc2_w 121, 3) := by decide +kernel
theorem dX6_turn_182 : decode cX6_turn 182 = .ok (.land, 1) := by decide +kernel
theorem dX6_turn_183 : decode cX6_turn 183 = .ok (.lmul, 1) := by decide +kernel
theorem dX6_turn_184 : decode cX6_turn 184 = .ok (.ladd, 1) := by decide +kernel
theorem dX6_turn_185 : decode cX6_turn 185 = .ok (.lstore 7, 2) := by decide +kernel
theorem dX6_turn_187 : decode cX6_turn 187 = .ok (.iinc 9 1, 3) := by decide +kernel
theorem dX6_turn_190 : decode cX6_turn 190 = .ok (.goto (-61), 3) := by decide +kernel
theorem dX6_turn_193 : decode cX6_turn 193 = .ok (.lload 5, 2) := by decide +kernel
theorem dX6_turn_195 : decode cX6_turn 195 = .ok (.lload 7, 2) := by decide +kernel
theorem dX6_turn_197 : decode cX6_turn 197 = .ok (.bipush 32, 2) := by decide +kernel
theorem dX6_turn_199 : decode cX6_turn 199 = .ok (.lshr, 1) := by decide +kernel
theorem dX6_turn_200 : decode cX6_turn 200 = .ok (.ladd, 1) := by decide +kernel
theorem dX6_turn_201 : decode cX6_turn 201 = .ok (.lstore 5, 2) := by decide +kernel
theorem dX6_turn_203 : decode cX6_turn 203 = .ok (.lload 7, 2) := by decide +kernel
theorem dX6_turn_205 : decode cX6_turn 205 = .ok (.ldc2_w 121, 3) := by decide +kernel
theorem dX6_turn_208 : decode cX6_turn 208 = .ok (.land, 1) := by decide +kernel
theorem dX6_turn_209 : decode cX6_turn 209 = .ok (.lstore 7, 2) := by decide +kernel
theorem dX6_turn_211 : decode cX6_turn 211 = .ok (.lload 5, 2) := by decide +kernel
theorem dX6_turn_213 : decode cX6_turn 213 = .ok (.ldc2_w 123, 3) := by decide +kernel
theorem dX6_turn_216 : decode cX6_turn 216 = .ok (.ldc2_w 125, 3) := by decide +kernel
theorem dX6_turn_219 : decode cX6_turn 219 = .ok (.invokestatic 60, 3) := by decide +kernel
theorem dX6_turn_222 : decode cX6_turn 222 = .ok (.ifCond .ne 6, 3) := by decide +kernel
theorem dX6_turn_225 : decode cX6_turn 225 = .ok (.bipush (-16), 2) := by decide +kernel
theorem dX6_turn_227 : decode cX6_turn 227 = .ok (.ireturn, 1) := by decide +kernel
theorem dX6_turn_228 : decode cX6_turn 228 = .ok (.aload_n 0, 1) := by decide +kernel
theorem dX6_turn_229 : decode cX6_turn 229 = .ok (.getfield 33, 3) := by decide +kernel
theorem dX6_turn_232 : decode cX6_turn 232 = .ok (.iload 4, 2) := by decide +kernel
theorem dX6_turn_234 : decode cX6_turn 234 = .ok (.lload 5, 2) := by decide +kernel
theorem dX6_turn_236 : decode cX6_turn 236 = .ok (.bipush 32, 2) := by decide +kernel
theorem dX6_turn_238 : decode cX6_turn 238 = .ok (.lshl, 1) := by decide +kernel
theorem dX6_turn_239 : decode cX6_turn 239 = .ok (.lload 7, 2) := by decide +kernel
theorem dX6_turn_241 : decode cX6_turn 241 = .ok (.ladd, 1) := by decide +kernel
theorem dX6_turn_242 : decode cX6_turn 242 = .ok (.lastore, 1) := by decide +kernel
theorem dX6_turn_243 : decode cX6_turn 243 = .ok (.aload_n 0, 1) := by decide +kernel
theorem dX6_turn_244 : decode cX6_turn 244 = .ok (.getfield 33, 3) := by decide +kernel
theorem dX6_turn_247 : decode cX6_turn 247 = .ok (.iload 4, 2) := by decide +kernel
theorem dX6_turn_249 : decode cX6_turn 249 = .ok (.laload, 1) := by decide +kernel
theorem dX6_turn_250 : decode cX6_turn 250 = .ok (.ldc2_w 127, 3) := by decide +kernel
theorem dX6_turn_253 : decode cX6_turn 253 = .ok (.ldc2_w 129, 3) := by decide +kernel
theorem dX6_turn_256 : decode cX6_turn 256 = .ok (.invokestatic 60, 3) := by decide +kernel
theorem dX6_turn_259 : decode cX6_turn 259 = .ok (.ifCond .ne 6, 3) := by decide +kernel
theorem dX6_turn_262 : decode cX6_turn 262 = .ok (.bipush (-16), 2) := by decide +kernel
theorem dX6_turn_264 : decode cX6_turn 264 = .ok (.ireturn, 1) := by decide +kernel
theorem dX6_turn_265 : decode cX6_turn 265 = .ok (.iinc 4 1, 3) := by decide +kernel
theorem dX6_turn_268 : decode cX6_turn 268 = .ok (.goto (-154), 3) := by decide +kernel
theorem dX6_turn_271 : decode cX6_turn 271 = .ok (.iconst 0, 1) := by decide +kernel
theorem dX6_turn_272 : decode cX6_turn 272 = .ok (.istore 4, 2) := by decide +kernel
theorem dX6_turn_274 : decode cX6_turn 274 = .ok (.iload 4, 2) := by decide +kernel
theorem dX6_turn_276 : decode cX6_turn 276 = .ok (.iload_n 3, 1) := by decide +kernel
theorem dX6_turn_277 : decode cX6_turn 277 = .ok (.if_icmp .ge 28, 3) := by decide +kernel
theorem dX6_turn_280 : decode cX6_turn 280 = .ok (.aload_n 0, 1) := by decide +kernel
theorem dX6_turn_281 : decode cX6_turn 281 = .ok (.getfield 29, 3) := by decide +kernel
theorem dX6_turn_284 : decode cX6_turn 284 = .ok (.bipush 64, 2) := by decide +kernel
theorem dX6_turn_286 : decode cX6_turn 286 = .ok (.iload_n 1, 1) := by decide +kernel
theorem dX6_turn_287 : decode cX6_turn 287 = .ok (.imul, 1) := by decide +kernel
theorem dX6_turn_288 : decode cX6_turn 288 = .ok (.iload 4, 2) := by decide +kernel
theorem dX6_turn_290 : decode cX6_turn 290 = .ok (.iadd, 1) := by decide +kernel
theorem dX6_turn_291 : decode cX6_turn 291 = .ok (.aload_n 0, 1) := by decide +kernel
theorem dX6_turn_292 : decode cX6_turn 292 = .ok (.getfield 33, 3) := by decide +kernel
theorem dX6_turn_295 : decode cX6_turn 295 = .ok (.iload 4, 2) := by decide +kernel
theorem dX6_turn_297 : decode cX6_turn 297 = .ok (.laload, 1) := by decide +kernel
theorem dX6_turn_298 : decode cX6_turn 298 = .ok (.lastore, 1) := by decide +kernel
theorem dX6_turn_299 : decode cX6_turn 299 = .ok (.iinc 4 1, 3) := by decide +kernel
theorem dX6_turn_302 : decode cX6_turn 302 = .ok (.goto (-28), 3) := by decide +kernel
theorem dX6_turn_305 : decode cX6_turn 305 = .ok (.iload_n 3, 1) := by decide +kernel
theorem dX6_turn_306 : decode cX6_turn 306 = .ok (.ireturn, 1) := by decide +kernel
theorem dX6_part_0 : decode cX6_part 0 = .ok (.iload_n 1, 1) := by decide +kernel
theorem dX6_part_1 : decode cX6_part 1 = .ok (.invokestatic 100, 3) := by decide +kernel
theorem dX6_part_4 : decode cX6_part 4 = .ok (.ifCond .eq 12, 3) := by decide +kernel
theorem dX6_part_7 : decode cX6_part 7 = .ok (.iload_n 2, 1) := by decide +kernel
theorem dX6_part_8 : decode cX6_part 8 = .ok (.ifCond .lt 8, 3) := by decide +kernel
theorem dX6_part_11 : decode cX6_part 11 = .ok (.iload_n 3, 1) := by decide +kernel
theorem dX6_part_12 : decode cX6_part 12 = .ok (.iload_n 2, 1) := by decide +kernel
theorem dX6_part_13 : decode cX6_part 13 = .ok (.if_icmp .ge 6, 3) := by decide +kernel
theorem dX6_part_16 : decode cX6_part 16 = .ok (.bipush (-2), 2) := by decide +kernel
theorem dX6_part_18 : decode cX6_part 18 = .ok (.ireturn, 1) := by decide +kernel
theorem dX6_part_19 : decode cX6_part 19 = .ok (.iconst 0, 1) := by decide +kernel
theorem dX6_part_20 : decode cX6_part 20 = .ok (.istore 4, 2) := by decide +kernel
theorem dX6_part_22 : decode cX6_part 22 = .ok (.iconst 0, 1) := by decide +kernel
theorem dX6_part_23 : decode cX6_part 23 = .ok (.istore 5, 2) := by decide +kernel
theorem dX6_part_25 : decode cX6_part 25 = .ok (.iload 5, 2) := by decide +kernel
theorem dX6_part_27 : decode cX6_part 27 = .ok (.aload_n 0, 1) := by decide +kernel
theorem dX6_part_28 : decode cX6_part 28 = .ok (.getfield 26, 3) := by decide +kernel
theorem dX6_part_31 : decode cX6_part 31 = .ok (.iload_n 1, 1) := by decide +kernel
theorem dX6_part_32 : decode cX6_part 32 = .ok (.iaload, 1) := by decide +kernel
theorem dX6_part_33 : decode cX6_part 33 = .ok (.if_icmp .ge 61, 3) := by decide +kernel
theorem dX6_part_36 : decode cX6_part 36 = .ok (.iload 5, 2) := by decide +kernel
theorem dX6_part_38 : decode cX6_part 38 = .ok (.iload_n 2, 1) := by decide +kernel
theorem dX6_part_39 : decode cX6_part 39 = .ok (.if_icmp .lt 9, 3) := by decide +kernel
theorem dX6_part_42 : decode cX6_part 42 = .ok (.iload 5, 2) := by decide +kernel
theorem dX6_part_44 : decode cX6_part 44 = .ok (.iload_n 3, 1) := by decide +kernel
theorem dX6_part_45 : decode cX6_part 45 = .ok (.if_icmp .le 43, 3) := by decide +kernel
theorem dX6_part_48 : decode cX6_part 48 = .ok (.iload 4, 2) := by decide +kernel
theorem dX6_part_50 : decode cX6_part 50 = .ok (.aload_n 0, 1) := by decide +kernel
theorem dX6_part_51 : decode cX6_part 51 = .ok (.getfield 29, 3) := by decide +kernel
theorem dX6_part_54 : decode cX6_part 54 = .ok (.bipush 64, 2) := by decide +kernel
theorem dX6_part_56 : decode cX6_part 56 = .ok (.iload_n 1, 1) := by decide +kernel
theorem dX6_part_57 : decode cX6_part 57 = .ok (.imul, 1) := by decide +kernel
theorem dX6_part_58 : decode cX6_part 58 = .ok (.iload 5, 2) := by decide +kernel
theorem dX6_part_60 : decode cX6_part 60 = .ok (.iadd, 1) := by decide +kernel
theorem dX6_part_61 : decode cX6_part 61 = .ok (.laload, 1) := by decide +kernel
theorem dX6_part_62 : decode cX6_part 62 = .ok (.lconst 0, 1) := by decide +kernel
theorem dX6_part_63 : decode cX6_part 63 = .ok (.lcmp, 1) := by decide +kernel
theorem dX6_part_64 : decode cX6_part 64 = .ok (.ifCond .eq 7, 3) := by decide +kernel
theorem dX6_part_67 : decode cX6_part 67 = .ok (.iconst 1, 1) := by decide +kernel
theorem dX6_part_68 : decode cX6_part 68 = .ok (.goto 4, 3) := by decide +kernel
theorem dX6_part_71 : decode cX6_part 71 = .ok (.iconst 0, 1) := by decide +kernel
theorem dX6_part_72 : decode cX6_part 72 = .ok (.iadd, 1) := by decide +kernel
theorem dX6_part_73 : decode cX6_part 73 = .ok (.istore 4, 2) := by decide +kernel
theorem dX6_part_75 : decode cX6_part 75 = .ok (.aload_n 0, 1) := by decide +kernel
theorem dX6_part_76 : decode cX6_part 76 = .ok (.getfield 29, 3) := by decide +kernel
theorem dX6_part_79 : decode cX6_part 79 = .ok (.bipush 64, 2) := by decide +kernel
theorem dX6_part_81 : decode cX6_part 81 = .ok (.iload_n 1, 1) := by decide +kernel
theorem dX6_part_82 : decode cX6_part 82 = .ok (.imul, 1) := by decide +kernel
theorem dX6_part_83 : decode cX6_part 83 = .ok (.iload 5, 2) := by decide +kernel
theorem dX6_part_85 : decode cX6_part 85 = .ok (.iadd, 1) := by decide +kernel
theorem dX6_part_86 : decode cX6_part 86 = .ok (.lconst 0, 1) := by decide +kernel
theorem dX6_part_87 : decode cX6_part 87 = .ok (.lastore, 1) := by decide +kernel
theorem dX6_part_88 : decode cX6_part 88 = .ok (.iinc 5 1, 3) := by decide +kernel
theorem dX6_part_91 : decode cX6_part 91 = .ok (.goto (-66), 3) := by decide +kernel
theorem dX6_part_94 : decode cX6_part 94 = .ok (.iload 4, 2) := by decide +kernel
theorem dX6_part_96 : decode cX6_part 96 = .ok (.ireturn, 1) := by decide +kernel
theorem dX6_mix_0 : decode cX6_mix 0 = .ok (.iload_n 1, 1) := by decide +kernel
theorem dX6_mix_1 : decode cX6_mix 1 = .ok (.invokestatic 100, 3) := by decide +kernel
theorem dX6_mix_4 : decode cX6_mix 4 = .ok (.ifCond .eq 39, 3) := by decide +kernel
theorem dX6_mix_7 : decode cX6_mix 7 = .ok (.iload_n 3, 1) := by decide +kernel
theorem dX6_mix_8 : decode cX6_mix 8 = .ok (.invokestatic 100, 3) := by decide +kernel
theorem dX6_mix_11 : decode cX6_mix 11 = .ok (.ifCond .eq 32, 3) := by decide +kernel
theorem dX6_mix_14 : decode cX6_mix 14 = .ok (.iload_n 2, 1) := by decide +kernel
theorem dX6_mix_15 : decode cX6_mix 15 = .ok (.i2l, 1) := by decide +kernel
theorem dX6_mix_16 : decode cX6_mix 16 = .ok (.ldc2_w 131, 3) := by decide +kernel
theorem dX6_mix_19 : decode cX6_mix 19 = .ok (.ldc2_w 133, 3) := by decide +kernel
theorem dX6_mix_22 : decode cX6_mix 22 = .ok (.invokestatic 60, 3) := by decide +kernel
theorem dX6_mix_25 : decode cX6_mix 25 = .ok (.ifCond .eq 18, 3) := by decide +kernel
theorem dX6_mix_28 : decode cX6_mix 28 = .ok (.iload 4, 2) := by decide +kernel
theorem dX6_mix_30 : decode cX6_mix 30 = .ok (.i2l, 1) := by decide +kernel
theorem dX6_mix_31 : decode cX6_mix 31 = .ok (.ldc2_w 131, 3) := by decide +kernel
theorem dX6_mix_34 : decode cX6_mix 34 = .ok (.ldc2_w 133, 3) := by decide +kernel
theorem dX6_mix_37 : decode cX6_mix 37 = .ok (.invokestatic 60, 3) := by decide +kernel
theorem dX6_mix_40 : decode cX6_mix 40 = .ok (.ifCond .ne 6, 3) := by decide +kernel
theorem dX6_mix_43 : decode cX6_mix 43 = .ok (.bipush (-2), 2) := by decide +kernel
theorem dX6_mix_45 : decode cX6_mix 45 = .ok (.ireturn, 1) := by decide +kernel
theorem dX6_mix_46 : decode cX6_mix 46 = .ok (.aload_n 0, 1) := by decide +kernel
theorem dX6_mix_47 : decode cX6_mix 47 = .ok (.getfield 26, 3) := by decide +kernel
theorem dX6_mix_50 : decode cX6_mix 50 = .ok (.iload_n 1, 1) := by decide +kernel
theorem dX6_mix_51 : decode cX6_mix 51 = .ok (.iaload, 1) := by decide +kernel
theorem dX6_mix_52 : decode cX6_mix 52 = .ok (.aload_n 0, 1) := by decide +kernel
theorem dX6_mix_53 : decode cX6_mix 53 = .ok (.getfield 26, 3) := by decide +kernel
theorem dX6_mix_56 : decode cX6_mix 56 = .ok (.iload_n 3, 1) := by decide +kernel
theorem dX6_mix_57 : decode cX6_mix 57 = .ok (.iaload, 1) := by decide +kernel
theorem dX6_mix_58 : decode cX6_mix 58 = .ok (.if_icmp .eq 6, 3) := by decide +kernel
theorem dX6_mix_61 : decode cX6_mix 61 = .ok (.bipush (-3), 2) := by decide +kernel
theorem dX6_mix_63 : decode cX6_mix 63 = .ok (.ireturn, 1) := by decide +kernel
theorem dX6_mix_64 : decode cX6_mix 64 = .ok (.iconst 0, 1) := by decide +kernel
theorem dX6_mix_65 : decode cX6_mix 65 = .ok (.istore 5, 2) := by decide +kernel
theorem dX6_mix_67 : decode cX6_mix 67 = .ok (.iload 5, 2) := by decide +kernel
theorem dX6_mix_69 : decode cX6_mix 69 = .ok (.aload_n 0, 1) := by decide +kernel
theorem dX6_mix_70 : decode cX6_mix 70 = .ok (.getfield 26, 3) := by decide +kernel
theorem dX6_mix_73 : decode cX6_mix 73 = .ok (.iload_n 1, 1) := by decide +kernel
theorem dX6_mix_74 : decode cX6_mix 74 = .ok (.iaload, 1) := by decide +kernel
theorem dX6_mix_75 : decode cX6_mix 75 = .ok (.if_icmp .ge 70, 3) := by decide +kernel
theorem dX6_mix_78 : decode cX6_mix 78 = .ok (.aload_n 0, 1) := by decide +kernel
theorem dX6_mix_79 : decode cX6_mix 79 = .ok (.getfield 33, 3) := by decide +kernel
theorem dX6_mix_82 : decode cX6_mix 82 = .ok (.iload 5, 2) := by decide +kernel
theorem dX6_mix_84 : decode cX6_mix 84 = .ok (.iload_n 2, 1) := by decide +kernel
theorem dX6_mix_85 : decode cX6_mix 85 = .ok (.i2l, 1) := by decide +kernel
theorem dX6_mix_86 : decode cX6_mix 86 = .ok (.aload_n 0, 1) := by decide +kernel
theorem dX6_mix_87 : decode cX6_mix 87 = .ok (.getfield 29, 3) := by decide +kernel
theorem dX6_mix_90 : decode cX6_mix 90 = .ok (.bipush 64, 2) := by decide +kernel
theorem dX6_mix_92 : decode cX6_mix 92 = .ok (.iload_n 1, 1) := by decide +kernel
theorem dX6_mix_93 : decode cX6_mix 93 = .ok (.imul, 1) := by decide +kernel
theorem dX6_mix_94 : decode cX6_mix 94 = .ok (.iload 5, 2) := by decide +kernel
theorem dX6_mix_96 : decode cX6_mix 96 = .ok (.iadd, 1) := by decide +kernel
theorem dX6_mix_97 : decode cX6_mix 97 = .ok (.laload, 1) := by decide +kernel
theorem dX6_mix_98 : decode cX6_mix 98 = .ok (.lmul, 1) := by decide +kernel
theorem dX6_mix_99 : decode cX6_mix 99 = .ok (.iload 4, 2) := by decide +kernel
theorem dX6_mix_101 : decode cX6_mix 101 = .ok (.i2l, 1) := by decide +kernel
theorem dX6_mix_102 : decode cX6_mix 102 = .ok (.aload_n 0, 1) := by decide +kernel
theorem dX6_mix_103 : decode cX6_mix 103 = .ok (.getfield 29, 3) := by decide +kernel
theorem dX6_mix_106 : decode cX6_mix 106 = .ok (.bipush 64, 2) := by decide +kernel
theorem dX6_mix_108 : decode cX6_mix 108 = .ok (.iload_n 3, 1) := by decide +kernel
theorem dX6_mix_109 : decode cX6_mix 109 = .ok (.imul, 1) := by decide +kernel
theorem dX6_mix_110 : decode cX6_mix 110 = .ok (.iload 5, 2) := by decide +kernel
theorem dX6_mix_112 : decode cX6_mix 112 = .ok (.iadd, 1) := by decide +kernel
theorem dX6_mix_113 : decode cX6_mix 113 = .ok (.laload, 1) := by decide +kernel
theorem dX6_mix_114 : decode cX6_mix 114 = .ok (.lmul, 1) := by decide +kernel
theorem dX6_mix_115 : decode cX6_mix 115 = .ok (.ladd, 1) := by decide +kernel
theorem dX6_mix_116 : decode cX6_mix 116 = .ok (.lastore, 1) := by decide +kernel
theorem dX6_mix_117 : decode cX6_mix 117 = .ok (.aload_n 0, 1) := by decide +kernel
theorem dX6_mix_118 : decode cX6_mix 118 = .ok (.getfield 33, 3) := by decide +kernel
theorem dX6_mix_121 : decode cX6_mix 121 = .ok (.iload 5, 2) := by decide +kernel
theorem dX6_mix_123 : decode cX6_mix 123 = .ok (.laload, 1) := by decide +kernel
theorem dX6_mix_124 : decode cX6_mix 124 = .ok (.ldc2_w 127, 3) := by decide +kernel
theorem dX6_mix_127 : decode cX6_mix 127 = .ok (.ldc2_w 129, 3) := by decide +kernel
theorem dX6_mix_130 : decode cX6_mix 130 = .ok (.invokestatic 60, 3) := by decide +kernel
theorem dX6_mix_133 : decode cX6_mix 133 = .ok (.ifCond .ne 6, 3) := by decide +kernel
theorem dX6_mix_136 : decode cX6_mix 136 = .ok (.bipush (-16), 2) := by decide +kernel
theorem dX6_mix_138 : decode cX6_mix 138 = .ok (.ireturn, 1) := by decide +kernel
theorem dX6_mix_139 : decode cX6_mix 139 = .ok (.iinc 5 1, 3) := by decide +kernel
theorem dX6_mix_142 : decode cX6_mix 142 = .ok (.goto (-75), 3) := by decide +kernel
theorem dX6_mix_145 : decode cX6_mix 145 = .ok (.iconst 0, 1) := by decide +kernel
theorem dX6_mix_146 : decode cX6_mix 146 = .ok (.istore 5, 2) := by decide +kernel
theorem dX6_mix_148 : decode cX6_mix 148 = .ok (.iload 5, 2) := by decide +kernel
theorem dX6_mix_150 : decode cX6_mix 150 = .ok (.aload_n 0, 1) := by decide +kernel
theorem dX6_mix_151 : decode cX6_mix 151 = .ok (.getfield 26, 3) := by decide +kernel
theorem dX6_mix_154 : decode cX6_mix 154 = .ok (.iload_n 1, 1) := by decide +kernel
theorem dX6_mix_155 : decode cX6_mix 155 = .ok (.iaload, 1) := by decide +kernel
theorem dX6_mix_156 : decode cX6_mix 156 = .ok (.if_icmp .ge 28, 3) := by decide +kernel
theorem dX6_mix_159 : decode cX6_mix 159 = .ok (.aload_n 0, 1) := by decide +kernel
theorem dX6_mix_160 : decode cX6_mix 160 = .ok (.getfield 29, 3) := by decide +kernel
theorem dX6_mix_163 : decode cX6_mix 163 = .ok (.bipush 64, 2) := by decide +kernel
theorem dX6_mix_165 : decode cX6_mix 165 = .ok (.iload_n 1, 1) := by decide +kernel
theorem dX6_mix_166 : decode cX6_mix 166 = .ok (.imul, 1) := by decide +kernel
theorem dX6_mix_167 : decode cX6_mix 167 = .ok (.iload 5, 2) := by decide +kernel
theorem dX6_mix_169 : decode cX6_mix 169 = .ok (.iadd, 1) := by decide +kernel
theorem dX6_mix_170 : decode cX6_mix 170 = .ok (.aload_n 0, 1) := by decide +kernel
theorem dX6_mix_171 : decode cX6_mix 171 = .ok (.getfield 33, 3) := by decide +kernel
theorem dX6_mix_174 : decode cX6_mix 174 = .ok (.iload 5, 2) := by decide +kernel
theorem dX6_mix_176 : decode cX6_mix 176 = .ok (.laload, 1) := by decide +kernel
theorem dX6_mix_177 : decode cX6_mix 177 = .ok (.lastore, 1) := by decide +kernel
theorem dX6_mix_178 : decode cX6_mix 178 = .ok (.iinc 5 1, 3) := by decide +kernel
theorem dX6_mix_181 : decode cX6_mix 181 = .ok (.goto (-33), 3) := by decide +kernel
theorem dX6_mix_184 : decode cX6_mix 184 = .ok (.aload_n 0, 1) := by decide +kernel
theorem dX6_mix_185 : decode cX6_mix 185 = .ok (.getfield 26, 3) := by decide +kernel
theorem dX6_mix_188 : decode cX6_mix 188 = .ok (.iload_n 1, 1) := by decide +kernel
theorem dX6_mix_189 : decode cX6_mix 189 = .ok (.iaload, 1) := by decide +kernel
theorem dX6_mix_190 : decode cX6_mix 190 = .ok (.ireturn, 1) := by decide +kernel
theorem dX6_force_0 : decode cX6_force 0 = .ok (.iload_n 1, 1) := by decide +kernel
theorem dX6_force_1 : decode cX6_force 1 = .ok (.invokestatic 100, 3) := by decide +kernel
theorem dX6_force_4 : decode cX6_force 4 = .ok (.ifCond .eq 12, 3) := by decide +kernel
theorem dX6_force_7 : decode cX6_force 7 = .ok (.iload_n 2, 1) := by decide +kernel
theorem dX6_force_8 : decode cX6_force 8 = .ok (.ifCond .lt 8, 3) := by decide +kernel
theorem dX6_force_11 : decode cX6_force 11 = .ok (.iload_n 3, 1) := by decide +kernel
theorem dX6_force_12 : decode cX6_force 12 = .ok (.iload_n 2, 1) := by decide +kernel
theorem dX6_force_13 : decode cX6_force 13 = .ok (.if_icmp .ge 7, 3) := by decide +kernel
theorem dX6_force_16 : decode cX6_force 16 = .ok (.ldc2_w 104, 3) := by decide +kernel
theorem dX6_force_19 : decode cX6_force 19 = .ok (.lreturn, 1) := by decide +kernel
theorem dX6_force_20 : decode cX6_force 20 = .ok (.lconst 0, 1) := by decide +kernel
theorem dX6_force_21 : decode cX6_force 21 = .ok (.lstore 4, 2) := by decide +kernel
theorem dX6_force_23 : decode cX6_force 23 = .ok (.iload_n 2, 1) := by decide +kernel
theorem dX6_force_24 : decode cX6_force 24 = .ok (.istore 6, 2) := by decide +kernel
theorem dX6_force_26 : decode cX6_force 26 = .ok (.iload 6, 2) := by decide +kernel
theorem dX6_force_28 : decode cX6_force 28 = .ok (.aload_n 0, 1) := by decide +kernel
theorem dX6_force_29 : decode cX6_force 29 = .ok (.getfield 26, 3) := by decide +kernel
theorem dX6_force_32 : decode cX6_force 32 = .ok (.iload_n 1, 1) := by decide +kernel
theorem dX6_force_33 : decode cX6_force 33 = .ok (.iaload, 1) := by decide +kernel
theorem dX6_force_34 : decode cX6_force 34 = .ok (.if_icmp .ge 57, 3) := by decide +kernel
theorem dX6_force_37 : decode cX6_force 37 = .ok (.iload 6, 2) := by decide +kernel
theorem dX6_force_39 : decode cX6_force 39 = .ok (.iload_n 3, 1) := by decide +kernel
theorem dX6_force_40 : decode cX6_force 40 = .ok (.if_icmp .gt 51, 3) := by decide +kernel
theorem dX6_force_43 : decode cX6_force 43 = .ok (.aload_n 0, 1) := by decide +kernel
theorem dX6_force_44 : decode cX6_force 44 = .ok (.getfield 29, 3) := by decide +kernel
theorem dX6_force_47 : decode cX6_force 47 = .ok (.bipush 64, 2) := by decide +kernel
theorem dX6_force_49 : decode cX6_force 49 = .ok (.iload_n 1, 1) := by decide +kernel
theorem dX6_force_50 : decode cX6_force 50 = .ok (.imul, 1) := by decide +kernel
theorem dX6_force_51 : decode cX6_force 51 = .ok (.iload 6, 2) := by decide +kernel
theorem dX6_force_53 : decode cX6_force 53 = .ok (.iadd, 1) := by decide +kernel
theorem dX6_force_54 : decode cX6_force 54 = .ok (.laload, 1) := by decide +kernel
theorem dX6_force_55 : decode cX6_force 55 = .ok (.lstore 7, 2) := by decide +kernel
theorem dX6_force_57 : decode cX6_force 57 = .ok (.lload 7, 2) := by decide +kernel
theorem dX6_force_59 : decode cX6_force 59 = .ok (.ldc2_w 135, 3) := by decide +kernel
theorem dX6_force_62 : decode cX6_force 62 = .ok (.ldc2_w 137, 3) := by decide +kernel
theorem dX6_force_65 : decode cX6_force 65 = .ok (.invokestatic 60, 3) := by decide +kernel
theorem dX6_force_68 : decode cX6_force 68 = .ok (.ifCond .ne 7, 3) := by decide +kernel
theorem dX6_force_71 : decode cX6_force 71 = .ok (.ldc2_w 139, 3) := by decide +kernel
theorem dX6_force_74 : decode cX6_force 74 = .ok (.lreturn, 1) := by decide +kernel
theorem dX6_force_75 : decode cX6_force 75 = .ok (.lload 4, 2) := by decide +kernel
theorem dX6_force_77 : decode cX6_force 77 = .ok (.lload 7, 2) := by decide +kernel
theorem dX6_force_79 : decode cX6_force 79 = .ok (.lload 7, 2) := by decide +kernel
theorem dX6_force_81 : decode cX6_force 81 = .ok (.lmul, 1) := by decide +kernel
theorem dX6_force_82 : decode cX6_force 82 = .ok (.ladd, 1) := by decide +kernel
theorem dX6_force_83 : decode cX6_force 83 = .ok (.lstore 4, 2) := by decide +kernel
theorem dX6_force_85 : decode cX6_force 85 = .ok (.iinc 6 1, 3) := by decide +kernel
theorem dX6_force_88 : decode cX6_force 88 = .ok (.goto (-62), 3) := by decide +kernel
theorem dX6_force_91 : decode cX6_force 91 = .ok (.lload 4, 2) := by decide +kernel
theorem dX6_force_93 : decode cX6_force 93 = .ok (.lreturn, 1) := by decide +kernel
theorem dX6_cross_0 : decode cX6_cross 0 = .ok (.iload_n 1, 1) := by decide +kernel
theorem dX6_cross_1 : decode cX6_cross 1 = .ok (.invokestatic 100, 3) := by decide +kernel
theorem dX6_cross_4 : decode cX6_cross 4 = .ok (.ifCond .eq 10, 3) := by decide +kernel
theorem dX6_cross_7 : decode cX6_cross 7 = .ok (.iload_n 2, 1) := by decide +kernel
theorem dX6_cross_8 : decode cX6_cross 8 = .ok (.invokestatic 100, 3) := by decide +kernel
theorem dX6_cross_11 : decode cX6_cross 11 = .ok (.ifCond .ne 7, 3) := by decide +kernel
theorem dX6_cross_14 : decode cX6_cross 14 = .ok (.ldc2_w 104, 3) := by decide +kernel
theorem dX6_cross_17 : decode cX6_cross 17 = .ok (.lreturn, 1) := by decide +kernel
theorem dX6_cross_18 : decode cX6_cross 18 = .ok (.aload_n 0, 1) := by decide +kernel
theorem dX6_cross_19 : decode cX6_cross 19 = .ok (.getfield 26, 3) := by decide +kernel
theorem dX6_cross_22 : decode cX6_cross 22 = .ok (.iload_n 1, 1) := by decide +kernel
theorem dX6_cross_23 : decode cX6_cross 23 = .ok (.iaload, 1) := by decide +kernel
theorem dX6_cross_24 : decode cX6_cross 24 = .ok (.aload_n 0, 1) := by decide +kernel
theorem dX6_cross_25 : decode cX6_cross 25 = .ok (.getfield 26, 3) := by decide +kernel
theorem dX6_cross_28 : decode cX6_cross 28 = .ok (.iload_n 2, 1) := by decide +kernel
theorem dX6_cross_29 : decode cX6_cross 29 = .ok (.iaload, 1) := by decide +kernel
theorem dX6_cross_30 : decode cX6_cross 30 = .ok (.if_icmp .eq 7, 3) := by decide +kernel
theorem dX6_cross_33 : decode cX6_cross 33 = .ok (.ldc2_w 141, 3) := by decide +kernel
theorem dX6_cross_36 : decode cX6_cross 36 = .ok (.lreturn, 1) := by decide +kernel
theorem dX6_cross_37 : decode cX6_cross 37 = .ok (.lconst 0, 1) := by decide +kernel
theorem dX6_cross_38 : decode cX6_cross 38 = .ok (.lstore_n 3, 1) := by decide +kernel
theorem dX6_cross_39 : decode cX6_cross 39 = .ok (.iconst 0, 1) := by decide +kernel
theorem dX6_cross_40 : decode cX6_cross 40 = .ok (.istore 5, 2) := by decide +kernel
theorem dX6_cross_42 : decode cX6_cross 42 = .ok (.iload 5, 2) := by decide +kernel
theorem dX6_cross_44 : decode cX6_cross 44 = .ok (.aload_n 0, 1) := by decide +kernel
theorem dX6_cross_45 : decode cX6_cross 45 = .ok (.getfield 26, 3) := by decide +kernel
theorem dX6_cross_48 : decode cX6_cross 48 = .ok (.iload_n 1, 1) := by decide +kernel
theorem dX6_cross_49 : decode cX6_cross 49 = .ok (.iaload, 1) := by decide +kernel
theorem dX6_cross_50 : decode cX6_cross 50 = .ok (.if_icmp .ge 77, 3) := by decide +kernel
theorem dX6_cross_53 : decode cX6_cross 53 = .ok (.aload_n 0, 1) := by decide +kernel
theorem dX6_cross_54 : decode cX6_cross 54 = .ok (.getfield 29, 3) := by decide +kernel
theorem dX6_cross_57 : decode cX6_cross 57 = .ok (.bipush 64, 2) := by decide +kernel
theorem dX6_cross_59 : decode cX6_cross 59 = .ok (.iload_n 1, 1) := by decide +kernel
theorem dX6_cross_60 : decode cX6_cross 60 = .ok (.imul, 1) := by decide +kernel
theorem dX6_cross_61 : decode cX6_cross 61 = .ok (.iload 5, 2) := by decide +kernel
theorem dX6_cross_63 : decode cX6_cross 63 = .ok (.iadd, 1) := by decide +kernel
theorem dX6_cross_64 : decode cX6_cross 64 = .ok (.laload, 1) := by decide +kernel
theorem dX6_cross_65 : decode cX6_cross 65 = .ok (.lstore 6, 2) := by decide +kernel
theorem dX6_cross_67 : decode cX6_cross 67 = .ok (.aload_n 0, 1) := by decide +kernel
theorem dX6_cross_68 : decode cX6_cross 68 = .ok (.getfield 29, 3) := by decide +kernel
theorem dX6_cross_71 : decode cX6_cross 71 = .ok (.bipush 64, 2) := by decide +kernel
theorem dX6_cross_73 : decode cX6_cross 73 = .ok (.iload_n 2, 1) := by decide +kernel
theorem dX6_cross_74 : decode cX6_cross 74 = .ok (.imul, 1) := by decide +kernel
theorem dX6_cross_75 : decode cX6_cross 75 = .ok (.iload 5, 2) := by decide +kernel
theorem dX6_cross_77 : decode cX6_cross 77 = .ok (.iadd, 1) := by decide +kernel
theorem dX6_cross_78 : decode cX6_cross 78 = .ok (.laload, 1) := by decide +kernel
theorem dX6_cross_79 : decode cX6_cross 79 = .ok (.lstore 8, 2) := by decide +kernel
theorem dX6_cross_81 : decode cX6_cross 81 = .ok (.lload 6, 2) := by decide +kernel
theorem dX6_cross_83 : decode cX6_cross 83 = .ok (.ldc2_w 135, 3) := by decide +kernel
theorem dX6_cross_86 : decode cX6_cross 86 = .ok (.ldc2_w 137, 3) := by decide +kernel
theorem dX6_cross_89 : decode cX6_cross 89 = .ok (.invokestatic 60, 3) := by decide +kernel
theorem dX6_cross_92 : decode cX6_cross 92 = .ok (.ifCond .eq 17, 3) := by decide +kernel
theorem dX6_cross_95 : decode cX6_cross 95 = .ok (.lload 8, 2) := by decide +kernel
theorem dX6_cross_97 : decode cX6_cross 97 = .ok (.ldc2_w 135, 3) := by decide +kernel
theorem dX6_cross_100 : decode cX6_cross 100 = .ok (.ldc2_w 137, 3) := by decide +kernel
theorem dX6_cross_103 : decode cX6_cross 103 = .ok (.invokestatic 60, 3) := by decide +kernel
theorem dX6_cross_106 : decode cX6_cross 106 = .ok (.ifCond .ne 7, 3) := by decide +kernel
theorem dX6_cross_109 : decode cX6_cross 109 = .ok (.ldc2_w 139, 3) := by decide +kernel
theorem dX6_cross_112 : decode cX6_cross 112 = .ok (.lreturn, 1) := by decide +kernel
theorem dX6_cross_113 : decode cX6_cross 113 = .ok (.lload_n 3, 1) := by decide +kernel
theorem dX6_cross_114 : decode cX6_cross 114 = .ok (.lload 6, 2) := by decide +kernel
theorem dX6_cross_116 : decode cX6_cross 116 = .ok (.lload 8, 2) := by decide +kernel
theorem dX6_cross_118 : decode cX6_cross 118 = .ok (.lmul, 1) := by decide +kernel
theorem dX6_cross_119 : decode cX6_cross 119 = .ok (.ladd, 1) := by decide +kernel
theorem dX6_cross_120 : decode cX6_cross 120 = .ok (.lstore_n 3, 1) := by decide +kernel
theorem dX6_cross_121 : decode cX6_cross 121 = .ok (.iinc 5 1, 3) := by decide +kernel
theorem dX6_cross_124 : decode cX6_cross 124 = .ok (.goto (-82), 3) := by decide +kernel
theorem dX6_cross_127 : decode cX6_cross 127 = .ok (.lload_n 3, 1) := by decide +kernel
theorem dX6_cross_128 : decode cX6_cross 128 = .ok (.lreturn, 1) := by decide +kernel
theorem dX6_findTurns_0 : decode cX6_findTurns 0 = .ok (.aload_n 0, 1) := by decide +kernel
theorem dX6_findTurns_1 : decode cX6_findTurns 1 = .ok (.iconst 0, 1) := by decide +kernel
theorem dX6_findTurns_2 : decode cX6_findTurns 2 = .ok (.putfield 143, 3) := by decide +kernel
theorem dX6_findTurns_5 : decode cX6_findTurns 5 = .ok (.iconst 0, 1) := by decide +kernel
theorem dX6_findTurns_6 : decode cX6_findTurns 6 = .ok (.istore_n 2, 1) := by decide +kernel
theorem dX6_findTurns_7 : decode cX6_findTurns 7 = .ok (.iconst 0, 1) := by decide +kernel
theorem dX6_findTurns_8 : decode cX6_findTurns 8 = .ok (.istore_n 3, 1) := by decide +kernel
theorem dX6_findTurns_9 : decode cX6_findTurns 9 = .ok (.iload_n 3, 1) := by decide +kernel
theorem dX6_findTurns_10 : decode cX6_findTurns 10 = .ok (.aload_n 0, 1) := by decide +kernel
theorem dX6_findTurns_11 : decode cX6_findTurns 11 = .ok (.getfield 26, 3) := by decide +kernel
theorem dX6_findTurns_14 : decode cX6_findTurns 14 = .ok (.iload_n 1, 1) := by decide +kernel
theorem dX6_findTurns_15 : decode cX6_findTurns 15 = .ok (.iaload, 1) := by decide +kernel
theorem dX6_findTurns_16 : decode cX6_findTurns 16 = .ok (.if_icmp .ge 81, 3) := by decide +kernel
theorem dX6_findTurns_19 : decode cX6_findTurns 19 = .ok (.aload_n 0, 1) := by decide +kernel
theorem dX6_findTurns_20 : decode cX6_findTurns 20 = .ok (.getfield 29, 3) := by decide +kernel
theorem dX6_findTurns_23 : decode cX6_findTurns 23 = .ok (.bipush 64, 2) := by decide +kernel
theorem dX6_findTurns_25 : decode cX6_findTurns 25 = .ok (.iload_n 1, 1) := by decide +kernel
theorem dX6_findTurns_26 : decode cX6_findTurns 26 = .ok (.imul, 1) := by decide +kernel
theorem dX6_findTurns_27 : decode cX6_findTurns 27 = .ok (.iload_n 3, 1) := by decide +kernel
theorem dX6_findTurns_28 : decode cX6_findTurns 28 = .ok (.iadd, 1) := by decide +kernel
theorem dX6_findTurns_29 : decode cX6_findTurns 29 = .ok (.laload, 1) := by decide +kernel
theorem dX6_findTurns_30 : decode cX6_findTurns 30 = .ok (.lstore 4, 2) := by decide +kernel
theorem dX6_findTurns_32 : decode cX6_findTurns 32 = .ok (.lload 4, 2) := by decide +kernel
theorem dX6_findTurns_34 : decode cX6_findTurns 34 = .ok (.lconst 0, 1) := by decide +kernel
theorem dX6_findTurns_35 : decode cX6_findTurns 35 = .ok (.lcmp, 1) := by decide +kernel
theorem dX6_findTurns_36 : decode cX6_findTurns 36 = .ok (.ifCond .le 7, 3) := by decide +kernel
theorem dX6_findTurns_39 : decode cX6_findTurns 39 = .ok (.iconst 1, 1) := by decide +kernel
theorem dX6_findTurns_40 : decode cX6_findTurns 40 = .ok (.goto 15, 3) := by decide +kernel
theorem dX6_findTurns_43 : decode cX6_findTurns 43 = .ok (.lload 4, 2) := by decide +kernel
theorem dX6_findTurns_45 : decode cX6_findTurns 45 = .ok (.lconst 0, 1) := by decide +kernel
theorem dX6_findTurns_46 : decode cX6_findTurns 46 = .ok (.lcmp, 1) := by decide +kernel
theorem dX6_findTurns_47 : decode cX6_findTurns 47 = .ok (.ifCond .ge 7, 3) := by decide +kernel
theorem dX6_findTurns_50 : decode cX6_findTurns 50 = .ok (.iconst (-1), 1) := by decide +kernel
theorem dX6_findTurns_51 : decode cX6_findTurns 51 = .ok (.goto 4, 3) := by decide +kernel
theorem dX6_findTurns_54 : decode cX6_findTurns 54 = .ok (.iload_n 2, 1) := by decide +kernel
theorem dX6_findTurns_55 : decode cX6_findTurns 55 = .ok (.istore 6, 2) := by decide +kernel
theorem dX6_findTurns_57 : decode cX6_findTurns 57 = .ok (.iload 6, 2) := by decide +kernel
theorem dX6_findTurns_59 : decode cX6_findTurns 59 = .ok (.iconst 1, 1) := by decide +kernel
theorem dX6_findTurns_60 : decode cX6_findTurns 60 = .ok (.if_icmp .ne 28, 3) := by decide +kernel
theorem dX6_findTurns_63 : decode cX6_findTurns 63 = .ok (.iload_n 2, 1) := by decide +kernel
theorem dX6_findTurns_64 : decode cX6_findTurns 64 = .ok (.iconst (-1), 1) := by decide +kernel
theorem dX6_findTurns_65 : decode cX6_findTurns 65 = .ok (.if_icmp .ne 23, 3) := by decide +kernel
theorem dX6_findTurns_68 : decode cX6_findTurns 68 = .ok (.aload_n 0, 1) := by decide +kernel
theorem dX6_findTurns_69 : decode cX6_findTurns 69 = .ok (.getfield 55, 3) := by decide +kernel
theorem dX6_findTurns_72 : decode cX6_findTurns 72 = .ok (.aload_n 0, 1) := by decide +kernel
theorem dX6_findTurns_73 : decode cX6_findTurns 73 = .ok (.getfield 143, 3) := by decide +kernel
theorem dX6_findTurns_76 : decode cX6_findTurns 76 = .ok (.iload_n 3, 1) := by decide +kernel
theorem dX6_findTurns_77 : decode cX6_findTurns 77 = .ok (.iastore, 1) := by decide +kernel
theorem dX6_findTurns_78 : decode cX6_findTurns 78 = .ok (.aload_n 0, 1) := by decide +kernel
theorem dX6_findTurns_79 : decode cX6_findTurns 79 = .ok (.dup, 1) := by decide +kernel
theorem dX6_findTurns_80 : decode cX6_findTurns 80 = .ok (.getfield 143, 3) := by decide +kernel
theorem dX6_findTurns_83 : decode cX6_findTurns 83 = .ok (.iconst 1, 1) := by decide +kernel
theorem dX6_findTurns_84 : decode cX6_findTurns 84 = .ok (.iadd, 1) := by decide +kernel
theorem dX6_findTurns_85 : decode cX6_findTurns 85 = .ok (.putfield 143, 3) := by decide +kernel
theorem dX6_findTurns_88 : decode cX6_findTurns 88 = .ok (.iload 6, 2) := by decide +kernel
theorem dX6_findTurns_90 : decode cX6_findTurns 90 = .ok (.istore_n 2, 1) := by decide +kernel
theorem dX6_findTurns_91 : decode cX6_findTurns 91 = .ok (.iinc 3 1, 3) := by decide +kernel
theorem dX6_findTurns_94 : decode cX6_findTurns 94 = .ok (.goto (-85), 3) := by decide +kernel
theorem dX6_findTurns_97 : decode cX6_findTurns 97 = .ok (.return_, 1) := by decide +kernel
theorem dX6_waveMany_0 : decode cX6_waveMany 0 = .ok (.aload_n 0, 1) := by decide +kernel
theorem dX6_waveMany_1 : decode cX6_waveMany 1 = .ok (.iload_n 1, 1) := by decide +kernel
theorem dX6_waveMany_2 : decode cX6_waveMany 2 = .ok (.invokevirtual 146, 3) := by decide +kernel
theorem dX6_waveMany_5 : decode cX6_waveMany 5 = .ok (.aload_n 0, 1) := by decide +kernel
theorem dX6_waveMany_6 : decode cX6_waveMany 6 = .ok (.getfield 143, 3) := by decide +kernel
theorem dX6_waveMany_9 : decode cX6_waveMany 9 = .ok (.ifCond .le 12, 3) := by decide +kernel
theorem dX6_waveMany_12 : decode cX6_waveMany 12 = .ok (.aload_n 0, 1) := by decide +kernel
theorem dX6_waveMany_13 : decode cX6_waveMany 13 = .ok (.getfield 143, 3) := by decide +kernel
theorem dX6_waveMany_16 : decode cX6_waveMany 16 = .ok (.iconst 1, 1) := by decide +kernel
theorem dX6_waveMany_17 : decode cX6_waveMany 17 = .ok (.isub, 1) := by decide +kernel
theorem dX6_waveMany_18 : decode cX6_waveMany 18 = .ok (.goto 4, 3) := by decide +kernel
theorem dX6_waveMany_21 : decode cX6_waveMany 21 = .ok (.iconst 0, 1) := by decide +kernel
theorem dX6_waveMany_22 : decode cX6_waveMany 22 = .ok (.ireturn, 1) := by decide +kernel
theorem dX6_end_0 : decode cX6_end 0 = .ok (.aload_n 0, 1) := by decide +kernel
theorem dX6_end_1 : decode cX6_end 1 = .ok (.getfield 29, 3) := by decide +kernel
theorem dX6_end_4 : decode cX6_end 4 = .ok (.bipush 64, 2) := by decide +kernel
theorem dX6_end_6 : decode cX6_end 6 = .ok (.iload_n 1, 1) := by decide +kernel
theorem dX6_end_7 : decode cX6_end 7 = .ok (.imul, 1) := by decide +kernel
theorem dX6_end_8 : decode cX6_end 8 = .ok (.aload_n 0, 1) := by decide +kernel
theorem dX6_end_9 : decode cX6_end 9 = .ok (.getfield 55, 3) := by decide +kernel
theorem dX6_end_12 : decode cX6_end 12 = .ok (.iload_n 2, 1) := by decide +kernel
theorem dX6_end_13 : decode cX6_end 13 = .ok (.iaload, 1) := by decide +kernel
theorem dX6_end_14 : decode cX6_end 14 = .ok (.iadd, 1) := by decide +kernel
theorem dX6_end_15 : decode cX6_end 15 = .ok (.laload, 1) := by decide +kernel
theorem dX6_end_16 : decode cX6_end 16 = .ok (.lstore 4, 2) := by decide +kernel
theorem dX6_end_18 : decode cX6_end 18 = .ok (.aload_n 0, 1) := by decide +kernel
theorem dX6_end_19 : decode cX6_end 19 = .ok (.getfield 55, 3) := by decide +kernel
theorem dX6_end_22 : decode cX6_end 22 = .ok (.iload_n 2, 1) := by decide +kernel
theorem dX6_end_23 : decode cX6_end 23 = .ok (.iaload, 1) := by decide +kernel
theorem dX6_end_24 : decode cX6_end 24 = .ok (.istore 6, 2) := by decide +kernel
theorem dX6_end_26 : decode cX6_end 26 = .ok (.iload 6, 2) := by decide +kernel
theorem dX6_end_28 : decode cX6_end 28 = .ok (.aload_n 0, 1) := by decide +kernel
theorem dX6_end_29 : decode cX6_end 29 = .ok (.getfield 55, 3) := by decide +kernel
theorem dX6_end_32 : decode cX6_end 32 = .ok (.iload_n 2, 1) := by decide +kernel
theorem dX6_end_33 : decode cX6_end 33 = .ok (.iconst 1, 1) := by decide +kernel
theorem dX6_end_34 : decode cX6_end 34 = .ok (.iadd, 1) := by decide +kernel
theorem dX6_end_35 : decode cX6_end 35 = .ok (.iaload, 1) := by decide +kernel
theorem dX6_end_36 : decode cX6_end 36 = .ok (.if_icmp .ge 55, 3) := by decide +kernel
theorem dX6_end_39 : decode cX6_end 39 = .ok (.aload_n 0, 1) := by decide +kernel
theorem dX6_end_40 : decode cX6_end 40 = .ok (.getfield 29, 3) := by decide +kernel
theorem dX6_end_43 : decode cX6_end 43 = .ok (.bipush 64, 2) := by decide +kernel
theorem dX6_end_45 : decode cX6_end 45 = .ok (.iload_n 1, 1) := by decide +kernel
theorem dX6_end_46 : decode cX6_end 46 = .ok (.imul, 1) := by decide +kernel
theorem dX6_end_47 : decode cX6_end 47 = .ok (.iload 6, 2) := by decide +kernel
theorem dX6_end_49 : decode cX6_end 49 = .ok (.iadd, 1) := by decide +kernel
theorem dX6_end_50 : decode cX6_end 50 = .ok (.laload, 1) := by decide +kernel
theorem dX6_end_51 : decode cX6_end 51 = .ok (.lstore 7, 2) := by decide +kernel
theorem dX6_end_53 : decode cX6_end 53 = .ok (.iload_n 3, 1) := by decide +kernel
theorem dX6_end_54 : decode cX6_end 54 = .ok (.ifCond .eq 14, 3) := by decide +kernel
theorem dX6_end_57 : decode cX6_end 57 = .ok (.lload 7, 2) := by decide +kernel
theorem dX6_end_59 : decode cX6_end 59 = .ok (.lload 4, 2) := by decide +kernel
theorem dX6_end_61 : decode cX6_end 61 = .ok (.lcmp, 1) := by decide +kernel
theorem dX6_end_62 : decode cX6_end 62 = .ok (.ifCond .le 19, 3) := by decide +kernel
theorem dX6_end_65 : decode cX6_end 65 = .ok (.goto 11, 3) := by decide +kernel
theorem dX6_end_68 : decode cX6_end 68 = .ok (.lload 7, 2) := by decide +kernel
theorem dX6_end_70 : decode cX6_end 70 = .ok (.lload 4, 2) := by decide +kernel
theorem dX6_end_72 : decode cX6_end 72 = .ok (.lcmp, 1) := by decide +kernel
theorem dX6_end_73 : decode cX6_end 73 = .ok (.ifCond .ge 8, 3) := by decide +kernel
theorem dX6_end_76 : decode cX6_end 76 = .ok (.lload 7, 2) := by decide +kernel
theorem dX6_end_78 : decode cX6_end 78 = .ok (.goto 5, 3) := by decide +kernel
theorem dX6_end_81 : decode cX6_end 81 = .ok (.lload 4, 2) := by decide +kernel
theorem dX6_end_83 : decode cX6_end 83 = .ok (.lstore 4, 2) := by decide +kernel
theorem dX6_end_85 : decode cX6_end 85 = .ok (.iinc 6 1, 3) := by decide +kernel
theorem dX6_end_88 : decode cX6_end 88 = .ok (.goto (-62), 3) := by decide +kernel
theorem dX6_end_91 : decode cX6_end 91 = .ok (.lload 4, 2) := by decide +kernel
theorem dX6_end_93 : decode cX6_end 93 = .ok (.lreturn, 1) := by decide +kernel
theorem dX6_height_0 : decode cX6_height 0 = .ok (.aload_n 0, 1) := by decide +kernel
theorem dX6_height_1 : decode cX6_height 1 = .ok (.iload_n 1, 1) := by decide +kernel
theorem dX6_height_2 : decode cX6_height 2 = .ok (.iload_n 2, 1) := by decide +kernel
theorem dX6_height_3 : decode cX6_height 3 = .ok (.iconst 1, 1) := by decide +kernel
theorem dX6_height_4 : decode cX6_height 4 = .ok (.invokevirtual 150, 3) := by decide +kernel
theorem dX6_height_7 : decode cX6_height 7 = .ok (.aload_n 0, 1) := by decide +kernel
theorem dX6_height_8 : decode cX6_height 8 = .ok (.iload_n 1, 1) := by decide +kernel
theorem dX6_height_9 : decode cX6_height 9 = .ok (.iload_n 2, 1) := by decide +kernel
theorem dX6_height_10 : decode cX6_height 10 = .ok (.iconst 0, 1) := by decide +kernel
theorem dX6_height_11 : decode cX6_height 11 = .ok (.invokevirtual 150, 3) := by decide +kernel
theorem dX6_height_14 : decode cX6_height 14 = .ok (.lsub, 1) := by decide +kernel
theorem dX6_height_15 : decode cX6_height 15 = .ok (.lreturn, 1) := by decide +kernel
theorem dX6_waves_0 : decode cX6_waves 0 = .ok (.iload_n 1, 1) := by decide +kernel
theorem dX6_waves_1 : decode cX6_waves 1 = .ok (.invokestatic 100, 3) := by decide +kernel
theorem dX6_waves_4 : decode cX6_waves 4 = .ok (.ifCond .eq 11, 3) := by decide +kernel
theorem dX6_waves_7 : decode cX6_waves 7 = .ok (.aload_n 0, 1) := by decide +kernel
theorem dX6_waves_8 : decode cX6_waves 8 = .ok (.iload_n 1, 1) := by decide +kernel
theorem dX6_waves_9 : decode cX6_waves 9 = .ok (.invokevirtual 154, 3) := by decide +kernel
theorem dX6_waves_12 : decode cX6_waves 12 = .ok (.goto 5, 3) := by decide +kernel
theorem dX6_waves_15 : decode cX6_waves 15 = .ok (.bipush (-2), 2) := by decide +kernel
theorem dX6_waves_17 : decode cX6_waves 17 = .ok (.ireturn, 1) := by decide +kernel
theorem dX6_wave_0 : decode cX6_wave 0 = .ok (.iload_n 1, 1) := by decide +kernel
theorem dX6_wave_1 : decode cX6_wave 1 = .ok (.invokestatic 100, 3) := by decide +kernel
theorem dX6_wave_4 : decode cX6_wave 4 = .ok (.ifCond .eq 15, 3) := by decide +kernel
theorem dX6_wave_7 : decode cX6_wave 7 = .ok (.iload_n 3, 1) := by decide +kernel
theorem dX6_wave_8 : decode cX6_wave 8 = .ok (.i2l, 1) := by decide +kernel
theorem dX6_wave_9 : decode cX6_wave 9 = .ok (.lconst 0, 1) := by decide +kernel
theorem dX6_wave_10 : decode cX6_wave 10 = .ok (.ldc2_w 157, 3) := by decide +kernel
theorem dX6_wave_13 : decode cX6_wave 13 = .ok (.invokestatic 60, 3) := by decide +kernel
theorem dX6_wave_16 : decode cX6_wave 16 = .ok (.ifCond .ne 7, 3) := by decide +kernel
theorem dX6_wave_19 : decode cX6_wave 19 = .ok (.ldc2_w 104, 3) := by decide +kernel
theorem dX6_wave_22 : decode cX6_wave 22 = .ok (.lreturn, 1) := by decide +kernel
theorem dX6_wave_23 : decode cX6_wave 23 = .ok (.iload_n 2, 1) := by decide +kernel
theorem dX6_wave_24 : decode cX6_wave 24 = .ok (.i2l, 1) := by decide +kernel
theorem dX6_wave_25 : decode cX6_wave 25 = .ok (.lconst 0, 1) := by decide +kernel
theorem dX6_wave_26 : decode cX6_wave 26 = .ok (.aload_n 0, 1) := by decide +kernel
theorem dX6_wave_27 : decode cX6_wave 27 = .ok (.iload_n 1, 1) := by decide +kernel
theorem dX6_wave_28 : decode cX6_wave 28 = .ok (.invokevirtual 154, 3) := by decide +kernel
theorem dX6_wave_31 : decode cX6_wave 31 = .ok (.iconst 1, 1) := by decide +kernel
theorem dX6_wave_32 : decode cX6_wave 32 = .ok (.isub, 1) := by decide +kernel
theorem dX6_wave_33 : decode cX6_wave 33 = .ok (.i2l, 1) := by decide +kernel
theorem dX6_wave_34 : decode cX6_wave 34 = .ok (.invokestatic 60, 3) := by decide +kernel
theorem dX6_wave_37 : decode cX6_wave 37 = .ok (.ifCond .ne 7, 3) := by decide +kernel
theorem dX6_wave_40 : decode cX6_wave 40 = .ok (.ldc2_w 84, 3) := by decide +kernel
theorem dX6_wave_43 : decode cX6_wave 43 = .ok (.lreturn, 1) := by decide +kernel
theorem dX6_wave_44 : decode cX6_wave 44 = .ok (.iload_n 3, 1) := by decide +kernel
theorem dX6_wave_45 : decode cX6_wave 45 = .ok (.tableswitch 72 0 3 #[31, 39, 56, 64], 31) := by decide +kernel
theorem dX6_wave_76 : decode cX6_wave 76 = .ok (.aload_n 0, 1) := by decide +kernel
theorem dX6_wave_77 : decode cX6_wave 77 = .ok (.getfield 55, 3) := by decide +kernel
theorem dX6_wave_80 : decode cX6_wave 80 = .ok (.iload_n 2, 1) := by decide +kernel
theorem dX6_wave_81 : decode cX6_wave 81 = .ok (.iaload, 1) := by decide +kernel
theorem dX6_wave_82 : decode cX6_wave 82 = .ok (.i2l, 1) := by decide +kernel
theorem dX6_wave_83 : decode cX6_wave 83 = .ok (.lreturn, 1) := by decide +kernel
theorem dX6_wave_84 : decode cX6_wave 84 = .ok (.aload_n 0, 1) := by decide +kernel
theorem dX6_wave_85 : decode cX6_wave 85 = .ok (.getfield 55, 3) := by decide +kernel
theorem dX6_wave_88 : decode cX6_wave 88 = .ok (.iload_n 2, 1) := by decide +kernel
theorem dX6_wave_89 : decode cX6_wave 89 = .ok (.iconst 1, 1) := by decide +kernel
theorem dX6_wave_90 : decode cX6_wave 90 = .ok (.iadd, 1) := by decide +kernel
theorem dX6_wave_91 : decode cX6_wave 91 = .ok (.iaload, 1) := by decide +kernel
theorem dX6_wave_92 : decode cX6_wave 92 = .ok (.aload_n 0, 1) := by decide +kernel
theorem dX6_wave_93 : decode cX6_wave 93 = .ok (.getfield 55, 3) := by decide +kernel
theorem dX6_wave_96 : decode cX6_wave 96 = .ok (.iload_n 2, 1) := by decide +kernel
theorem dX6_wave_97 : decode cX6_wave 97 = .ok (.iaload, 1) := by decide +kernel
theorem dX6_wave_98 : decode cX6_wave 98 = .ok (.isub, 1) := by decide +kernel
theorem dX6_wave_99 : decode cX6_wave 99 = .ok (.i2l, 1) := by decide +kernel
theorem dX6_wave_100 : decode cX6_wave 100 = .ok (.lreturn, 1) := by decide +kernel
theorem dX6_wave_101 : decode cX6_wave 101 = .ok (.aload_n 0, 1) := by decide +kernel
theorem dX6_wave_102 : decode cX6_wave 102 = .ok (.iload_n 1, 1) := by decide +kernel
theorem dX6_wave_103 : decode cX6_wave 103 = .ok (.iload_n 2, 1) := by decide +kernel
theorem dX6_wave_104 : decode cX6_wave 104 = .ok (.iconst 1, 1) := by decide +kernel
theorem dX6_wave_105 : decode cX6_wave 105 = .ok (.invokevirtual 150, 3) := by decide +kernel
theorem dX6_wave_108 : decode cX6_wave 108 = .ok (.lreturn, 1) := by decide +kernel
theorem dX6_wave_109 : decode cX6_wave 109 = .ok (.aload_n 0, 1) := by decide +kernel
theorem dX6_wave_110 : decode cX6_wave 110 = .ok (.iload_n 1, 1) := by decide +kernel
theorem dX6_wave_111 : decode cX6_wave 111 = .ok (.iload_n 2, 1) := by decide +kernel
theorem dX6_wave_112 : decode cX6_wave 112 = .ok (.iconst 0, 1) := by decide +kernel
theorem dX6_wave_113 : decode cX6_wave 113 = .ok (.invokevirtual 150, 3) := by decide +kernel
theorem dX6_wave_116 : decode cX6_wave 116 = .ok (.lreturn, 1) := by decide +kernel
theorem dX6_wave_117 : decode cX6_wave 117 = .ok (.aload_n 0, 1) := by decide +kernel
theorem dX6_wave_118 : decode cX6_wave 118 = .ok (.iload_n 1, 1) := by decide +kernel
theorem dX6_wave_119 : decode cX6_wave 119 = .ok (.iload_n 2, 1) := by decide +kernel
theorem dX6_wave_120 : decode cX6_wave 120 = .ok (.invokevirtual 159, 3) := by decide +kernel
theorem dX6_wave_123 : decode cX6_wave 123 = .ok (.lreturn, 1) := by decide +kernel
theorem dX6_divisor_0 : decode cX6_divisor 0 = .ok (.lload_n 0, 1) := by decide +kernel
theorem dX6_divisor_1 : decode cX6_divisor 1 = .ok (.lstore 4, 2) := by decide +kernel
theorem dX6_divisor_3 : decode cX6_divisor 3 = .ok (.lload_n 2, 1) := by decide +kernel
theorem dX6_divisor_4 : decode cX6_divisor 4 = .ok (.lstore 6, 2) := by decide +kernel
theorem dX6_divisor_6 : decode cX6_divisor 6 = .ok (.lload 6, 2) := by decide +kernel
theorem dX6_divisor_8 : decode cX6_divisor 8 = .ok (.lconst 0, 1) := by decide +kernel
theorem dX6_divisor_9 : decode cX6_divisor 9 = .ok (.lcmp, 1) := by decide +kernel
theorem dX6_divisor_10 : decode cX6_divisor 10 = .ok (.ifCond .eq 21, 3) := by decide +kernel
theorem dX6_divisor_13 : decode cX6_divisor 13 = .ok (.lload 4, 2) := by decide +kernel
theorem dX6_divisor_15 : decode cX6_divisor 15 = .ok (.lload 6, 2) := by decide +kernel
theorem dX6_divisor_17 : decode cX6_divisor 17 = .ok (.lrem, 1) := by decide +kernel
theorem dX6_divisor_18 : decode cX6_divisor 18 = .ok (.lstore 8, 2) := by decide +kernel
theorem dX6_divisor_20 : decode cX6_divisor 20 = .ok (.lload 6, 2) := by decide +kernel
theorem dX6_divisor_22 : decode cX6_divisor 22 = .ok (.lstore 4, 2) := by decide +kernel
theorem dX6_divisor_24 : decode cX6_divisor 24 = .ok (.lload 8, 2) := by decide +kernel
theorem dX6_divisor_26 : decode cX6_divisor 26 = .ok (.lstore 6, 2) := by decide +kernel
theorem dX6_divisor_28 : decode cX6_divisor 28 = .ok (.goto (-22), 3) := by decide +kernel
theorem dX6_divisor_31 : decode cX6_divisor 31 = .ok (.lload 4, 2) := by decide +kernel
theorem dX6_divisor_33 : decode cX6_divisor 33 = .ok (.lreturn, 1) := by decide +kernel
theorem dX6_third_0 : decode cX6_third 0 = .ok (.iload_n 1, 1) := by decide +kernel
theorem dX6_third_1 : decode cX6_third 1 = .ok (.invokestatic 100, 3) := by decide +kernel
theorem dX6_third_4 : decode cX6_third 4 = .ok (.ifCond .eq 13, 3) := by decide +kernel
theorem dX6_third_7 : decode cX6_third 7 = .ok (.iload_n 2, 1) := by decide +kernel
theorem dX6_third_8 : decode cX6_third 8 = .ok (.i2l, 1) := by decide +kernel
theorem dX6_third_9 : decode cX6_third 9 = .ok (.lconst 0, 1) := by decide +kernel
theorem dX6_third_10 : decode cX6_third 10 = .ok (.lconst 1, 1) := by decide +kernel
theorem dX6_third_11 : decode cX6_third 11 = .ok (.invokestatic 60, 3) := by decide +kernel
theorem dX6_third_14 : decode cX6_third 14 = .ok (.ifCond .ne 7, 3) := by decide +kernel
theorem dX6_third_17 : decode cX6_third 17 = .ok (.ldc2_w 104, 3) := by decide +kernel
theorem dX6_third_20 : decode cX6_third 20 = .ok (.lreturn, 1) := by decide +kernel
theorem dX6_third_21 : decode cX6_third 21 = .ok (.aload_n 0, 1) := by decide +kernel
theorem dX6_third_22 : decode cX6_third 22 = .ok (.iload_n 1, 1) := by decide +kernel
theorem dX6_third_23 : decode cX6_third 23 = .ok (.invokevirtual 154, 3) := by decide +kernel
theorem dX6_third_26 : decode cX6_third 26 = .ok (.istore_n 3, 1) := by decide +kernel
theorem dX6_third_27 : decode cX6_third 27 = .ok (.iload_n 3, 1) := by decide +kernel
theorem dX6_third_28 : decode cX6_third 28 = .ok (.ifCond .ne 7, 3) := by decide +kernel
theorem dX6_third_31 : decode cX6_third 31 = .ok (.ldc2_w 141, 3) := by decide +kernel
theorem dX6_third_34 : decode cX6_third 34 = .ok (.lreturn, 1) := by decide +kernel
theorem dX6_third_35 : decode cX6_third 35 = .ok (.iload_n 3, 1) := by decide +kernel
theorem dX6_third_36 : decode cX6_third 36 = .ok (.iconst 3, 1) := by decide +kernel
theorem dX6_third_37 : decode cX6_third 37 = .ok (.idiv, 1) := by decide +kernel
theorem dX6_third_38 : decode cX6_third 38 = .ok (.iconst 1, 1) := by decide +kernel
theorem dX6_third_39 : decode cX6_third 39 = .ok (.if_icmp .le 9, 3) := by decide +kernel
theorem dX6_third_42 : decode cX6_third 42 = .ok (.iload_n 3, 1) := by decide +kernel
theorem dX6_third_43 : decode cX6_third 43 = .ok (.iconst 3, 1) := by decide +kernel
theorem dX6_third_44 : decode cX6_third 44 = .ok (.idiv, 1) := by decide +kernel
theorem dX6_third_45 : decode cX6_third 45 = .ok (.goto 4, 3) := by decide +kernel
theorem dX6_third_48 : decode cX6_third 48 = .ok (.iconst 1, 1) := by decide +kernel
theorem dX6_third_49 : decode cX6_third 49 = .ok (.istore 4, 2) := by decide +kernel
theorem dX6_third_51 : decode cX6_third 51 = .ok (.iconst 0, 1) := by decide +kernel
theorem dX6_third_52 : decode cX6_third 52 = .ok (.istore 5, 2) := by decide +kernel
theorem dX6_third_54 : decode cX6_third 54 = .ok (.iload 5, 2) := by decide +kernel
theorem dX6_third_56 : decode cX6_third 56 = .ok (.iload_n 3, 1) := by decide +kernel
theorem dX6_third_57 : decode cX6_third 57 = .ok (.if_icmp .ge 23, 3) := by decide +kernel
theorem dX6_third_60 : decode cX6_third 60 = .ok (.aload_n 0, 1) := by decide +kernel
theorem dX6_third_61 : decode cX6_third 61 = .ok (.getfield 33, 3) := by decide +kernel
theorem dX6_third_64 : decode cX6_third 64 = .ok (.iload 5, 2) := by decide +kernel
theorem dX6_third_66 : decode cX6_third 66 = .ok (.aload_n 0, 1) := by decide +kernel
theorem dX6_third_67 : decode cX6_third 67 = .ok (.iload_n 1, 1) := by decide +kernel
theorem dX6_third_68 : decode cX6_third 68 = .ok (.iload 5, 2) := by decide +kernel
theorem dX6_third_70 : decode cX6_third 70 = .ok (.invokevirtual 159, 3) := by decide +kernel
theorem dX6_third_73 : decode cX6_third 73 = .ok (.lastore, 1) := by decide +kernel
theorem dX6_third_74 : decode cX6_third 74 = .ok (.iinc 5 1, 3) := by decide +kernel
theorem dX6_third_77 : decode cX6_third 77 = .ok (.goto (-23), 3) := by decide +kernel
theorem dX6_third_80 : decode cX6_third 80 = .ok (.lconst 0, 1) := by decide +kernel
theorem dX6_third_81 : decode cX6_third 81 = .ok (.lstore 5, 2) := by decide +kernel
theorem dX6_third_83 : decode cX6_third 83 = .ok (.iconst 0, 1) := by decide +kernel
theorem dX6_third_84 : decode cX6_third 84 = .ok (.istore 7, 2) := by decide +kernel
theorem dX6_third_86 : decode cX6_third 86 = .ok (.iload 7, 2) := by decide +kernel
theorem dX6_third_88 : decode cX6_third 88 = .ok (.iload 4, 2) := by decide +kernel
theorem dX6_third_90 : decode cX6_third 90 = .ok (.if_icmp .ge 76, 3) := by decide +kernel
theorem dX6_third_93 : decode cX6_third 93 = .ok (.iconst 0, 1) := by decide +kernel
theorem dX6_third_94 : decode cX6_third 94 = .ok (.istore 8, 2) := by decide +kernel
theorem dX6_third_96 : decode cX6_third 96 = .ok (.iconst 1, 1) := by decide +kernel
theorem dX6_third_97 : decode cX6_third 97 = .ok (.istore 9, 2) := by decide +kernel
theorem dX6_third_99 : decode cX6_third 99 = .ok (.iload 9, 2) := by decide +kernel
theorem dX6_third_101 : decode cX6_third 101 = .ok (.iload_n 3, 1) := by decide +kernel
theorem dX6_third_102 : decode cX6_third 102 = .ok (.if_icmp .ge 36, 3) := by decide +kernel
theorem dX6_third_105 : decode cX6_third 105 = .ok (.aload_n 0, 1) := by decide +kernel
theorem dX6_third_106 : decode cX6_third 106 = .ok (.getfield 33, 3) := by decide +kernel
theorem dX6_third_109 : decode cX6_third 109 = .ok (.iload 9, 2) := by decide +kernel
theorem dX6_third_111 : decode cX6_third 111 = .ok (.laload, 1) := by decide +kernel
theorem dX6_third_112 : decode cX6_third 112 = .ok (.aload_n 0, 1) := by decide +kernel
theorem dX6_third_113 : decode cX6_third 113 = .ok (.getfield 33, 3) := by decide +kernel
theorem dX6_third_116 : decode cX6_third 116 = .ok (.iload 8, 2) := by decide +kernel
theorem dX6_third_118 : decode cX6_third 118 = .ok (.laload, 1) := by decide +kernel
theorem dX6_third_119 : decode cX6_third 119 = .ok (.lcmp, 1) := by decide +kernel
theorem dX6_third_120 : decode cX6_third 120 = .ok (.ifCond .le 8, 3) := by decide +kernel
theorem dX6_third_123 : decode cX6_third 123 = .ok (.iload 9, 2) := by decide +kernel
theorem dX6_third_125 : decode cX6_third 125 = .ok (.goto 5, 3) := by decide +kernel
theorem dX6_third_128 : decode cX6_third 128 = .ok (.iload 8, 2) := by decide +kernel
theorem dX6_third_130 : decode cX6_third 130 = .ok (.istore 8, 2) := by decide +kernel
theorem dX6_third_132 : decode cX6_third 132 = .ok (.iinc 9 1, 3) := by decide +kernel
theorem dX6_third_135 : decode cX6_third 135 = .ok (.goto (-36), 3) := by decide +kernel
theorem dX6_third_138 : decode cX6_third 138 = .ok (.lload 5, 2) := by decide +kernel
theorem dX6_third_140 : decode cX6_third 140 = .ok (.aload_n 0, 1) := by decide +kernel
theorem dX6_third_141 : decode cX6_third 141 = .ok (.getfield 33, 3) := by decide +kernel
theorem dX6_third_144 : decode cX6_third 144 = .ok (.iload 8, 2) := by decide +kernel
theorem dX6_third_146 : decode cX6_third 146 = .ok (.laload, 1) := by decide +kernel
theorem dX6_third_147 : decode cX6_third 147 = .ok (.ladd, 1) := by decide +kernel
theorem dX6_third_148 : decode cX6_third 148 = .ok (.lstore 5, 2) := by decide +kernel
theorem dX6_third_150 : decode cX6_third 150 = .ok (.aload_n 0, 1) := by decide +kernel
theorem dX6_third_151 : decode cX6_third 151 = .ok (.getfield 33, 3) := by decide +kernel
theorem dX6_third_154 : decode cX6_third 154 = .ok (.iload 8, 2) := by decide +kernel
theorem dX6_third_156 : decode cX6_third 156 = .ok (.ldc2_w 108, 3) := by decide +kernel
theorem dX6_third_159 : decode cX6_third 159 = .ok (.lastore, 1) := by decide +kernel
theorem dX6_third_160 : decode cX6_third 160 = .ok (.iinc 7 1, 3) := by decide +kernel
theorem dX6_third_163 : decode cX6_third 163 = .ok (.goto (-77), 3) := by decide +kernel
theorem dX6_third_166 : decode cX6_third 166 = .ok (.lload 5, 2) := by decide +kernel
theorem dX6_third_168 : decode cX6_third 168 = .ok (.iload 4, 2) := by decide +kernel
theorem dX6_third_170 : decode cX6_third 170 = .ok (.i2l, 1) := by decide +kernel
theorem dX6_third_171 : decode cX6_third 171 = .ok (.invokestatic 163, 3) := by decide +kernel
theorem dX6_third_174 : decode cX6_third 174 = .ok (.lstore 7, 2) := by decide +kernel
theorem dX6_third_176 : decode cX6_third 176 = .ok (.iload_n 2, 1) := by decide +kernel
theorem dX6_third_177 : decode cX6_third 177 = .ok (.ifCond .ne 11, 3) := by decide +kernel
theorem dX6_third_180 : decode cX6_third 180 = .ok (.lload 5, 2) := by decide +kernel
theorem dX6_third_182 : decode cX6_third 182 = .ok (.lload 7, 2) := by decide +kernel
theorem dX6_third_184 : decode cX6_third 184 = .ok (.ldiv, 1) := by decide +kernel
theorem dX6_third_185 : decode cX6_third 185 = .ok (.goto 9, 3) := by decide +kernel
theorem dX6_third_188 : decode cX6_third 188 = .ok (.iload 4, 2) := by decide +kernel
theorem dX6_third_190 : decode cX6_third 190 = .ok (.i2l, 1) := by decide +kernel
theorem dX6_third_191 : decode cX6_third 191 = .ok (.lload 7, 2) := by decide +kernel
theorem dX6_third_193 : decode cX6_third 193 = .ok (.ldiv, 1) := by decide +kernel
theorem dX6_third_194 : decode cX6_third 194 = .ok (.lreturn, 1) := by decide +kernel
theorem dX6_groups_0 : decode cX6_groups 0 = .ok (.iload_n 1, 1) := by decide +kernel
theorem dX6_groups_1 : decode cX6_groups 1 = .ok (.invokestatic 100, 3) := by decide +kernel
theorem dX6_groups_4 : decode cX6_groups 4 = .ok (.ifCond .eq 14, 3) := by decide +kernel
theorem dX6_groups_7 : decode cX6_groups 7 = .ok (.iload 4, 2) := by decide +kernel
theorem dX6_groups_9 : decode cX6_groups 9 = .ok (.i2l, 1) := by decide +kernel
theorem dX6_groups_10 : decode cX6_groups 10 = .ok (.lconst 0, 1) := by decide +kernel
theorem dX6_groups_11 : decode cX6_groups 11 = .ok (.lconst 1, 1) := by decide +kernel
theorem dX6_groups_12 : decode cX6_groups 12 = .ok (.invokestatic 60, 3) := by decide +kernel
theorem dX6_groups_15 : decode cX6_groups 15 = .ok (.ifCond .ne 6, 3) := by decide +kernel
theorem dX6_groups_18 : decode cX6_groups 18 = .ok (.bipush (-2), 2) := by decide +kernel
theorem dX6_groups_20 : decode cX6_groups 20 = .ok (.ireturn, 1) := by decide +kernel
theorem dX6_groups_21 : decode cX6_groups 21 = .ok (.aload_n 0, 1) := by decide +kernel
theorem dX6_groups_22 : decode cX6_groups 22 = .ok (.iload_n 1, 1) := by decide +kernel
theorem dX6_groups_23 : decode cX6_groups 23 = .ok (.invokevirtual 154, 3) := by decide +kernel
theorem dX6_groups_26 : decode cX6_groups 26 = .ok (.istore 5, 2) := by decide +kernel
theorem dX6_groups_28 : decode cX6_groups 28 = .ok (.iconst 0, 1) := by decide +kernel
theorem dX6_groups_29 : decode cX6_groups 29 = .ok (.istore 6, 2) := by decide +kernel
theorem dX6_groups_31 : decode cX6_groups 31 = .ok (.iconst 0, 1) := by decide +kernel
theorem dX6_groups_32 : decode cX6_groups 32 = .ok (.istore 7, 2) := by decide +kernel
theorem dX6_groups_34 : decode cX6_groups 34 = .ok (.iconst 0, 1) := by decide +kernel
theorem dX6_groups_35 : decode cX6_groups 35 = .ok (.istore 8, 2) := by decide +kernel
theorem dX6_groups_37 : decode cX6_groups 37 = .ok (.iconst 0, 1) := by decide +kernel
theorem dX6_groups_38 : decode cX6_groups 38 = .ok (.istore 9, 2) := by decide +kernel
theorem dX6_groups_40 : decode cX6_groups 40 = .ok (.iload 9, 2) := by decide +kernel
theorem dX6_groups_42 : decode cX6_groups 42 = .ok (.iload 5, 2) := by decide +kernel
theorem dX6_groups_44 : decode cX6_groups 44 = .ok (.if_icmp .ge 63, 3) := by decide +kernel
theorem dX6_groups_47 : decode cX6_groups 47 = .ok (.aload_n 0, 1) := by decide +kernel
theorem dX6_groups_48 : decode cX6_groups 48 = .ok (.iload_n 1, 1) := by decide +kernel
theorem dX6_groups_49 : decode cX6_groups 49 = .ok (.iload 9, 2) := by decide +kernel
theorem dX6_groups_51 : decode cX6_groups 51 = .ok (.invokevirtual 159, 3) := by decide +kernel
theorem dX6_groups_54 : decode cX6_groups 54 = .ok (.lload_n 2, 1) := by decide +kernel
theorem dX6_groups_55 : decode cX6_groups 55 = .ok (.lcmp, 1) := by decide +kernel
theorem dX6_groups_56 : decode cX6_groups 56 = .ok (.ifCond .le 10, 3) := by decide +kernel
theorem dX6_groups_59 : decode cX6_groups 59 = .ok (.iload 8, 2) := by decide +kernel
theorem dX6_groups_61 : decode cX6_groups 61 = .ok (.iconst 1, 1) := by decide +kernel
theorem dX6_groups_62 : decode cX6_groups 62 = .ok (.iadd, 1) := by decide +kernel
theorem dX6_groups_63 : decode cX6_groups 63 = .ok (.goto 4, 3) := by decide +kernel
theorem dX6_groups_66 : decode cX6_groups 66 = .ok (.iconst 0, 1) := by decide +kernel
theorem dX6_groups_67 : decode cX6_groups 67 = .ok (.istore 8, 2) := by decide +kernel
theorem dX6_groups_69 : decode cX6_groups 69 = .ok (.iload 6, 2) := by decide +kernel
theorem dX6_groups_71 : decode cX6_groups 71 = .ok (.iload 8, 2) := by decide +kernel
theorem dX6_groups_73 : decode cX6_groups 73 = .ok (.iconst 2, 1) := by decide +kernel
theorem dX6_groups_74 : decode cX6_groups 74 = .ok (.if_icmp .ne 7, 3) := by decide +kernel
theorem dX6_groups_77 : decode cX6_groups 77 = .ok (.iconst 1, 1) := by decide +kernel
theorem dX6_groups_78 : decode cX6_groups 78 = .ok (.goto 4, 3) := by decide +kernel
theorem dX6_groups_81 : decode cX6_groups 81 = .ok (.iconst 0, 1) := by decide +kernel
theorem dX6_groups_82 : decode cX6_groups 82 = .ok (.iadd, 1) := by decide +kernel
theorem dX6_groups_83 : decode cX6_groups 83 = .ok (.istore 6, 2) := by decide +kernel
theorem dX6_groups_85 : decode cX6_groups 85 = .ok (.iload 8, 2) := by decide +kernel
theorem dX6_groups_87 : decode cX6_groups 87 = .ok (.iload 7, 2) := by decide +kernel
theorem dX6_groups_89 : decode cX6_groups 89 = .ok (.if_icmp .le 8, 3) := by decide +kernel
theorem dX6_groups_92 : decode cX6_groups 92 = .ok (.iload 8, 2) := by decide +kernel
theorem dX6_groups_94 : decode cX6_groups 94 = .ok (.goto 5, 3) := by decide +kernel
theorem dX6_groups_97 : decode cX6_groups 97 = .ok (.iload 7, 2) := by decide +kernel
theorem dX6_groups_99 : decode cX6_groups 99 = .ok (.istore 7, 2) := by decide +kernel
theorem dX6_groups_101 : decode cX6_groups 101 = .ok (.iinc 9 1, 3) := by decide +kernel
theorem dX6_groups_104 : decode cX6_groups 104 = .ok (.goto (-64), 3) := by decide +kernel
theorem dX6_groups_107 : decode cX6_groups 107 = .ok (.iload 4, 2) := by decide +kernel
theorem dX6_groups_109 : decode cX6_groups 109 = .ok (.ifCond .ne 8, 3) := by decide +kernel
theorem dX6_groups_112 : decode cX6_groups 112 = .ok (.iload 6, 2) := by decide +kernel
theorem dX6_groups_114 : decode cX6_groups 114 = .ok (.goto 5, 3) := by decide +kernel
theorem dX6_groups_117 : decode cX6_groups 117 = .ok (.iload 7, 2) := by decide +kernel
theorem dX6_groups_119 : decode cX6_groups 119 = .ok (.ireturn, 1) := by decide +kernel
theorem dX6_isNear_0 : decode cX6_isNear 0 = .ok (.iconst 1, 1) := by decide +kernel
theorem dX6_isNear_1 : decode cX6_isNear 1 = .ok (.istore_n 2, 1) := by decide +kernel
theorem dX6_isNear_2 : decode cX6_isNear 2 = .ok (.iconst 0, 1) := by decide +kernel
theorem dX6_isNear_3 : decode cX6_isNear 3 = .ok (.istore_n 3, 1) := by decide +kernel
theorem dX6_isNear_4 : decode cX6_isNear 4 = .ok (.iload_n 3, 1) := by decide +kernel
theorem dX6_isNear_5 : decode cX6_isNear 5 = .ok (.aload_n 0, 1) := by decide +kernel
theorem dX6_isNear_6 : decode cX6_isNear 6 = .ok (.getfield 26, 3) := by decide +kernel
theorem dX6_isNear_9 : decode cX6_isNear 9 = .ok (.iload_n 1, 1) := by decide +kernel
theorem dX6_isNear_10 : decode cX6_isNear 10 = .ok (.iaload, 1) := by decide +kernel
theorem dX6_isNear_11 : decode cX6_isNear 11 = .ok (.if_icmp .ge 42, 3) := by decide +kernel
theorem dX6_isNear_14 : decode cX6_isNear 14 = .ok (.iload_n 2, 1) := by decide +kernel
theorem dX6_isNear_15 : decode cX6_isNear 15 = .ok (.ifCond .eq 30, 3) := by decide +kernel
theorem dX6_isNear_18 : decode cX6_isNear 18 = .ok (.aload_n 0, 1) := by decide +kernel
theorem dX6_isNear_19 : decode cX6_isNear 19 = .ok (.getfield 29, 3) := by decide +kernel
theorem dX6_isNear_22 : decode cX6_isNear 22 = .ok (.bipush 64, 2) := by decide +kernel
theorem dX6_isNear_24 : decode cX6_isNear 24 = .ok (.iload_n 1, 1) := by decide +kernel
theorem dX6_isNear_25 : decode cX6_isNear 25 = .ok (.imul, 1) := by decide +kernel
theorem dX6_isNear_26 : decode cX6_isNear 26 = .ok (.iload_n 3, 1) := by decide +kernel
theorem dX6_isNear_27 : decode cX6_isNear 27 = .ok (.iadd, 1) := by decide +kernel
theorem dX6_isNear_28 : decode cX6_isNear 28 = .ok (.laload, 1) := by decide +kernel
theorem dX6_isNear_29 : decode cX6_isNear 29 = .ok (.ldc2_w 131, 3) := by decide +kernel
theorem dX6_isNear_32 : decode cX6_isNear 32 = .ok (.ldc2_w 133, 3) := by decide +kernel
theorem dX6_isNear_35 : decode cX6_isNear 35 = .ok (.invokestatic 60, 3) := by decide +kernel
theorem dX6_isNear_38 : decode cX6_isNear 38 = .ok (.ifCond .eq 7, 3) := by decide +kernel
theorem dX6_isNear_41 : decode cX6_isNear 41 = .ok (.iconst 1, 1) := by decide +kernel
theorem dX6_isNear_42 : decode cX6_isNear 42 = .ok (.goto 4, 3) := by decide +kernel
theorem dX6_isNear_45 : decode cX6_isNear 45 = .ok (.iconst 0, 1) := by decide +kernel
theorem dX6_isNear_46 : decode cX6_isNear 46 = .ok (.istore_n 2, 1) := by decide +kernel
theorem dX6_isNear_47 : decode cX6_isNear 47 = .ok (.iinc 3 1, 3) := by decide +kernel
theorem dX6_isNear_50 : decode cX6_isNear 50 = .ok (.goto (-46), 3) := by decide +kernel
theorem dX6_isNear_53 : decode cX6_isNear 53 = .ok (.iload_n 2, 1) := by decide +kernel
theorem dX6_isNear_54 : decode cX6_isNear 54 = .ok (.ireturn, 1) := by decide +kernel
theorem dX6_heading_0 : decode cX6_heading 0 = .ok (.iload_n 1, 1) := by decide +kernel
theorem dX6_heading_1 : decode cX6_heading 1 = .ok (.invokestatic 100, 3) := by decide +kernel
theorem dX6_heading_4 : decode cX6_heading 4 = .ok (.ifCond .eq 30, 3) := by decide +kernel
theorem dX6_heading_7 : decode cX6_heading 7 = .ok (.iload_n 2, 1) := by decide +kernel
theorem dX6_heading_8 : decode cX6_heading 8 = .ok (.invokestatic 100, 3) := by decide +kernel
theorem dX6_heading_11 : decode cX6_heading 11 = .ok (.ifCond .eq 23, 3) := by decide +kernel
theorem dX6_heading_14 : decode cX6_heading 14 = .ok (.iload_n 3, 1) := by decide +kernel
theorem dX6_heading_15 : decode cX6_heading 15 = .ok (.invokestatic 100, 3) := by decide +kernel
theorem dX6_heading_18 : decode cX6_heading 18 = .ok (.ifCond .eq 16, 3) := by decide +kernel
theorem dX6_heading_21 : decode cX6_heading 21 = .ok (.iload 4, 2) := by decide +kernel
theorem dX6_heading_23 : decode cX6_heading 23 = .ok (.i2l, 1) := by decide +kernel
theorem dX6_heading_24 : decode cX6_heading 24 = .ok (.lconst 1, 1) := by decide +kernel
theorem dX6_heading_25 : decode cX6_heading 25 = .ok (.ldc2_w 167, 3) := by decide +kernel
theorem dX6_heading_28 : decode cX6_heading 28 = .ok (.invokestatic 60, 3) := by decide +kernel
theorem dX6_heading_31 : decode cX6_heading 31 = .ok (.ifCond .ne 6, 3) := by decide +kernel
theorem dX6_heading_34 : decode cX6_heading 34 = .ok (.bipush (-2), 2) := by decide +kernel
theorem dX6_heading_36 : decode cX6_heading 36 = .ok (.ireturn, 1) := by decide +kernel
theorem dX6_heading_37 : decode cX6_heading 37 = .ok (.aload_n 0, 1) := by decide +kernel
theorem dX6_heading_38 : decode cX6_heading 38 = .ok (.getfield 26, 3) := by decide +kernel
theorem dX6_heading_41 : decode cX6_heading 41 = .ok (.iload_n 1, 1) := by decide +kernel
theorem dX6_heading_42 : decode cX6_heading 42 = .ok (.iaload, 1) := by decide +kernel
theorem dX6_heading_43 : decode cX6_heading 43 = .ok (.aload_n 0, 1) := by decide +kernel
theorem dX6_heading_44 : decode cX6_heading 44 = .ok (.getfield 26, 3) := by decide +kernel
theorem dX6_heading_47 : decode cX6_heading 47 = .ok (.iload_n 2, 1) := by decide +kernel
theorem dX6_heading_48 : decode cX6_heading 48 = .ok (.iaload, 1) := by decide +kernel
theorem dX6_heading_49 : decode cX6_heading 49 = .ok (.if_icmp .ne 18, 3) := by decide +kernel
theorem dX6_heading_52 : decode cX6_heading 52 = .ok (.aload_n 0, 1) := by decide +kernel
theorem dX6_heading_53 : decode cX6_heading 53 = .ok (.getfield 26, 3) := by decide +kernel
theorem dX6_heading_56 : decode cX6_heading 56 = .ok (.iload_n 1, 1) := by decide +kernel
theorem dX6_heading_57 : decode cX6_heading 57 = .ok (.iaload, 1) := by decide +kernel
theorem dX6_heading_58 : decode cX6_heading 58 = .ok (.aload_n 0, 1) := by decide +kernel
theorem dX6_heading_59 : decode cX6_heading 59 = .ok (.getfield 26, 3) := by decide +kernel
theorem dX6_heading_62 : decode cX6_heading 62 = .ok (.iload_n 3, 1) := by decide +kernel
theorem dX6_heading_63 : decode cX6_heading 63 = .ok (.iaload, 1) := by decide +kernel
theorem dX6_heading_64 : decode cX6_heading 64 = .ok (.if_icmp .eq 6, 3) := by decide +kernel
theorem dX6_heading_67 : decode cX6_heading 67 = .ok (.bipush (-3), 2) := by decide +kernel
theorem dX6_heading_69 : decode cX6_heading 69 = .ok (.ireturn, 1) := by decide +kernel
theorem dX6_heading_70 : decode cX6_heading 70 = .ok (.aload_n 0, 1) := by decide +kernel
theorem dX6_heading_71 : decode cX6_heading 71 = .ok (.iload_n 1, 1) := by decide +kernel
theorem dX6_heading_72 : decode cX6_heading 72 = .ok (.invokevirtual 169, 3) := by decide +kernel
theorem dX6_heading_75 : decode cX6_heading 75 = .ok (.ifCond .eq 19, 3) := by decide +kernel
theorem dX6_heading_78 : decode cX6_heading 78 = .ok (.aload_n 0, 1) := by decide +kernel
theorem dX6_heading_79 : decode cX6_heading 79 = .ok (.iload_n 2, 1) := by decide +kernel
theorem dX6_heading_80 : decode cX6_heading 80 = .ok (.invokevirtual 169, 3) := by decide +kernel
theorem dX6_heading_83 : decode cX6_heading 83 = .ok (.ifCond .eq 11, 3) := by decide +kernel
theorem dX6_heading_86 : decode cX6_heading 86 = .ok (.aload_n 0, 1) := by decide +kernel
theorem dX6_heading_87 : decode cX6_heading 87 = .ok (.iload_n 3, 1) := by decide +kernel
theorem dX6_heading_88 : decode cX6_heading 88 = .ok (.invokevirtual 169, 3) := by decide +kernel
theorem dX6_heading_91 : decode cX6_heading 91 = .ok (.ifCond .ne 6, 3) := by decide +kernel
theorem dX6_heading_94 : decode cX6_heading 94 = .ok (.bipush (-16), 2) := by decide +kernel
theorem dX6_heading_96 : decode cX6_heading 96 = .ok (.ireturn, 1) := by decide +kernel
theorem dX6_heading_97 : decode cX6_heading 97 = .ok (.aload_n 0, 1) := by decide +kernel
theorem dX6_heading_98 : decode cX6_heading 98 = .ok (.iload_n 1, 1) := by decide +kernel
theorem dX6_heading_99 : decode cX6_heading 99 = .ok (.iload_n 2, 1) := by decide +kernel
theorem dX6_heading_100 : decode cX6_heading 100 = .ok (.invokevirtual 172, 3) := by decide +kernel
theorem dX6_heading_103 : decode cX6_heading 103 = .ok (.lstore 5, 2) := by decide +kernel
theorem dX6_heading_105 : decode cX6_heading 105 = .ok (.aload_n 0, 1) := by decide +kernel
theorem dX6_heading_106 : decode cX6_heading 106 = .ok (.iload_n 1, 1) := by decide +kernel
theorem dX6_heading_107 : decode cX6_heading 107 = .ok (.iload_n 3, 1) := by decide +kernel
theorem dX6_heading_108 : decode cX6_heading 108 = .ok (.invokevirtual 172, 3) := by decide +kernel
theorem dX6_heading_111 : decode cX6_heading 111 = .ok (.lstore 7, 2) := by decide +kernel
theorem dX6_heading_113 : decode cX6_heading 113 = .ok (.iload 4, 2) := by decide +kernel
theorem dX6_heading_115 : decode cX6_heading 115 = .ok (.i2l, 1) := by decide +kernel
theorem dX6_heading_116 : decode cX6_heading 116 = .ok (.aload_n 0, 1) := by decide +kernel
theorem dX6_heading_117 : decode cX6_heading 117 = .ok (.iload_n 1, 1) := by decide +kernel
theorem dX6_heading_118 : decode cX6_heading 118 = .ok (.iconst 0, 1) := by decide +kernel
theorem dX6_heading_119 : decode cX6_heading 119 = .ok (.bipush 64, 2) := by decide +kernel
theorem dX6_heading_121 : decode cX6_heading 121 = .ok (.invokevirtual 175, 3) := by decide +kernel
theorem dX6_heading_124 : decode cX6_heading 124 = .ok (.lmul, 1) := by decide +kernel
theorem dX6_heading_125 : decode cX6_heading 125 = .ok (.aload_n 0, 1) := by decide +kernel
theorem dX6_heading_126 : decode cX6_heading 126 = .ok (.iload_n 2, 1) := by decide +kernel
theorem dX6_heading_127 : decode cX6_heading 127 = .ok (.iconst 0, 1) := by decide +kernel
theorem dX6_heading_128 : decode cX6_heading 128 = .ok (.bipush 64, 2) := by decide +kernel
theorem dX6_heading_130 : decode cX6_heading 130 = .ok (.invokevirtual 175, 3) := by decide +kernel
theorem dX6_heading_133 : decode cX6_heading 133 = .ok (.aload_n 0, 1) := by decide +kernel
theorem dX6_heading_134 : decode cX6_heading 134 = .ok (.iload_n 3, 1) := by decide +kernel
theorem dX6_heading_135 : decode cX6_heading 135 = .ok (.iconst 0, 1) := by decide +kernel
theorem dX6_heading_136 : decode cX6_heading 136 = .ok (.bipush 64, 2) := by decide +kernel
theorem dX6_heading_138 : decode cX6_heading 138 = .ok (.invokevirtual 175, 3) := by decide +kernel
theorem dX6_heading_141 : decode cX6_heading 141 = .ok (.ladd, 1) := by decide +kernel
theorem dX6_heading_142 : decode cX6_heading 142 = .ok (.lmul, 1) := by decide +kernel
theorem dX6_heading_143 : decode cX6_heading 143 = .ok (.lstore 9, 2) := by decide +kernel
theorem dX6_heading_145 : decode cX6_heading 145 = .ok (.lload 5, 2) := by decide +kernel
theorem dX6_heading_147 : decode cX6_heading 147 = .ok (.lconst 0, 1) := by decide +kernel
theorem dX6_heading_148 : decode cX6_heading 148 = .ok (.lcmp, 1) := by decide +kernel
theorem dX6_heading_149 : decode cX6_heading 149 = .ok (.ifCond .ne 10, 3) := by decide +kernel
theorem dX6_heading_152 : decode cX6_heading 152 = .ok (.lload 7, 2) := by decide +kernel
theorem dX6_heading_154 : decode cX6_heading 154 = .ok (.lconst 0, 1) := by decide +kernel
theorem dX6_heading_155 : decode cX6_heading 155 = .ok (.lcmp, 1) := by decide +kernel
theorem dX6_heading_156 : decode cX6_heading 156 = .ok (.ifCond .eq 24, 3) := by decide +kernel
theorem dX6_heading_159 : decode cX6_heading 159 = .ok (.ldc2_w 167, 3) := by decide +kernel
theorem dX6_heading_162 : decode cX6_heading 162 = .ok (.lload 5, 2) := by decide +kernel
theorem dX6_heading_164 : decode cX6_heading 164 = .ok (.lload 5, 2) := by decide +kernel
theorem dX6_heading_166 : decode cX6_heading 166 = .ok (.lmul, 1) := by decide +kernel
theorem dX6_heading_167 : decode cX6_heading 167 = .ok (.lload 7, 2) := by decide +kernel
theorem dX6_heading_169 : decode cX6_heading 169 = .ok (.lload 7, 2) := by decide +kernel
theorem dX6_heading_171 : decode cX6_heading 171 = .ok (.lmul, 1) := by decide +kernel
theorem dX6_heading_172 : decode cX6_heading 172 = .ok (.ladd, 1) := by decide +kernel
theorem dX6_heading_173 : decode cX6_heading 173 = .ok (.lmul, 1) := by decide +kernel
theorem dX6_heading_174 : decode cX6_heading 174 = .ok (.lload 9, 2) := by decide +kernel
theorem dX6_heading_176 : decode cX6_heading 176 = .ok (.lcmp, 1) := by decide +kernel
theorem dX6_heading_177 : decode cX6_heading 177 = .ok (.ifCond .ge 5, 3) := by decide +kernel
theorem dX6_heading_180 : decode cX6_heading 180 = .ok (.iconst (-1), 1) := by decide +kernel
theorem dX6_heading_181 : decode cX6_heading 181 = .ok (.ireturn, 1) := by decide +kernel
theorem dX6_heading_182 : decode cX6_heading 182 = .ok (.lload 7, 2) := by decide +kernel
theorem dX6_heading_184 : decode cX6_heading 184 = .ok (.lconst 0, 1) := by decide +kernel
theorem dX6_heading_185 : decode cX6_heading 185 = .ok (.lcmp, 1) := by decide +kernel
theorem dX6_heading_186 : decode cX6_heading 186 = .ok (.ifCond .lt 24, 3) := by decide +kernel
theorem dX6_heading_189 : decode cX6_heading 189 = .ok (.lload 5, 2) := by decide +kernel
theorem dX6_heading_191 : decode cX6_heading 191 = .ok (.lconst 0, 1) := by decide +kernel
theorem dX6_heading_192 : decode cX6_heading 192 = .ok (.lcmp, 1) := by decide +kernel
theorem dX6_heading_193 : decode cX6_heading 193 = .ok (.ifCond .le 17, 3) := by decide +kernel
theorem dX6_heading_196 : decode cX6_heading 196 = .ok (.lload 5, 2) := by decide +kernel
theorem dX6_heading_198 : decode cX6_heading 198 = .ok (.lload 7, 2) := by decide +kernel
theorem dX6_heading_200 : decode cX6_heading 200 = .ok (.lcmp, 1) := by decide +kernel
theorem dX6_heading_201 : decode cX6_heading 201 = .ok (.ifCond .le 7, 3) := by decide +kernel
theorem dX6_heading_204 : decode cX6_heading 204 = .ok (.iconst 0, 1) := by decide +kernel
theorem dX6_heading_205 : decode cX6_heading 205 = .ok (.goto 4, 3) := by decide +kernel
theorem dX6_heading_208 : decode cX6_heading 208 = .ok (.iconst 1, 1) := by decide +kernel
theorem dX6_heading_209 : decode cX6_heading 209 = .ok (.ireturn, 1) := by decide +kernel
theorem dX6_heading_210 : decode cX6_heading 210 = .ok (.lload 5, 2) := by decide +kernel
theorem dX6_heading_212 : decode cX6_heading 212 = .ok (.lconst 0, 1) := by decide +kernel
theorem dX6_heading_213 : decode cX6_heading 213 = .ok (.lcmp, 1) := by decide +kernel
theorem dX6_heading_214 : decode cX6_heading 214 = .ok (.ifCond .gt 25, 3) := by decide +kernel
theorem dX6_heading_217 : decode cX6_heading 217 = .ok (.lload 7, 2) := by decide +kernel
theorem dX6_heading_219 : decode cX6_heading 219 = .ok (.lconst 0, 1) := by decide +kernel
theorem dX6_heading_220 : decode cX6_heading 220 = .ok (.lcmp, 1) := by decide +kernel
theorem dX6_heading_221 : decode cX6_heading 221 = .ok (.ifCond .le 18, 3) := by decide +kernel
theorem dX6_heading_224 : decode cX6_heading 224 = .ok (.lload 7, 2) := by decide +kernel
theorem dX6_heading_226 : decode cX6_heading 226 = .ok (.lload 5, 2) := by decide +kernel
theorem dX6_heading_228 : decode cX6_heading 228 = .ok (.lneg, 1) := by decide +kernel
theorem dX6_heading_229 : decode cX6_heading 229 = .ok (.lcmp, 1) := by decide +kernel
theorem dX6_heading_230 : decode cX6_heading 230 = .ok (.ifCond .le 7, 3) := by decide +kernel
theorem dX6_heading_233 : decode cX6_heading 233 = .ok (.iconst 2, 1) := by decide +kernel
theorem dX6_heading_234 : decode cX6_heading 234 = .ok (.goto 4, 3) := by decide +kernel
theorem dX6_heading_237 : decode cX6_heading 237 = .ok (.iconst 3, 1) := by decide +kernel
theorem dX6_heading_238 : decode cX6_heading 238 = .ok (.ireturn, 1) := by decide +kernel
theorem dX6_heading_239 : decode cX6_heading 239 = .ok (.lload 7, 2) := by decide +kernel
theorem dX6_heading_241 : decode cX6_heading 241 = .ok (.lconst 0, 1) := by decide +kernel
theorem dX6_heading_242 : decode cX6_heading 242 = .ok (.lcmp, 1) := by decide +kernel
theorem dX6_heading_243 : decode cX6_heading 243 = .ok (.ifCond .gt 26, 3) := by decide +kernel
theorem dX6_heading_246 : decode cX6_heading 246 = .ok (.lload 5, 2) := by decide +kernel
theorem dX6_heading_248 : decode cX6_heading 248 = .ok (.lconst 0, 1) := by decide +kernel
theorem dX6_heading_249 : decode cX6_heading 249 = .ok (.lcmp, 1) := by decide +kernel
theorem dX6_heading_250 : decode cX6_heading 250 = .ok (.ifCond .ge 19, 3) := by decide +kernel
theorem dX6_heading_253 : decode cX6_heading 253 = .ok (.lload 5, 2) := by decide +kernel
theorem dX6_heading_255 : decode cX6_heading 255 = .ok (.lneg, 1) := by decide +kernel
theorem dX6_heading_256 : decode cX6_heading 256 = .ok (.lload 7, 2) := by decide +kernel
theorem dX6_heading_258 : decode cX6_heading 258 = .ok (.lneg, 1) := by decide +kernel
theorem dX6_heading_259 : decode cX6_heading 259 = .ok (.lcmp, 1) := by decide +kernel
theorem dX6_heading_260 : decode cX6_heading 260 = .ok (.ifCond .le 7, 3) := by decide +kernel
theorem dX6_heading_263 : decode cX6_heading 263 = .ok (.iconst 4, 1) := by decide +kernel
theorem dX6_heading_264 : decode cX6_heading 264 = .ok (.goto 4, 3) := by decide +kernel
theorem dX6_heading_267 : decode cX6_heading 267 = .ok (.iconst 5, 1) := by decide +kernel
theorem dX6_heading_268 : decode cX6_heading 268 = .ok (.ireturn, 1) := by decide +kernel
theorem dX6_heading_269 : decode cX6_heading 269 = .ok (.lload 7, 2) := by decide +kernel
theorem dX6_heading_271 : decode cX6_heading 271 = .ok (.lneg, 1) := by decide +kernel
theorem dX6_heading_272 : decode cX6_heading 272 = .ok (.lload 5, 2) := by decide +kernel
theorem dX6_heading_274 : decode cX6_heading 274 = .ok (.lcmp, 1) := by decide +kernel
theorem dX6_heading_275 : decode cX6_heading 275 = .ok (.ifCond .le 8, 3) := by decide +kernel
theorem dX6_heading_278 : decode cX6_heading 278 = .ok (.bipush 6, 2) := by decide +kernel
theorem dX6_heading_280 : decode cX6_heading 280 = .ok (.goto 5, 3) := by decide +kernel
theorem dX6_heading_283 : decode cX6_heading 283 = .ok (.bipush 7, 2) := by decide +kernel
theorem dX6_heading_285 : decode cX6_heading 285 = .ok (.ireturn, 1) := by decide +kernel
theorem dX6_send_0 : decode cX6_send 0 = .ok (.aload_n 0, 1) := by decide +kernel
theorem dX6_send_1 : decode cX6_send 1 = .ok (.iload_n 1, 1) := by decide +kernel
theorem dX6_send_2 : decode cX6_send 2 = .ok (.invokevirtual 66, 3) := by decide +kernel
theorem dX6_send_5 : decode cX6_send 5 = .ok (.istore_n 2, 1) := by decide +kernel
theorem dX6_send_6 : decode cX6_send 6 = .ok (.iload_n 2, 1) := by decide +kernel
theorem dX6_send_7 : decode cX6_send 7 = .ok (.ifCond .ge 5, 3) := by decide +kernel
theorem dX6_send_10 : decode cX6_send 10 = .ok (.iload_n 2, 1) := by decide +kernel
theorem dX6_send_11 : decode cX6_send 11 = .ok (.ireturn, 1) := by decide +kernel
theorem dX6_send_12 : decode cX6_send 12 = .ok (.aload_n 0, 1) := by decide +kernel
theorem dX6_send_13 : decode cX6_send 13 = .ok (.iconst 1, 1) := by decide +kernel
theorem dX6_send_14 : decode cX6_send 14 = .ok (.putfield 179, 3) := by decide +kernel
theorem dX6_send_17 : decode cX6_send 17 = .ok (.aload_n 0, 1) := by decide +kernel
theorem dX6_send_18 : decode cX6_send 18 = .ok (.getfield 13, 3) := by decide +kernel
theorem dX6_send_21 : decode cX6_send 21 = .ok (.bipush 8, 2) := by decide +kernel
theorem dX6_send_23 : decode cX6_send 23 = .ok (.aload_n 0, 1) := by decide +kernel
theorem dX6_send_24 : decode cX6_send 24 = .ok (.getfield 13, 3) := by decide +kernel
theorem dX6_send_27 : decode cX6_send 27 = .ok (.iload_n 1, 1) := by decide +kernel
theorem dX6_send_28 : decode cX6_send 28 = .ok (.iaload, 1) := by decide +kernel
theorem dX6_send_29 : decode cX6_send 29 = .ok (.iastore, 1) := by decide +kernel
theorem dX6_send_30 : decode cX6_send 30 = .ok (.aload_n 0, 1) := by decide +kernel
theorem dX6_send_31 : decode cX6_send 31 = .ok (.getfield 17, 3) := by decide +kernel
theorem dX6_send_34 : decode cX6_send 34 = .ok (.bipush 8, 2) := by decide +kernel
theorem dX6_send_36 : decode cX6_send 36 = .ok (.aload_n 0, 1) := by decide +kernel
theorem dX6_send_37 : decode cX6_send 37 = .ok (.getfield 17, 3) := by decide +kernel
theorem dX6_send_40 : decode cX6_send 40 = .ok (.iload_n 1, 1) := by decide +kernel
theorem dX6_send_41 : decode cX6_send 41 = .ok (.iaload, 1) := by decide +kernel
theorem dX6_send_42 : decode cX6_send 42 = .ok (.iastore, 1) := by decide +kernel
theorem dX6_send_43 : decode cX6_send 43 = .ok (.iconst 0, 1) := by decide +kernel
theorem dX6_send_44 : decode cX6_send 44 = .ok (.istore_n 3, 1) := by decide +kernel
theorem dX6_send_45 : decode cX6_send 45 = .ok (.iload_n 3, 1) := by decide +kernel
theorem dX6_send_46 : decode cX6_send 46 = .ok (.aload_n 0, 1) := by decide +kernel
theorem dX6_send_47 : decode cX6_send 47 = .ok (.getfield 17, 3) := by decide +kernel
theorem dX6_send_50 : decode cX6_send 50 = .ok (.iload_n 1, 1) := by decide +kernel
theorem dX6_send_51 : decode cX6_send 51 = .ok (.iaload, 1) := by decide +kernel
theorem dX6_send_52 : decode cX6_send 52 = .ok (.if_icmp .ge 51, 3) := by decide +kernel
theorem dX6_send_55 : decode cX6_send 55 = .ok (.aload_n 0, 1) := by decide +kernel
theorem dX6_send_56 : decode cX6_send 56 = .ok (.getfield 20, 3) := by decide +kernel
theorem dX6_send_59 : decode cX6_send 59 = .ok (.sipush 512, 3) := by decide +kernel
theorem dX6_send_62 : decode cX6_send 62 = .ok (.iload_n 3, 1) := by decide +kernel
theorem dX6_send_63 : decode cX6_send 63 = .ok (.iadd, 1) := by decide +kernel
theorem dX6_send_64 : decode cX6_send 64 = .ok (.aload_n 0, 1) := by decide +kernel
theorem dX6_send_65 : decode cX6_send 65 = .ok (.getfield 20, 3) := by decide +kernel
theorem dX6_send_68 : decode cX6_send 68 = .ok (.bipush 64, 2) := by decide +kernel
theorem dX6_send_70 : decode cX6_send 70 = .ok (.iload_n 1, 1) := by decide +kernel
theorem dX6_send_71 : decode cX6_send 71 = .ok (.imul, 1) := by decide +kernel
theorem dX6_send_72 : decode cX6_send 72 = .ok (.iload_n 3, 1) := by decide +kernel
theorem dX6_send_73 : decode cX6_send 73 = .ok (.iadd, 1) := by decide +kernel
theorem dX6_send_74 : decode cX6_send 74 = .ok (.iaload, 1) := by decide +kernel
theorem dX6_send_75 : decode cX6_send 75 = .ok (.iastore, 1) := by decide +kernel
theorem dX6_send_76 : decode cX6_send 76 = .ok (.aload_n 0, 1) := by decide +kernel
theorem dX6_send_77 : decode cX6_send 77 = .ok (.getfield 23, 3) := by decide +kernel
theorem dX6_send_80 : decode cX6_send 80 = .ok (.sipush 512, 3) := by decide +kernel
theorem dX6_send_83 : decode cX6_send 83 = .ok (.iload_n 3, 1) := by decide +kernel
theorem dX6_send_84 : decode cX6_send 84 = .ok (.iadd, 1) := by decide +kernel
theorem dX6_send_85 : decode cX6_send 85 = .ok (.aload_n 0, 1) := by decide +kernel
theorem dX6_send_86 : decode cX6_send 86 = .ok (.getfield 23, 3) := by decide +kernel
theorem dX6_send_89 : decode cX6_send 89 = .ok (.bipush 64, 2) := by decide +kernel
theorem dX6_send_91 : decode cX6_send 91 = .ok (.iload_n 1, 1) := by decide +kernel
theorem dX6_send_92 : decode cX6_send 92 = .ok (.imul, 1) := by decide +kernel
theorem dX6_send_93 : decode cX6_send 93 = .ok (.iload_n 3, 1) := by decide +kernel
theorem dX6_send_94 : decode cX6_send 94 = .ok (.iadd, 1) := by decide +kernel
theorem dX6_send_95 : decode cX6_send 95 = .ok (.iaload, 1) := by decide +kernel
theorem dX6_send_96 : decode cX6_send 96 = .ok (.iastore, 1) := by decide +kernel
theorem dX6_send_97 : decode cX6_send 97 = .ok (.iinc 3 1, 3) := by decide +kernel
theorem dX6_send_100 : decode cX6_send 100 = .ok (.goto (-55), 3) := by decide +kernel
theorem dX6_send_103 : decode cX6_send 103 = .ok (.aload_n 0, 1) := by decide +kernel
theorem dX6_send_104 : decode cX6_send 104 = .ok (.getfield 17, 3) := by decide +kernel
theorem dX6_send_107 : decode cX6_send 107 = .ok (.iload_n 1, 1) := by decide +kernel
theorem dX6_send_108 : decode cX6_send 108 = .ok (.iaload, 1) := by decide +kernel
theorem dX6_send_109 : decode cX6_send 109 = .ok (.bipush 7, 2) := by decide +kernel
theorem dX6_send_111 : decode cX6_send 111 = .ok (.iadd, 1) := by decide +kernel
theorem dX6_send_112 : decode cX6_send 112 = .ok (.bipush 8, 2) := by decide +kernel
theorem dX6_send_114 : decode cX6_send 114 = .ok (.idiv, 1) := by decide +kernel
theorem dX6_send_115 : decode cX6_send 115 = .ok (.istore_n 3, 1) := by decide +kernel
theorem dX6_send_116 : decode cX6_send 116 = .ok (.aload_n 0, 1) := by decide +kernel
theorem dX6_send_117 : decode cX6_send 117 = .ok (.iload_n 3, 1) := by decide +kernel
theorem dX6_send_118 : decode cX6_send 118 = .ok (.iload_n 3, 1) := by decide +kernel
theorem dX6_send_119 : decode cX6_send 119 = .ok (.iconst 3, 1) := by decide +kernel
theorem dX6_send_120 : decode cX6_send 120 = .ok (.iadd, 1) := by decide +kernel
theorem dX6_send_121 : decode cX6_send 121 = .ok (.iconst 4, 1) := by decide +kernel
theorem dX6_send_122 : decode cX6_send 122 = .ok (.idiv, 1) := by decide +kernel
theorem dX6_send_123 : decode cX6_send 123 = .ok (.iadd, 1) := by decide +kernel
theorem dX6_send_124 : decode cX6_send 124 = .ok (.putfield 183, 3) := by decide +kernel
theorem dX6_send_127 : decode cX6_send 127 = .ok (.iconst 0, 1) := by decide +kernel
theorem dX6_send_128 : decode cX6_send 128 = .ok (.istore 4, 2) := by decide +kernel
theorem dX6_send_130 : decode cX6_send 130 = .ok (.iload 4, 2) := by decide +kernel
theorem dX6_send_132 : decode cX6_send 132 = .ok (.aload_n 0, 1) := by decide +kernel
theorem dX6_send_133 : decode cX6_send 133 = .ok (.getfield 183, 3) := by decide +kernel
theorem dX6_send_136 : decode cX6_send 136 = .ok (.if_icmp .ge 17, 3) := by decide +kernel
theorem dX6_send_139 : decode cX6_send 139 = .ok (.aload_n 0, 1) := by decide +kernel
theorem dX6_send_140 : decode cX6_send 140 = .ok (.getfield 36, 3) := by decide +kernel
theorem dX6_send_143 : decode cX6_send 143 = .ok (.iload 4, 2) := by decide +kernel
theorem dX6_send_145 : decode cX6_send 145 = .ok (.iconst 0, 1) := by decide +kernel
theorem dX6_send_146 : decode cX6_send 146 = .ok (.bastore, 1) := by decide +kernel
theorem dX6_send_147 : decode cX6_send 147 = .ok (.iinc 4 1, 3) := by decide +kernel
theorem dX6_send_150 : decode cX6_send 150 = .ok (.goto (-20), 3) := by decide +kernel
theorem dX6_send_153 : decode cX6_send 153 = .ok (.aload_n 0, 1) := by decide +kernel
theorem dX6_send_154 : decode cX6_send 154 = .ok (.getfield 183, 3) := by decide +kernel
theorem dX6_send_157 : decode cX6_send 157 = .ok (.ireturn, 1) := by decide +kernel
theorem dX6_miss_0 : decode cX6_miss 0 = .ok (.aload_n 0, 1) := by decide +kernel
theorem dX6_miss_1 : decode cX6_miss 1 = .ok (.getfield 179, 3) := by decide +kernel
theorem dX6_miss_4 : decode cX6_miss 4 = .ok (.ifCond .eq 19, 3) := by decide +kernel
theorem dX6_miss_7 : decode cX6_miss 7 = .ok (.iload_n 1, 1) := by decide +kernel
theorem dX6_miss_8 : decode cX6_miss 8 = .ok (.i2l, 1) := by decide +kernel
theorem dX6_miss_9 : decode cX6_miss 9 = .ok (.lconst 0, 1) := by decide +kernel
theorem dX6_miss_10 : decode cX6_miss 10 = .ok (.aload_n 0, 1) := by decide +kernel
theorem dX6_miss_11 : decode cX6_miss 11 = .ok (.getfield 183, 3) := by decide +kernel
theorem dX6_miss_14 : decode cX6_miss 14 = .ok (.iconst 1, 1) := by decide +kernel
theorem dX6_miss_15 : decode cX6_miss 15 = .ok (.isub, 1) := by decide +kernel
theorem dX6_miss_16 : decode cX6_miss 16 = .ok (.i2l, 1) := by decide +kernel
theorem dX6_miss_17 : decode cX6_miss 17 = .ok (.invokestatic 60, 3) := by decide +kernel
theorem dX6_miss_20 : decode cX6_miss 20 = .ok (.ifCond .ne 6, 3) := by decide +kernel
theorem dX6_miss_23 : decode cX6_miss 23 = .ok (.bipush (-2), 2) := by decide +kernel
theorem dX6_miss_25 : decode cX6_miss 25 = .ok (.ireturn, 1) := by decide +kernel
theorem dX6_miss_26 : decode cX6_miss 26 = .ok (.aload_n 0, 1) := by decide +kernel
theorem dX6_miss_27 : decode cX6_miss 27 = .ok (.getfield 36, 3) := by decide +kernel
theorem dX6_miss_30 : decode cX6_miss 30 = .ok (.iload_n 1, 1) := by decide +kernel
theorem dX6_miss_31 : decode cX6_miss 31 = .ok (.baload, 1) := by decide +kernel
theorem dX6_miss_32 : decode cX6_miss 32 = .ok (.istore_n 2, 1) := by decide +kernel
theorem dX6_miss_33 : decode cX6_miss 33 = .ok (.aload_n 0, 1) := by decide +kernel
theorem dX6_miss_34 : decode cX6_miss 34 = .ok (.getfield 36, 3) := by decide +kernel
theorem dX6_miss_37 : decode cX6_miss 37 = .ok (.iload_n 1, 1) := by decide +kernel
theorem dX6_miss_38 : decode cX6_miss 38 = .ok (.iconst 1, 1) := by decide +kernel
theorem dX6_miss_39 : decode cX6_miss 39 = .ok (.bastore, 1) := by decide +kernel
theorem dX6_miss_40 : decode cX6_miss 40 = .ok (.iload_n 2, 1) := by decide +kernel
theorem dX6_miss_41 : decode cX6_miss 41 = .ok (.ifCond .eq 7, 3) := by decide +kernel
theorem dX6_miss_44 : decode cX6_miss 44 = .ok (.iconst 0, 1) := by decide +kernel
theorem dX6_miss_45 : decode cX6_miss 45 = .ok (.goto 4, 3) := by decide +kernel
theorem dX6_miss_48 : decode cX6_miss 48 = .ok (.iconst 1, 1) := by decide +kernel
theorem dX6_miss_49 : decode cX6_miss 49 = .ok (.ireturn, 1) := by decide +kernel
theorem dX6_comes_0 : decode cX6_comes 0 = .ok (.aload_n 0, 1) := by decide +kernel
theorem dX6_comes_1 : decode cX6_comes 1 = .ok (.getfield 36, 3) := by decide +kernel
theorem dX6_comes_4 : decode cX6_comes 4 = .ok (.iload_n 1, 1) := by decide +kernel
theorem dX6_comes_5 : decode cX6_comes 5 = .ok (.baload, 1) := by decide +kernel
theorem dX6_comes_6 : decode cX6_comes 6 = .ok (.ifCond .ne 5, 3) := by decide +kernel
theorem dX6_comes_9 : decode cX6_comes 9 = .ok (.iconst 1, 1) := by decide +kernel
theorem dX6_comes_10 : decode cX6_comes 10 = .ok (.ireturn, 1) := by decide +kernel
theorem dX6_comes_11 : decode cX6_comes 11 = .ok (.aload_n 0, 1) := by decide +kernel
theorem dX6_comes_12 : decode cX6_comes 12 = .ok (.getfield 17, 3) := by decide +kernel
theorem dX6_comes_15 : decode cX6_comes 15 = .ok (.bipush 8, 2) := by decide +kernel
theorem dX6_comes_17 : decode cX6_comes 17 = .ok (.iaload, 1) := by decide +kernel
theorem dX6_comes_18 : decode cX6_comes 18 = .ok (.bipush 7, 2) := by decide +kernel
theorem dX6_comes_20 : decode cX6_comes 20 = .ok (.iadd, 1) := by decide +kernel
theorem dX6_comes_21 : decode cX6_comes 21 = .ok (.bipush 8, 2) := by decide +kernel
theorem dX6_comes_23 : decode cX6_comes 23 = .ok (.idiv, 1) := by decide +kernel
theorem dX6_comes_24 : decode cX6_comes 24 = .ok (.istore_n 2, 1) := by decide +kernel
theorem dX6_comes_25 : decode cX6_comes 25 = .ok (.iconst 0, 1) := by decide +kernel
theorem dX6_comes_26 : decode cX6_comes 26 = .ok (.istore_n 3, 1) := by decide +kernel
theorem dX6_comes_27 : decode cX6_comes 27 = .ok (.iload_n 1, 1) := by decide +kernel
theorem dX6_comes_28 : decode cX6_comes 28 = .ok (.iconst 4, 1) := by decide +kernel
theorem dX6_comes_29 : decode cX6_comes 29 = .ok (.idiv, 1) := by decide +kernel
theorem dX6_comes_30 : decode cX6_comes 30 = .ok (.iconst 4, 1) := by decide +kernel
theorem dX6_comes_31 : decode cX6_comes 31 = .ok (.imul, 1) := by decide +kernel
theorem dX6_comes_32 : decode cX6_comes 32 = .ok (.istore 4, 2) := by decide +kernel
theorem dX6_comes_34 : decode cX6_comes 34 = .ok (.iload 4, 2) := by decide +kernel
theorem dX6_comes_36 : decode cX6_comes 36 = .ok (.iload_n 1, 1) := by decide +kernel
theorem dX6_comes_37 : decode cX6_comes 37 = .ok (.iconst 4, 1) := by decide +kernel
theorem dX6_comes_38 : decode cX6_comes 38 = .ok (.idiv, 1) := by decide +kernel
theorem dX6_comes_39 : decode cX6_comes 39 = .ok (.iconst 4, 1) := by decide +kernel
theorem dX6_comes_40 : decode cX6_comes 40 = .ok (.imul, 1) := by decide +kernel
theorem dX6_comes_41 : decode cX6_comes 41 = .ok (.iconst 4, 1) := by decide +kernel
theorem dX6_comes_42 : decode cX6_comes 42 = .ok (.iadd, 1) := by decide +kernel
theorem dX6_comes_43 : decode cX6_comes 43 = .ok (.if_icmp .ge 33, 3) := by decide +kernel
theorem dX6_comes_46 : decode cX6_comes 46 = .ok (.iload 4, 2) := by decide +kernel
theorem dX6_comes_48 : decode cX6_comes 48 = .ok (.iload_n 2, 1) := by decide +kernel
theorem dX6_comes_49 : decode cX6_comes 49 = .ok (.if_icmp .ge 27, 3) := by decide +kernel
theorem dX6_comes_52 : decode cX6_comes 52 = .ok (.iload_n 3, 1) := by decide +kernel
theorem dX6_comes_53 : decode cX6_comes 53 = .ok (.aload_n 0, 1) := by decide +kernel
theorem dX6_comes_54 : decode cX6_comes 54 = .ok (.getfield 36, 3) := by decide +kernel
theorem dX6_comes_57 : decode cX6_comes 57 = .ok (.iload 4, 2) := by decide +kernel
theorem dX6_comes_59 : decode cX6_comes 59 = .ok (.baload, 1) := by decide +kernel
theorem dX6_comes_60 : decode cX6_comes 60 = .ok (.ifCond .eq 7, 3) := by decide +kernel
theorem dX6_comes_63 : decode cX6_comes 63 = .ok (.iconst 1, 1) := by decide +kernel
theorem dX6_comes_64 : decode cX6_comes 64 = .ok (.goto 4, 3) := by decide +kernel
theorem dX6_comes_67 : decode cX6_comes 67 = .ok (.iconst 0, 1) := by decide +kernel
theorem dX6_comes_68 : decode cX6_comes 68 = .ok (.iadd, 1) := by decide +kernel
theorem dX6_comes_69 : decode cX6_comes 69 = .ok (.istore_n 3, 1) := by decide +kernel
theorem dX6_comes_70 : decode cX6_comes 70 = .ok (.iinc 4 1, 3) := by decide +kernel
theorem dX6_comes_73 : decode cX6_comes 73 = .ok (.goto (-39), 3) := by decide +kernel
theorem dX6_comes_76 : decode cX6_comes 76 = .ok (.iload_n 3, 1) := by decide +kernel
theorem dX6_comes_77 : decode cX6_comes 77 = .ok (.iconst 1, 1) := by decide +kernel
theorem dX6_comes_78 : decode cX6_comes 78 = .ok (.if_icmp .ne 20, 3) := by decide +kernel
theorem dX6_comes_81 : decode cX6_comes 81 = .ok (.aload_n 0, 1) := by decide +kernel
theorem dX6_comes_82 : decode cX6_comes 82 = .ok (.getfield 36, 3) := by decide +kernel
theorem dX6_comes_85 : decode cX6_comes 85 = .ok (.iload_n 2, 1) := by decide +kernel
theorem dX6_comes_86 : decode cX6_comes 86 = .ok (.iload_n 1, 1) := by decide +kernel
theorem dX6_comes_87 : decode cX6_comes 87 = .ok (.iconst 4, 1) := by decide +kernel
theorem dX6_comes_88 : decode cX6_comes 88 = .ok (.idiv, 1) := by decide +kernel
theorem dX6_comes_89 : decode cX6_comes 89 = .ok (.iadd, 1) := by decide +kernel
theorem dX6_comes_90 : decode cX6_comes 90 = .ok (.baload, 1) := by decide +kernel
theorem dX6_comes_91 : decode cX6_comes 91 = .ok (.ifCond .ne 7, 3) := by decide +kernel
theorem dX6_comes_94 : decode cX6_comes 94 = .ok (.iconst 1, 1) := by decide +kernel
theorem dX6_comes_95 : decode cX6_comes 95 = .ok (.goto 4, 3) := by decide +kernel
theorem dX6_comes_98 : decode cX6_comes 98 = .ok (.iconst 0, 1) := by decide +kernel
theorem dX6_comes_99 : decode cX6_comes 99 = .ok (.ireturn, 1) := by decide +kernel
theorem dX6_receive_0 : decode cX6_receive 0 = .ok (.iload_n 1, 1) := by decide +kernel
theorem dX6_receive_1 : decode cX6_receive 1 = .ok (.i2l, 1) := by decide +kernel
theorem dX6_receive_2 : decode cX6_receive 2 = .ok (.lconst 0, 1) := by decide +kernel
theorem dX6_receive_3 : decode cX6_receive 3 = .ok (.ldc2_w 58, 3) := by decide +kernel
theorem dX6_receive_6 : decode cX6_receive 6 = .ok (.invokestatic 60, 3) := by decide +kernel
theorem dX6_receive_9 : decode cX6_receive 9 = .ok (.ifCond .ne 6, 3) := by decide +kernel
theorem dX6_receive_12 : decode cX6_receive 12 = .ok (.bipush (-2), 2) := by decide +kernel
theorem dX6_receive_14 : decode cX6_receive 14 = .ok (.ireturn, 1) := by decide +kernel
theorem dX6_receive_15 : decode cX6_receive 15 = .ok (.aload_n 0, 1) := by decide +kernel
theorem dX6_receive_16 : decode cX6_receive 16 = .ok (.getfield 179, 3) := by decide +kernel
theorem dX6_receive_19 : decode cX6_receive 19 = .ok (.ifCond .ne 6, 3) := by decide +kernel
theorem dX6_receive_22 : decode cX6_receive 22 = .ok (.bipush (-3), 2) := by decide +kernel
theorem dX6_receive_24 : decode cX6_receive 24 = .ok (.ireturn, 1) := by decide +kernel
theorem dX6_receive_25 : decode cX6_receive 25 = .ok (.aload_n 0, 1) := by decide +kernel
theorem dX6_receive_26 : decode cX6_receive 26 = .ok (.getfield 7, 3) := by decide +kernel
theorem dX6_receive_29 : decode cX6_receive 29 = .ok (.iload_n 1, 1) := by decide +kernel
theorem dX6_receive_30 : decode cX6_receive 30 = .ok (.iconst 1, 1) := by decide +kernel
theorem dX6_receive_31 : decode cX6_receive 31 = .ok (.bastore, 1) := by decide +kernel
theorem dX6_receive_32 : decode cX6_receive 32 = .ok (.aload_n 0, 1) := by decide +kernel
theorem dX6_receive_33 : decode cX6_receive 33 = .ok (.getfield 13, 3) := by decide +kernel
theorem dX6_receive_36 : decode cX6_receive 36 = .ok (.iload_n 1, 1) := by decide +kernel
theorem dX6_receive_37 : decode cX6_receive 37 = .ok (.aload_n 0, 1) := by decide +kernel
theorem dX6_receive_38 : decode cX6_receive 38 = .ok (.getfield 13, 3) := by decide +kernel
theorem dX6_receive_41 : decode cX6_receive 41 = .ok (.bipush 8, 2) := by decide +kernel
theorem dX6_receive_43 : decode cX6_receive 43 = .ok (.iaload, 1) := by decide +kernel
theorem dX6_receive_44 : decode cX6_receive 44 = .ok (.iastore, 1) := by decide +kernel
theorem dX6_receive_45 : decode cX6_receive 45 = .ok (.aload_n 0, 1) := by decide +kernel
theorem dX6_receive_46 : decode cX6_receive 46 = .ok (.getfield 17, 3) := by decide +kernel
theorem dX6_receive_49 : decode cX6_receive 49 = .ok (.iload_n 1, 1) := by decide +kernel
theorem dX6_receive_50 : decode cX6_receive 50 = .ok (.aload_n 0, 1) := by decide +kernel
theorem dX6_receive_51 : decode cX6_receive 51 = .ok (.getfield 17, 3) := by decide +kernel
theorem dX6_receive_54 : decode cX6_receive 54 = .ok (.bipush 8, 2) := by decide +kernel
theorem dX6_receive_56 : decode cX6_receive 56 = .ok (.iaload, 1) := by decide +kernel
theorem dX6_receive_57 : decode cX6_receive 57 = .ok (.iastore, 1) := by decide +kernel
theorem dX6_receive_58 : decode cX6_receive 58 = .ok (.iconst 0, 1) := by decide +kernel
theorem dX6_receive_59 : decode cX6_receive 59 = .ok (.istore_n 2, 1) := by decide +kernel
theorem dX6_receive_60 : decode cX6_receive 60 = .ok (.iconst 0, 1) := by decide +kernel
theorem dX6_receive_61 : decode cX6_receive 61 = .ok (.istore_n 3, 1) := by decide +kernel
theorem dX6_receive_62 : decode cX6_receive 62 = .ok (.iload_n 3, 1) := by decide +kernel
theorem dX6_receive_63 : decode cX6_receive 63 = .ok (.aload_n 0, 1) := by decide +kernel
theorem dX6_receive_64 : decode cX6_receive 64 = .ok (.getfield 17, 3) := by decide +kernel
theorem dX6_receive_67 : decode cX6_receive 67 = .ok (.bipush 8, 2) := by decide +kernel
theorem dX6_receive_69 : decode cX6_receive 69 = .ok (.iaload, 1) := by decide +kernel
theorem dX6_receive_70 : decode cX6_receive 70 = .ok (.if_icmp .ge 101, 3) := by decide +kernel
theorem dX6_receive_73 : decode cX6_receive 73 = .ok (.aload_n 0, 1) := by decide +kernel
theorem dX6_receive_74 : decode cX6_receive 74 = .ok (.iload_n 3, 1) := by decide +kernel
theorem dX6_receive_75 : decode cX6_receive 75 = .ok (.bipush 8, 2) := by decide +kernel
theorem dX6_receive_77 : decode cX6_receive 77 = .ok (.idiv, 1) := by decide +kernel
theorem dX6_receive_78 : decode cX6_receive 78 = .ok (.invokevirtual 186, 3) := by decide +kernel
theorem dX6_receive_81 : decode cX6_receive 81 = .ok (.istore 4, 2) := by decide +kernel
theorem dX6_receive_83 : decode cX6_receive 83 = .ok (.aload_n 0, 1) := by decide +kernel
theorem dX6_receive_84 : decode cX6_receive 84 = .ok (.getfield 20, 3) := by decide +kernel
theorem dX6_receive_87 : decode cX6_receive 87 = .ok (.bipush 64, 2) := by decide +kernel
theorem dX6_receive_89 : decode cX6_receive 89 = .ok (.iload_n 1, 1) := by decide +kernel
theorem dX6_receive_90 : decode cX6_receive 90 = .ok (.imul, 1) := by decide +kernel
theorem dX6_receive_91 : decode cX6_receive 91 = .ok (.iload_n 3, 1) := by decide +kernel
theorem dX6_receive_92 : decode cX6_receive 92 = .ok (.iadd, 1) := by decide +kernel
theorem dX6_receive_93 : decode cX6_receive 93 = .ok (.iload 4, 2) := by decide +kernel
theorem dX6_receive_95 : decode cX6_receive 95 = .ok (.ifCond .eq 16, 3) := by decide +kernel
theorem dX6_receive_98 : decode cX6_receive 98 = .ok (.aload_n 0, 1) := by decide +kernel
theorem dX6_receive_99 : decode cX6_receive 99 = .ok (.getfield 20, 3) := by decide +kernel
theorem dX6_receive_102 : decode cX6_receive 102 = .ok (.sipush 512, 3) := by decide +kernel
theorem dX6_receive_105 : decode cX6_receive 105 = .ok (.iload_n 3, 1) := by decide +kernel
theorem dX6_receive_106 : decode cX6_receive 106 = .ok (.iadd, 1) := by decide +kernel
theorem dX6_receive_107 : decode cX6_receive 107 = .ok (.iaload, 1) := by decide +kernel
theorem dX6_receive_108 : decode cX6_receive 108 = .ok (.goto 4, 3) := by decide +kernel
theorem dX6_receive_111 : decode cX6_receive 111 = .ok (.iconst 0, 1) := by decide +kernel
theorem dX6_receive_112 : decode cX6_receive 112 = .ok (.iastore, 1) := by decide +kernel
theorem dX6_receive_113 : decode cX6_receive 113 = .ok (.aload_n 0, 1) := by decide +kernel
theorem dX6_receive_114 : decode cX6_receive 114 = .ok (.getfield 23, 3) := by decide +kernel
theorem dX6_receive_117 : decode cX6_receive 117 = .ok (.bipush 64, 2) := by decide +kernel
theorem dX6_receive_119 : decode cX6_receive 119 = .ok (.iload_n 1, 1) := by decide +kernel
theorem dX6_receive_120 : decode cX6_receive 120 = .ok (.imul, 1) := by decide +kernel
theorem dX6_receive_121 : decode cX6_receive 121 = .ok (.iload_n 3, 1) := by decide +kernel
theorem dX6_receive_122 : decode cX6_receive 122 = .ok (.iadd, 1) := by decide +kernel
theorem dX6_receive_123 : decode cX6_receive 123 = .ok (.iload 4, 2) := by decide +kernel
theorem dX6_receive_125 : decode cX6_receive 125 = .ok (.ifCond .eq 16, 3) := by decide +kernel
theorem dX6_receive_128 : decode cX6_receive 128 = .ok (.aload_n 0, 1) := by decide +kernel
theorem dX6_receive_129 : decode cX6_receive 129 = .ok (.getfield 23, 3) := by decide +kernel
theorem dX6_receive_132 : decode cX6_receive 132 = .ok (.sipush 512, 3) := by decide +kernel
theorem dX6_receive_135 : decode cX6_receive 135 = .ok (.iload_n 3, 1) := by decide +kernel
theorem dX6_receive_136 : decode cX6_receive 136 = .ok (.iadd, 1) := by decide +kernel
theorem dX6_receive_137 : decode cX6_receive 137 = .ok (.iaload, 1) := by decide +kernel
theorem dX6_receive_138 : decode cX6_receive 138 = .ok (.goto 4, 3) := by decide +kernel
theorem dX6_receive_141 : decode cX6_receive 141 = .ok (.iconst 0, 1) := by decide +kernel
theorem dX6_receive_142 : decode cX6_receive 142 = .ok (.iastore, 1) := by decide +kernel
theorem dX6_receive_143 : decode cX6_receive 143 = .ok (.iload_n 2, 1) := by decide +kernel
theorem dX6_receive_144 : decode cX6_receive 144 = .ok (.aload_n 0, 1) := by decide +kernel
theorem dX6_receive_145 : decode cX6_receive 145 = .ok (.getfield 20, 3) := by decide +kernel
theorem dX6_receive_148 : decode cX6_receive 148 = .ok (.bipush 64, 2) := by decide +kernel
theorem dX6_receive_150 : decode cX6_receive 150 = .ok (.iload_n 1, 1) := by decide +kernel
theorem dX6_receive_151 : decode cX6_receive 151 = .ok (.imul, 1) := by decide +kernel
theorem dX6_receive_152 : decode cX6_receive 152 = .ok (.iload_n 3, 1) := by decide +kernel
theorem dX6_receive_153 : decode cX6_receive 153 = .ok (.iadd, 1) := by decide +kernel
theorem dX6_receive_154 : decode cX6_receive 154 = .ok (.iaload, 1) := by decide +kernel
theorem dX6_receive_155 : decode cX6_receive 155 = .ok (.ifCond .ne 7, 3) := by decide +kernel
theorem dX6_receive_158 : decode cX6_receive 158 = .ok (.iconst 1, 1) := by decide +kernel
theorem dX6_receive_159 : decode cX6_receive 159 = .ok (.goto 4, 3) := by decide +kernel
theorem dX6_receive_162 : decode cX6_receive 162 = .ok (.iconst 0, 1) := by decide +kernel
theorem dX6_receive_163 : decode cX6_receive 163 = .ok (.iadd, 1) := by decide +kernel
theorem dX6_receive_164 : decode cX6_receive 164 = .ok (.istore_n 2, 1) := by decide +kernel
theorem dX6_receive_165 : decode cX6_receive 165 = .ok (.iinc 3 1, 3) := by decide +kernel
theorem dX6_receive_168 : decode cX6_receive 168 = .ok (.goto (-106), 3) := by decide +kernel
theorem dX6_receive_171 : decode cX6_receive 171 = .ok (.iload_n 2, 1) := by decide +kernel
theorem dX6_receive_172 : decode cX6_receive 172 = .ok (.ireturn, 1) := by decide +kernel
theorem dX6_rule_0 : decode cX6_rule 0 = .ok (.iload_n 1, 1) := by decide +kernel
theorem dX6_rule_1 : decode cX6_rule 1 = .ok (.iload_n 2, 1) := by decide +kernel
theorem dX6_rule_2 : decode cX6_rule 2 = .ok (.if_icmp .le 15, 3) := by decide +kernel
theorem dX6_rule_5 : decode cX6_rule 5 = .ok (.iload_n 3, 1) := by decide +kernel
theorem dX6_rule_6 : decode cX6_rule 6 = .ok (.i2l, 1) := by decide +kernel
theorem dX6_rule_7 : decode cX6_rule 7 = .ok (.lconst 0, 1) := by decide +kernel
theorem dX6_rule_8 : decode cX6_rule 8 = .ok (.ldc2_w 133, 3) := by decide +kernel
theorem dX6_rule_11 : decode cX6_rule 11 = .ok (.invokestatic 60, 3) := by decide +kernel
theorem dX6_rule_14 : decode cX6_rule 14 = .ok (.ifCond .ne 6, 3) := by decide +kernel
theorem dX6_rule_17 : decode cX6_rule 17 = .ok (.bipush (-2), 2) := by decide +kernel
theorem dX6_rule_19 : decode cX6_rule 19 = .ok (.ireturn, 1) := by decide +kernel
theorem dX6_rule_20 : decode cX6_rule 20 = .ok (.aload_n 0, 1) := by decide +kernel
theorem dX6_rule_21 : decode cX6_rule 21 = .ok (.iload_n 1, 1) := by decide +kernel
theorem dX6_rule_22 : decode cX6_rule 22 = .ok (.putfield 39, 3) := by decide +kernel
theorem dX6_rule_25 : decode cX6_rule 25 = .ok (.aload_n 0, 1) := by decide +kernel
theorem dX6_rule_26 : decode cX6_rule 26 = .ok (.iload_n 2, 1) := by decide +kernel
theorem dX6_rule_27 : decode cX6_rule 27 = .ok (.putfield 43, 3) := by decide +kernel
theorem dX6_rule_30 : decode cX6_rule 30 = .ok (.aload_n 0, 1) := by decide +kernel
theorem dX6_rule_31 : decode cX6_rule 31 = .ok (.iload_n 3, 1) := by decide +kernel
theorem dX6_rule_32 : decode cX6_rule 32 = .ok (.putfield 189, 3) := by decide +kernel
theorem dX6_rule_35 : decode cX6_rule 35 = .ok (.aload_n 0, 1) := by decide +kernel
theorem dX6_rule_36 : decode cX6_rule 36 = .ok (.iconst 0, 1) := by decide +kernel
theorem dX6_rule_37 : decode cX6_rule 37 = .ok (.putfield 192, 3) := by decide +kernel
theorem dX6_rule_40 : decode cX6_rule 40 = .ok (.aload_n 0, 1) := by decide +kernel
theorem dX6_rule_41 : decode cX6_rule 41 = .ok (.iconst 0, 1) := by decide +kernel
theorem dX6_rule_42 : decode cX6_rule 42 = .ok (.putfield 195, 3) := by decide +kernel
theorem dX6_rule_45 : decode cX6_rule 45 = .ok (.aload_n 0, 1) := by decide +kernel
theorem dX6_rule_46 : decode cX6_rule 46 = .ok (.iconst 0, 1) := by decide +kernel
theorem dX6_rule_47 : decode cX6_rule 47 = .ok (.putfield 198, 3) := by decide +kernel
theorem dX6_rule_50 : decode cX6_rule 50 = .ok (.aload_n 0, 1) := by decide +kernel
theorem dX6_rule_51 : decode cX6_rule 51 = .ok (.iconst 0, 1) := by decide +kernel
theorem dX6_rule_52 : decode cX6_rule 52 = .ok (.putfield 201, 3) := by decide +kernel
theorem dX6_rule_55 : decode cX6_rule 55 = .ok (.iconst 1, 1) := by decide +kernel
theorem dX6_rule_56 : decode cX6_rule 56 = .ok (.ireturn, 1) := by decide +kernel
theorem dX6_hear_0 : decode cX6_hear 0 = .ok (.aload_n 0, 1) := by decide +kernel
theorem dX6_hear_1 : decode cX6_hear 1 = .ok (.dup, 1) := by decide +kernel
theorem dX6_hear_2 : decode cX6_hear 2 = .ok (.getfield 192, 3) := by decide +kernel
theorem dX6_hear_5 : decode cX6_hear 5 = .ok (.iconst 1, 1) := by decide +kernel
theorem dX6_hear_6 : decode cX6_hear 6 = .ok (.iadd, 1) := by decide +kernel
theorem dX6_hear_7 : decode cX6_hear 7 = .ok (.putfield 192, 3) := by decide +kernel
theorem dX6_hear_10 : decode cX6_hear 10 = .ok (.iload_n 1, 1) := by decide +kernel
theorem dX6_hear_11 : decode cX6_hear 11 = .ok (.aload_n 0, 1) := by decide +kernel
theorem dX6_hear_12 : decode cX6_hear 12 = .ok (.getfield 39, 3) := by decide +kernel
theorem dX6_hear_15 : decode cX6_hear 15 = .ok (.if_icmp .lt 7, 3) := by decide +kernel
theorem dX6_hear_18 : decode cX6_hear 18 = .ok (.iconst 1, 1) := by decide +kernel
theorem dX6_hear_19 : decode cX6_hear 19 = .ok (.goto 19, 3) := by decide +kernel
theorem dX6_hear_22 : decode cX6_hear 22 = .ok (.iload_n 1, 1) := by decide +kernel
theorem dX6_hear_23 : decode cX6_hear 23 = .ok (.aload_n 0, 1) := by decide +kernel
theorem dX6_hear_24 : decode cX6_hear 24 = .ok (.getfield 43, 3) := by decide +kernel
theorem dX6_hear_27 : decode cX6_hear 27 = .ok (.if_icmp .gt 7, 3) := by decide +kernel
theorem dX6_hear_30 : decode cX6_hear 30 = .ok (.iconst 0, 1) := by decide +kernel
theorem dX6_hear_31 : decode cX6_hear 31 = .ok (.goto 7, 3) := by decide +kernel
theorem dX6_hear_34 : decode cX6_hear 34 = .ok (.aload_n 0, 1) := by decide +kernel
theorem dX6_hear_35 : decode cX6_hear 35 = .ok (.getfield 201, 3) := by decide +kernel
theorem dX6_hear_38 : decode cX6_hear 38 = .ok (.istore_n 2, 1) := by decide +kernel
theorem dX6_hear_39 : decode cX6_hear 39 = .ok (.aload_n 0, 1) := by decide +kernel
theorem dX6_hear_40 : decode cX6_hear 40 = .ok (.getfield 198, 3) := by decide +kernel
theorem dX6_hear_43 : decode cX6_hear 43 = .ok (.ifCond .le 23, 3) := by decide +kernel
theorem dX6_hear_46 : decode cX6_hear 46 = .ok (.aload_n 0, 1) := by decide +kernel
theorem dX6_hear_47 : decode cX6_hear 47 = .ok (.getfield 192, 3) := by decide +kernel
theorem dX6_hear_50 : decode cX6_hear 50 = .ok (.aload_n 0, 1) := by decide +kernel
theorem dX6_hear_51 : decode cX6_hear 51 = .ok (.getfield 198, 3) := by decide +kernel
theorem dX6_hear_54 : decode cX6_hear 54 = .ok (.isub, 1) := by decide +kernel
theorem dX6_hear_55 : decode cX6_hear 55 = .ok (.aload_n 0, 1) := by decide +kernel
theorem dX6_hear_56 : decode cX6_hear 56 = .ok (.getfield 189, 3) := by decide +kernel
theorem dX6_hear_59 : decode cX6_hear 59 = .ok (.if_icmp .gt 7, 3) := by decide +kernel
theorem dX6_hear_62 : decode cX6_hear 62 = .ok (.iconst 1, 1) := by decide +kernel
theorem dX6_hear_63 : decode cX6_hear 63 = .ok (.goto 4, 3) := by decide +kernel
theorem dX6_hear_66 : decode cX6_hear 66 = .ok (.iconst 0, 1) := by decide +kernel
theorem dX6_hear_67 : decode cX6_hear 67 = .ok (.istore_n 3, 1) := by decide +kernel
theorem dX6_hear_68 : decode cX6_hear 68 = .ok (.iload_n 2, 1) := by decide +kernel
theorem dX6_hear_69 : decode cX6_hear 69 = .ok (.aload_n 0, 1) := by decide +kernel
theorem dX6_hear_70 : decode cX6_hear 70 = .ok (.getfield 201, 3) := by decide +kernel
theorem dX6_hear_73 : decode cX6_hear 73 = .ok (.if_icmp .eq 30, 3) := by decide +kernel
theorem dX6_hear_76 : decode cX6_hear 76 = .ok (.iload_n 3, 1) := by decide +kernel
theorem dX6_hear_77 : decode cX6_hear 77 = .ok (.ifCond .ne 26, 3) := by decide +kernel
theorem dX6_hear_80 : decode cX6_hear 80 = .ok (.aload_n 0, 1) := by decide +kernel
theorem dX6_hear_81 : decode cX6_hear 81 = .ok (.iload_n 2, 1) := by decide +kernel
theorem dX6_hear_82 : decode cX6_hear 82 = .ok (.putfield 201, 3) := by decide +kernel
theorem dX6_hear_85 : decode cX6_hear 85 = .ok (.aload_n 0, 1) := by decide +kernel
theorem dX6_hear_86 : decode cX6_hear 86 = .ok (.aload_n 0, 1) := by decide +kernel
theorem dX6_hear_87 : decode cX6_hear 87 = .ok (.getfield 192, 3) := by decide +kernel
theorem dX6_hear_90 : decode cX6_hear 90 = .ok (.putfield 198, 3) := by decide +kernel
theorem dX6_hear_93 : decode cX6_hear 93 = .ok (.aload_n 0, 1) := by decide +kernel
theorem dX6_hear_94 : decode cX6_hear 94 = .ok (.dup, 1) := by decide +kernel
theorem dX6_hear_95 : decode cX6_hear 95 = .ok (.getfield 195, 3) := by decide +kernel
theorem dX6_hear_98 : decode cX6_hear 98 = .ok (.iconst 1, 1) := by decide +kernel
theorem dX6_hear_99 : decode cX6_hear 99 = .ok (.iadd, 1) := by decide +kernel
theorem dX6_hear_100 : decode cX6_hear 100 = .ok (.putfield 195, 3) := by decide +kernel
theorem dX6_hear_103 : decode cX6_hear 103 = .ok (.aload_n 0, 1) := by decide +kernel
theorem dX6_hear_104 : decode cX6_hear 104 = .ok (.getfield 201, 3) := by decide +kernel
theorem dX6_hear_107 : decode cX6_hear 107 = .ok (.ireturn, 1) := by decide +kernel
theorem dX6_isPlace_0 : decode cX6_isPlace 0 = .ok (.iload_n 0, 1) := by decide +kernel
theorem dX6_isPlace_1 : decode cX6_isPlace 1 = .ok (.i2l, 1) := by decide +kernel
theorem dX6_isPlace_2 : decode cX6_isPlace 2 = .ok (.ldc2_w 123, 3) := by decide +kernel
theorem dX6_isPlace_5 : decode cX6_isPlace 5 = .ok (.ldc2_w 125, 3) := by decide +kernel
theorem dX6_isPlace_8 : decode cX6_isPlace 8 = .ok (.invokestatic 60, 3) := by decide +kernel
theorem dX6_isPlace_11 : decode cX6_isPlace 11 = .ok (.ifCond .eq 21, 3) := by decide +kernel
theorem dX6_isPlace_14 : decode cX6_isPlace 14 = .ok (.iload_n 1, 1) := by decide +kernel
theorem dX6_isPlace_15 : decode cX6_isPlace 15 = .ok (.i2l, 1) := by decide +kernel
theorem dX6_isPlace_16 : decode cX6_isPlace 16 = .ok (.ldc2_w 123, 3) := by decide +kernel
theorem dX6_isPlace_19 : decode cX6_isPlace 19 = .ok (.ldc2_w 125, 3) := by decide +kernel
theorem dX6_isPlace_22 : decode cX6_isPlace 22 = .ok (.invokestatic 60, 3) := by decide +kernel
theorem dX6_isPlace_25 : decode cX6_isPlace 25 = .ok (.ifCond .eq 7, 3) := by decide +kernel
theorem dX6_isPlace_28 : decode cX6_isPlace 28 = .ok (.iconst 1, 1) := by decide +kernel
theorem dX6_isPlace_29 : decode cX6_isPlace 29 = .ok (.goto 4, 3) := by decide +kernel
theorem dX6_isPlace_32 : decode cX6_isPlace 32 = .ok (.iconst 0, 1) := by decide +kernel
theorem dX6_isPlace_33 : decode cX6_isPlace 33 = .ok (.ireturn, 1) := by decide +kernel
theorem dX6_anchor_0 : decode cX6_anchor 0 = .ok (.iload_n 1, 1) := by decide +kernel
theorem dX6_anchor_1 : decode cX6_anchor 1 = .ok (.iload_n 2, 1) := by decide +kernel
theorem dX6_anchor_2 : decode cX6_anchor 2 = .ok (.invokestatic 204, 3) := by decide +kernel
theorem dX6_anchor_5 : decode cX6_anchor 5 = .ok (.ifCond .eq 28, 3) := by decide +kernel
theorem dX6_anchor_8 : decode cX6_anchor 8 = .ok (.iload_n 3, 1) := by decide +kernel
theorem dX6_anchor_9 : decode cX6_anchor 9 = .ok (.i2l, 1) := by decide +kernel
theorem dX6_anchor_10 : decode cX6_anchor 10 = .ok (.lconst 0, 1) := by decide +kernel
theorem dX6_anchor_11 : decode cX6_anchor 11 = .ok (.ldc2_w 125, 3) := by decide +kernel
theorem dX6_anchor_14 : decode cX6_anchor 14 = .ok (.invokestatic 60, 3) := by decide +kernel
theorem dX6_anchor_17 : decode cX6_anchor 17 = .ok (.ifCond .eq 16, 3) := by decide +kernel
theorem dX6_anchor_20 : decode cX6_anchor 20 = .ok (.iload 4, 2) := by decide +kernel
theorem dX6_anchor_22 : decode cX6_anchor 22 = .ok (.i2l, 1) := by decide +kernel
theorem dX6_anchor_23 : decode cX6_anchor 23 = .ok (.lconst 1, 1) := by decide +kernel
theorem dX6_anchor_24 : decode cX6_anchor 24 = .ok (.ldc2_w 167, 3) := by decide +kernel
theorem dX6_anchor_27 : decode cX6_anchor 27 = .ok (.invokestatic 60, 3) := by decide +kernel
theorem dX6_anchor_30 : decode cX6_anchor 30 = .ok (.ifCond .ne 6, 3) := by decide +kernel
theorem dX6_anchor_33 : decode cX6_anchor 33 = .ok (.bipush (-2), 2) := by decide +kernel
theorem dX6_anchor_35 : decode cX6_anchor 35 = .ok (.ireturn, 1) := by decide +kernel
theorem dX6_anchor_36 : decode cX6_anchor 36 = .ok (.aload_n 0, 1) := by decide +kernel
theorem dX6_anchor_37 : decode cX6_anchor 37 = .ok (.iload_n 1, 1) := by decide +kernel
theorem dX6_anchor_38 : decode cX6_anchor 38 = .ok (.putfield 207, 3) := by decide +kernel
theorem dX6_anchor_41 : decode cX6_anchor 41 = .ok (.aload_n 0, 1) := by decide +kernel
theorem dX6_anchor_42 : decode cX6_anchor 42 = .ok (.iload_n 2, 1) := by decide +kernel
theorem dX6_anchor_43 : decode cX6_anchor 43 = .ok (.putfield 210, 3) := by decide +kernel
theorem dX6_anchor_46 : decode cX6_anchor 46 = .ok (.aload_n 0, 1) := by decide +kernel
theorem dX6_anchor_47 : decode cX6_anchor 47 = .ok (.iload_n 3, 1) := by decide +kernel
theorem dX6_anchor_48 : decode cX6_anchor 48 = .ok (.putfield 213, 3) := by decide +kernel
theorem dX6_anchor_51 : decode cX6_anchor 51 = .ok (.aload_n 0, 1) := by decide +kernel
theorem dX6_anchor_52 : decode cX6_anchor 52 = .ok (.iload 4, 2) := by decide +kernel
theorem dX6_anchor_54 : decode cX6_anchor 54 = .ok (.putfield 46, 3) := by decide +kernel
theorem dX6_anchor_57 : decode cX6_anchor 57 = .ok (.aload_n 0, 1) := by decide +kernel
theorem dX6_anchor_58 : decode cX6_anchor 58 = .ok (.iconst 0, 1) := by decide +kernel
theorem dX6_anchor_59 : decode cX6_anchor 59 = .ok (.putfield 216, 3) := by decide +kernel
theorem dX6_anchor_62 : decode cX6_anchor 62 = .ok (.aload_n 0, 1) := by decide +kernel
theorem dX6_anchor_63 : decode cX6_anchor 63 = .ok (.iconst 0, 1) := by decide +kernel
theorem dX6_anchor_64 : decode cX6_anchor 64 = .ok (.putfield 219, 3) := by decide +kernel
theorem dX6_anchor_67 : decode cX6_anchor 67 = .ok (.iconst 1, 1) := by decide +kernel
theorem dX6_anchor_68 : decode cX6_anchor 68 = .ok (.ireturn, 1) := by decide +kernel
theorem dX6_fix_0 : decode cX6_fix 0 = .ok (.iload_n 1, 1) := by decide +kernel
theorem dX6_fix_1 : decode cX6_fix 1 = .ok (.iload_n 2, 1) := by decide +kernel
theorem dX6_fix_2 : decode cX6_fix 2 = .ok (.invokestatic 204, 3) := by decide +kernel
theorem dX6_fix_5 : decode cX6_fix 5 = .ok (.ifCond .ne 6, 3) := by decide +kernel
theorem dX6_fix_8 : decode cX6_fix 8 = .ok (.bipush (-2), 2) := by decide +kernel
theorem dX6_fix_10 : decode cX6_fix 10 = .ok (.ireturn, 1) := by decide +kernel
theorem dX6_fix_11 : decode cX6_fix 11 = .ok (.aload_n 0, 1) := by decide +kernel
theorem dX6_fix_12 : decode cX6_fix 12 = .ok (.aload_n 0, 1) := by decide +kernel
theorem dX6_fix_13 : decode cX6_fix 13 = .ok (.getfield 216, 3) := by decide +kernel
theorem dX6_fix_16 : decode cX6_fix 16 = .ok (.ifCond .eq 11, 3) := by decide +kernel
theorem dX6_fix_19 : decode cX6_fix 19 = .ok (.iload_n 1, 1) := by decide +kernel
theorem dX6_fix_20 : decode cX6_fix 20 = .ok (.aload_n 0, 1) := by decide +kernel
theorem dX6_fix_21 : decode cX6_fix 21 = .ok (.getfield 222, 3) := by decide +kernel
theorem dX6_fix_24 : decode cX6_fix 24 = .ok (.if_icmp .ge 7, 3) := by decide +kernel
theorem dX6_fix_27 : decode cX6_fix 27 = .ok (.iload_n 1, 1) := by decide +kernel
theorem dX6_fix_28 : decode cX6_fix 28 = .ok (.goto 7, 3) := by decide +kernel
theorem dX6_fix_31 : decode cX6_fix 31 = .ok (.aload_n 0, 1) := by decide +kernel
theorem dX6_fix_32 : decode cX6_fix 32 = .ok (.getfield 222, 3) := by decide +kernel
theorem dX6_fix_35 : decode cX6_fix 35 = .ok (.putfield 222, 3) := by decide +kernel
theorem dX6_fix_38 : decode cX6_fix 38 = .ok (.aload_n 0, 1) := by decide +kernel
theorem dX6_fix_39 : decode cX6_fix 39 = .ok (.aload_n 0, 1) := by decide +kernel
theorem dX6_fix_40 : decode cX6_fix 40 = .ok (.getfield 216, 3) := by decide +kernel
theorem dX6_fix_43 : decode cX6_fix 43 = .ok (.ifCond .eq 11, 3) := by decide +kernel
theorem dX6_fix_46 : decode cX6_fix 46 = .ok (.iload_n 1, 1) := by decide +kernel
theorem dX6_fix_47 : decode cX6_fix 47 = .ok (.aload_n 0, 1) := by decide +kernel
theorem dX6_fix_48 : decode cX6_fix 48 = .ok (.getfield 225, 3) := by decide +kernel
theorem dX6_fix_51 : decode cX6_fix 51 = .ok (.if_icmp .le 7, 3) := by decide +kernel
theorem dX6_fix_54 : decode cX6_fix 54 = .ok (.iload_n 1, 1) := by decide +kernel
theorem dX6_fix_55 : decode cX6_fix 55 = .ok (.goto 7, 3) := by decide +kernel
theorem dX6_fix_58 : decode cX6_fix 58 = .ok (.aload_n 0, 1) := by decide +kernel
theorem dX6_fix_59 : decode cX6_fix 59 = .ok (.getfield 225, 3) := by decide +kernel
theorem dX6_fix_62 : decode cX6_fix 62 = .ok (.putfield 225, 3) := by decide +kernel
theorem dX6_fix_65 : decode cX6_fix 65 = .ok (.aload_n 0, 1) := by decide +kernel
theorem dX6_fix_66 : decode cX6_fix 66 = .ok (.aload_n 0, 1) := by decide +kernel
theorem dX6_fix_67 : decode cX6_fix 67 = .ok (.getfield 216, 3) := by decide +kernel
theorem dX6_fix_70 : decode cX6_fix 70 = .ok (.ifCond .eq 11, 3) := by decide +kernel
theorem dX6_fix_73 : decode cX6_fix 73 = .ok (.iload_n 2, 1) := by decide +kernel
theorem dX6_fix_74 : decode cX6_fix 74 = .ok (.aload_n 0, 1) := by decide +kernel
theorem dX6_fix_75 : decode cX6_fix 75 = .ok (.getfield 228, 3) := by decide +kernel
theorem dX6_fix_78 : decode cX6_fix 78 = .ok (.if_icmp .ge 7, 3) := by decide +kernel
theorem dX6_fix_81 : decode cX6_fix 81 = .ok (.iload_n 2, 1) := by decide +kernel
theorem dX6_fix_82 : decode cX6_fix 82 = .ok (.goto 7, 3) := by decide +kernel
theorem dX6_fix_85 : decode cX6_fix 85 = .ok (.aload_n 0, 1) := by decide +kernel
theorem dX6_fix_86 : decode cX6_fix 86 = .ok (.getfield 228, 3) := by decide +kernel
theorem dX6_fix_89 : decode cX6_fix 89 = .ok (.putfield 228, 3) := by decide +kernel
theorem dX6_fix_92 : decode cX6_fix 92 = .ok (.aload_n 0, 1) := by decide +kernel
theorem dX6_fix_93 : decode cX6_fix 93 = .ok (.aload_n 0, 1) := by decide +kernel
theorem dX6_fix_94 : decode cX6_fix 94 = .ok (.getfield 216, 3) := by decide +kernel
theorem dX6_fix_97 : decode cX6_fix 97 = .ok (.ifCond .eq 11, 3) := by decide +kernel
theorem dX6_fix_100 : decode cX6_fix 100 = .ok (.iload_n 2, 1) := by decide +kernel
theorem dX6_fix_101 : decode cX6_fix 101 = .ok (.aload_n 0, 1) := by decide +kernel
theorem dX6_fix_102 : decode cX6_fix 102 = .ok (.getfield 231, 3) := by decide +kernel
theorem dX6_fix_105 : decode cX6_fix 105 = .ok (.if_icmp .le 7, 3) := by decide +kernel
theorem dX6_fix_108 : decode cX6_fix 108 = .ok (.iload_n 2, 1) := by decide +kernel
theorem dX6_fix_109 : decode cX6_fix 109 = .ok (.goto 7, 3) := by decide +kernel
theorem dX6_fix_112 : decode cX6_fix 112 = .ok (.aload_n 0, 1) := by decide +kernel
theorem dX6_fix_113 : decode cX6_fix 113 = .ok (.getfield 231, 3) := by decide +kernel
theorem dX6_fix_116 : decode cX6_fix 116 = .ok (.putfield 231, 3) := by decide +kernel
theorem dX6_fix_119 : decode cX6_fix 119 = .ok (.aload_n 0, 1) := by decide +kernel
theorem dX6_fix_120 : decode cX6_fix 120 = .ok (.dup, 1) := by decide +kernel
theorem dX6_fix_121 : decode cX6_fix 121 = .ok (.getfield 216, 3) := by decide +kernel
theorem dX6_fix_124 : decode cX6_fix 124 = .ok (.iconst 1, 1) := by decide +kernel
theorem dX6_fix_125 : decode cX6_fix 125 = .ok (.iadd, 1) := by decide +kernel
theorem dX6_fix_126 : decode cX6_fix 126 = .ok (.putfield 216, 3) := by decide +kernel
theorem dX6_fix_129 : decode cX6_fix 129 = .ok (.iload_n 1, 1) := by decide +kernel
theorem dX6_fix_130 : decode cX6_fix 130 = .ok (.aload_n 0, 1) := by decide +kernel
theorem dX6_fix_131 : decode cX6_fix 131 = .ok (.getfield 207, 3) := by decide +kernel
theorem dX6_fix_134 : decode cX6_fix 134 = .ok (.isub, 1) := by decide +kernel
theorem dX6_fix_135 : decode cX6_fix 135 = .ok (.i2l, 1) := by decide +kernel
theorem dX6_fix_136 : decode cX6_fix 136 = .ok (.lstore_n 3, 1) := by decide +kernel
theorem dX6_fix_137 : decode cX6_fix 137 = .ok (.iload_n 2, 1) := by decide +kernel
theorem dX6_fix_138 : decode cX6_fix 138 = .ok (.aload_n 0, 1) := by decide +kernel
theorem dX6_fix_139 : decode cX6_fix 139 = .ok (.getfield 210, 3) := by decide +kernel
theorem dX6_fix_142 : decode cX6_fix 142 = .ok (.isub, 1) := by decide +kernel
theorem dX6_fix_143 : decode cX6_fix 143 = .ok (.i2l, 1) := by decide +kernel
theorem dX6_fix_144 : decode cX6_fix 144 = .ok (.lstore 5, 2) := by decide +kernel
theorem dX6_fix_146 : decode cX6_fix 146 = .ok (.aload_n 0, 1) := by decide +kernel
theorem dX6_fix_147 : decode cX6_fix 147 = .ok (.lload_n 3, 1) := by decide +kernel
theorem dX6_fix_148 : decode cX6_fix 148 = .ok (.lload_n 3, 1) := by decide +kernel
theorem dX6_fix_149 : decode cX6_fix 149 = .ok (.lmul, 1) := by decide +kernel
theorem dX6_fix_150 : decode cX6_fix 150 = .ok (.lload 5, 2) := by decide +kernel
theorem dX6_fix_152 : decode cX6_fix 152 = .ok (.lload 5, 2) := by decide +kernel
theorem dX6_fix_154 : decode cX6_fix 154 = .ok (.lmul, 1) := by decide +kernel
theorem dX6_fix_155 : decode cX6_fix 155 = .ok (.ladd, 1) := by decide +kernel
theorem dX6_fix_156 : decode cX6_fix 156 = .ok (.aload_n 0, 1) := by decide +kernel
theorem dX6_fix_157 : decode cX6_fix 157 = .ok (.getfield 213, 3) := by decide +kernel
theorem dX6_fix_160 : decode cX6_fix 160 = .ok (.i2l, 1) := by decide +kernel
theorem dX6_fix_161 : decode cX6_fix 161 = .ok (.aload_n 0, 1) := by decide +kernel
theorem dX6_fix_162 : decode cX6_fix 162 = .ok (.getfield 213, 3) := by decide +kernel
theorem dX6_fix_165 : decode cX6_fix 165 = .ok (.i2l, 1) := by decide +kernel
theorem dX6_fix_166 : decode cX6_fix 166 = .ok (.lmul, 1) := by decide +kernel
theorem dX6_fix_167 : decode cX6_fix 167 = .ok (.lcmp, 1) := by decide +kernel
theorem dX6_fix_168 : decode cX6_fix 168 = .ok (.ifCond .le 12, 3) := by decide +kernel
theorem dX6_fix_171 : decode cX6_fix 171 = .ok (.aload_n 0, 1) := by decide +kernel
theorem dX6_fix_172 : decode cX6_fix 172 = .ok (.getfield 219, 3) := by decide +kernel
theorem dX6_fix_175 : decode cX6_fix 175 = .ok (.iconst 1, 1) := by decide +kernel
theorem dX6_fix_176 : decode cX6_fix 176 = .ok (.iadd, 1) := by decide +kernel
theorem dX6_fix_177 : decode cX6_fix 177 = .ok (.goto 4, 3) := by decide +kernel
theorem dX6_fix_180 : decode cX6_fix 180 = .ok (.iconst 0, 1) := by decide +kernel
theorem dX6_fix_181 : decode cX6_fix 181 = .ok (.putfield 219, 3) := by decide +kernel
theorem dX6_fix_184 : decode cX6_fix 184 = .ok (.aload_n 0, 1) := by decide +kernel
theorem dX6_fix_185 : decode cX6_fix 185 = .ok (.getfield 219, 3) := by decide +kernel
theorem dX6_fix_188 : decode cX6_fix 188 = .ok (.aload_n 0, 1) := by decide +kernel
theorem dX6_fix_189 : decode cX6_fix 189 = .ok (.getfield 46, 3) := by decide +kernel
theorem dX6_fix_192 : decode cX6_fix 192 = .ok (.if_icmp .lt 7, 3) := by decide +kernel
theorem dX6_fix_195 : decode cX6_fix 195 = .ok (.iconst 2, 1) := by decide +kernel
theorem dX6_fix_196 : decode cX6_fix 196 = .ok (.goto 15, 3) := by decide +kernel
theorem dX6_fix_199 : decode cX6_fix 199 = .ok (.aload_n 0, 1) := by decide +kernel
theorem dX6_fix_200 : decode cX6_fix 200 = .ok (.getfield 219, 3) := by decide +kernel
theorem dX6_fix_203 : decode cX6_fix 203 = .ok (.ifCond .le 7, 3) := by decide +kernel
theorem dX6_fix_206 : decode cX6_fix 206 = .ok (.iconst 1, 1) := by decide +kernel
theorem dX6_fix_207 : decode cX6_fix 207 = .ok (.goto 4, 3) := by decide +kernel
theorem dX6_fix_210 : decode cX6_fix 210 = .ok (.iconst 0, 1) := by decide +kernel
theorem dX6_fix_211 : decode cX6_fix 211 = .ok (.ireturn, 1) := by decide +kernel
theorem dX6_count_0 : decode cX6_count 0 = .ok (.iconst 0, 1) := by decide +kernel
theorem dX6_count_1 : decode cX6_count 1 = .ok (.istore_n 2, 1) := by decide +kernel
theorem dX6_count_2 : decode cX6_count 2 = .ok (.iload_n 1, 1) := by decide +kernel
theorem dX6_count_3 : decode cX6_count 3 = .ok (.tableswitch 193 0 9 #[53, 86, 91, 126, 131, 136, 141, 146, 151, 172], 53) := by decide +kernel
theorem dX6_count_56 : decode cX6_count 56 = .ok (.iconst 0, 1) := by decide +kernel
theorem dX6_count_57 : decode cX6_count 57 = .ok (.istore_n 3, 1) := by decide +kernel
theorem dX6_count_58 : decode cX6_count 58 = .ok (.iload_n 3, 1) := by decide +kernel
theorem dX6_count_59 : decode cX6_count 59 = .ok (.bipush 8, 2) := by decide +kernel
theorem dX6_count_61 : decode cX6_count 61 = .ok (.if_icmp .ge 26, 3) := by decide +kernel
theorem dX6_count_64 : decode cX6_count 64 = .ok (.iload_n 2, 1) := by decide +kernel
theorem dX6_count_65 : decode cX6_count 65 = .ok (.aload_n 0, 1) := by decide +kernel
theorem dX6_count_66 : decode cX6_count 66 = .ok (.getfield 7, 3) := by decide +kernel
theorem dX6_count_69 : decode cX6_count 69 = .ok (.iload_n 3, 1) := by decide +kernel
theorem dX6_count_70 : decode cX6_count 70 = .ok (.baload, 1) := by decide +kernel
theorem dX6_count_71 : decode cX6_count 71 = .ok (.ifCond .eq 7, 3) := by decide +kernel
theorem dX6_count_74 : decode cX6_count 74 = .ok (.iconst 1, 1) := by decide +kernel
theorem dX6_count_75 : decode cX6_count 75 = .ok (.goto 4, 3) := by decide +kernel
theorem dX6_count_78 : decode cX6_count 78 = .ok (.iconst 0, 1) := by decide +kernel
theorem dX6_count_79 : decode cX6_count 79 = .ok (.iadd, 1) := by decide +kernel
theorem dX6_count_80 : decode cX6_count 80 = .ok (.istore_n 2, 1) := by decide +kernel
theorem dX6_count_81 : decode cX6_count 81 = .ok (.iinc 3 1, 3) := by decide +kernel
theorem dX6_count_84 : decode cX6_count 84 = .ok (.goto (-26), 3) := by decide +kernel
theorem dX6_count_87 : decode cX6_count 87 = .ok (.iload_n 2, 1) := by decide +kernel
theorem dX6_count_88 : decode cX6_count 88 = .ok (.ireturn, 1) := by decide +kernel
theorem dX6_count_89 : decode cX6_count 89 = .ok (.aload_n 0, 1) := by decide +kernel
theorem dX6_count_90 : decode cX6_count 90 = .ok (.getfield 183, 3) := by decide +kernel
theorem dX6_count_93 : decode cX6_count 93 = .ok (.ireturn, 1) := by decide +kernel
theorem dX6_count_94 : decode cX6_count 94 = .ok (.iconst 0, 1) := by decide +kernel
theorem dX6_count_95 : decode cX6_count 95 = .ok (.istore_n 3, 1) := by decide +kernel
theorem dX6_count_96 : decode cX6_count 96 = .ok (.iload_n 3, 1) := by decide +kernel
theorem dX6_count_97 : decode cX6_count 97 = .ok (.aload_n 0, 1) := by decide +kernel
theorem dX6_count_98 : decode cX6_count 98 = .ok (.getfield 183, 3) := by decide +kernel
theorem dX6_count_101 : decode cX6_count 101 = .ok (.if_icmp .ge 26, 3) := by decide +kernel
theorem dX6_count_104 : decode cX6_count 104 = .ok (.iload_n 2, 1) := by decide +kernel
theorem dX6_count_105 : decode cX6_count 105 = .ok (.aload_n 0, 1) := by decide +kernel
theorem dX6_count_106 : decode cX6_count 106 = .ok (.getfield 36, 3) := by decide +kernel
theorem dX6_count_109 : decode cX6_count 109 = .ok (.iload_n 3, 1) := by decide +kernel
theorem dX6_count_110 : decode cX6_count 110 = .ok (.baload, 1) := by decide +kernel
theorem dX6_count_111 : decode cX6_count 111 = .ok (.ifCond .eq 7, 3) := by decide +kernel
theorem dX6_count_114 : decode cX6_count 114 = .ok (.iconst 1, 1) := by decide +kernel
theorem dX6_count_115 : decode cX6_count 115 = .ok (.goto 4, 3) := by decide +kernel
theorem dX6_count_118 : decode cX6_count 118 = .ok (.iconst 0, 1) := by decide +kernel
theorem dX6_count_119 : decode cX6_count 119 = .ok (.iadd, 1) := by decide +kernel
theorem dX6_count_120 : decode cX6_count 120 = .ok (.istore_n 2, 1) := by decide +kernel
theorem dX6_count_121 : decode cX6_count 121 = .ok (.iinc 3 1, 3) := by decide +kernel
theorem dX6_count_124 : decode cX6_count 124 = .ok (.goto (-28), 3) := by decide +kernel
theorem dX6_count_127 : decode cX6_count 127 = .ok (.iload_n 2, 1) := by decide +kernel
theorem dX6_count_128 : decode cX6_count 128 = .ok (.ireturn, 1) := by decide +kernel
theorem dX6_count_129 : decode cX6_count 129 = .ok (.aload_n 0, 1) := by decide +kernel
theorem dX6_count_130 : decode cX6_count 130 = .ok (.getfield 192, 3) := by decide +kernel
theorem dX6_count_133 : decode cX6_count 133 = .ok (.ireturn, 1) := by decide +kernel
theorem dX6_count_134 : decode cX6_count 134 = .ok (.aload_n 0, 1) := by decide +kernel
theorem dX6_count_135 : decode cX6_count 135 = .ok (.getfield 195, 3) := by decide +kernel
theorem dX6_count_138 : decode cX6_count 138 = .ok (.ireturn, 1) := by decide +kernel
theorem dX6_count_139 : decode cX6_count 139 = .ok (.aload_n 0, 1) := by decide +kernel
theorem dX6_count_140 : decode cX6_count 140 = .ok (.getfield 201, 3) := by decide +kernel
theorem dX6_count_143 : decode cX6_count 143 = .ok (.ireturn, 1) := by decide +kernel
theorem dX6_count_144 : decode cX6_count 144 = .ok (.aload_n 0, 1) := by decide +kernel
theorem dX6_count_145 : decode cX6_count 145 = .ok (.getfield 216, 3) := by decide +kernel
theorem dX6_count_148 : decode cX6_count 148 = .ok (.ireturn, 1) := by decide +kernel
theorem dX6_count_149 : decode cX6_count 149 = .ok (.aload_n 0, 1) := by decide +kernel
theorem dX6_count_150 : decode cX6_count 150 = .ok (.getfield 219, 3) := by decide +kernel
theorem dX6_count_153 : decode cX6_count 153 = .ok (.ireturn, 1) := by decide +kernel
theorem dX6_count_154 : decode cX6_count 154 = .ok (.aload_n 0, 1) := by decide +kernel
theorem dX6_count_155 : decode cX6_count 155 = .ok (.getfield 216, 3) := by decide +kernel
theorem dX6_count_158 : decode cX6_count 158 = .ok (.ifCond .ne 7, 3) := by decide +kernel
theorem dX6_count_161 : decode cX6_count 161 = .ok (.iconst 0, 1) := by decide +kernel
theorem dX6_count_162 : decode cX6_count 162 = .ok (.goto 12, 3) := by decide +kernel
theorem dX6_count_165 : decode cX6_count 165 = .ok (.aload_n 0, 1) := by decide +kernel
theorem dX6_count_166 : decode cX6_count 166 = .ok (.getfield 225, 3) := by decide +kernel
theorem dX6_count_169 : decode cX6_count 169 = .ok (.aload_n 0, 1) := by decide +kernel
theorem dX6_count_170 : decode cX6_count 170 = .ok (.getfield 222, 3) := by decide +kernel
theorem dX6_count_173 : decode cX6_count 173 = .ok (.isub, 1) := by decide +kernel
theorem dX6_count_174 : decode cX6_count 174 = .ok (.ireturn, 1) := by decide +kernel
theorem dX6_count_175 : decode cX6_count 175 = .ok (.aload_n 0, 1) := by decide +kernel
theorem dX6_count_176 : decode cX6_count 176 = .ok (.getfield 216, 3) := by decide +kernel
theorem dX6_count_179 : decode cX6_count 179 = .ok (.ifCond .ne 7, 3) := by decide +kernel
theorem dX6_count_182 : decode cX6_count 182 = .ok (.iconst 0, 1) := by decide +kernel
theorem dX6_count_183 : decode cX6_count 183 = .ok (.goto 12, 3) := by decide +kernel
theorem dX6_count_186 : decode cX6_count 186 = .ok (.aload_n 0, 1) := by decide +kernel
theorem dX6_count_187 : decode cX6_count 187 = .ok (.getfield 231, 3) := by decide +kernel
theorem dX6_count_190 : decode cX6_count 190 = .ok (.aload_n 0, 1) := by decide +kernel
theorem dX6_count_191 : decode cX6_count 191 = .ok (.getfield 228, 3) := by decide +kernel
theorem dX6_count_194 : decode cX6_count 194 = .ok (.isub, 1) := by decide +kernel
theorem dX6_count_195 : decode cX6_count 195 = .ok (.ireturn, 1) := by decide +kernel
theorem dX6_count_196 : decode cX6_count 196 = .ok (.bipush (-2), 2) := by decide +kernel
theorem dX6_count_198 : decode cX6_count 198 = .ok (.ireturn, 1) := by decide +kernel
theorem dX6_digest_0 : decode cX6_digest 0 = .ok (.ldc2_w 234, 3) := by decide +kernel
theorem dX6_digest_3 : decode cX6_digest 3 = .ok (.lstore_n 1, 1) := by decide +kernel
theorem dX6_digest_4 : decode cX6_digest 4 = .ok (.iconst 0, 1) := by decide +kernel
theorem dX6_digest_5 : decode cX6_digest 5 = .ok (.istore_n 3, 1) := by decide +kernel
theorem dX6_digest_6 : decode cX6_digest 6 = .ok (.iload_n 3, 1) := by decide +kernel
theorem dX6_digest_7 : decode cX6_digest 7 = .ok (.bipush 10, 2) := by decide +kernel
theorem dX6_digest_9 : decode cX6_digest 9 = .ok (.if_icmp .ge 22, 3) := by decide +kernel
theorem dX6_digest_12 : decode cX6_digest 12 = .ok (.ldc2_w 236, 3) := by decide +kernel
theorem dX6_digest_15 : decode cX6_digest 15 = .ok (.lload_n 1, 1) := by decide +kernel
theorem dX6_digest_16 : decode cX6_digest 16 = .ok (.lmul, 1) := by decide +kernel
theorem dX6_digest_17 : decode cX6_digest 17 = .ok (.aload_n 0, 1) := by decide +kernel
theorem dX6_digest_18 : decode cX6_digest 18 = .ok (.iload_n 3, 1) := by decide +kernel
theorem dX6_digest_19 : decode cX6_digest 19 = .ok (.invokevirtual 238, 3) := by decide +kernel
theorem dX6_digest_22 : decode cX6_digest 22 = .ok (.i2l, 1) := by decide +kernel
theorem dX6_digest_23 : decode cX6_digest 23 = .ok (.ladd, 1) := by decide +kernel
theorem dX6_digest_24 : decode cX6_digest 24 = .ok (.lstore_n 1, 1) := by decide +kernel
theorem dX6_digest_25 : decode cX6_digest 25 = .ok (.iinc 3 1, 3) := by decide +kernel
theorem dX6_digest_28 : decode cX6_digest 28 = .ok (.goto (-22), 3) := by decide +kernel
theorem dX6_digest_31 : decode cX6_digest 31 = .ok (.iconst 0, 1) := by decide +kernel
theorem dX6_digest_32 : decode cX6_digest 32 = .ok (.istore_n 3, 1) := by decide +kernel
theorem dX6_digest_33 : decode cX6_digest 33 = .ok (.iload_n 3, 1) := by decide +kernel
theorem dX6_digest_34 : decode cX6_digest 34 = .ok (.bipush 8, 2) := by decide +kernel
theorem dX6_digest_36 : decode cX6_digest 36 = .ok (.if_icmp .ge 133, 3) := by decide +kernel
theorem dX6_digest_39 : decode cX6_digest 39 = .ok (.aload_n 0, 1) := by decide +kernel
theorem dX6_digest_40 : decode cX6_digest 40 = .ok (.getfield 7, 3) := by decide +kernel
theorem dX6_digest_43 : decode cX6_digest 43 = .ok (.iload_n 3, 1) := by decide +kernel
theorem dX6_digest_44 : decode cX6_digest 44 = .ok (.baload, 1) := by decide +kernel
theorem dX6_digest_45 : decode cX6_digest 45 = .ok (.ifCond .eq 118, 3) := by decide +kernel
theorem dX6_digest_48 : decode cX6_digest 48 = .ok (.ldc2_w 236, 3) := by decide +kernel
theorem dX6_digest_51 : decode cX6_digest 51 = .ok (.lload_n 1, 1) := by decide +kernel
theorem dX6_digest_52 : decode cX6_digest 52 = .ok (.lmul, 1) := by decide +kernel
theorem dX6_digest_53 : decode cX6_digest 53 = .ok (.iload_n 3, 1) := by decide +kernel
theorem dX6_digest_54 : decode cX6_digest 54 = .ok (.i2l, 1) := by decide +kernel
theorem dX6_digest_55 : decode cX6_digest 55 = .ok (.ladd, 1) := by decide +kernel
theorem dX6_digest_56 : decode cX6_digest 56 = .ok (.lstore_n 1, 1) := by decide +kernel
theorem dX6_digest_57 : decode cX6_digest 57 = .ok (.iconst 0, 1) := by decide +kernel
theorem dX6_digest_58 : decode cX6_digest 58 = .ok (.istore 4, 2) := by decide +kernel
theorem dX6_digest_60 : decode cX6_digest 60 = .ok (.iload 4, 2) := by decide +kernel
theorem dX6_digest_62 : decode cX6_digest 62 = .ok (.bipush 6, 2) := by decide +kernel
theorem dX6_digest_64 : decode cX6_digest 64 = .ok (.if_icmp .ge 24, 3) := by decide +kernel
theorem dX6_digest_67 : decode cX6_digest 67 = .ok (.ldc2_w 236, 3) := by decide +kernel
theorem dX6_digest_70 : decode cX6_digest 70 = .ok (.lload_n 1, 1) := by decide +kernel
theorem dX6_digest_71 : decode cX6_digest 71 = .ok (.lmul, 1) := by decide +kernel
theorem dX6_digest_72 : decode cX6_digest 72 = .ok (.aload_n 0, 1) := by decide +kernel
theorem dX6_digest_73 : decode cX6_digest 73 = .ok (.iload_n 3, 1) := by decide +kernel
theorem dX6_digest_74 : decode cX6_digest 74 = .ok (.iload 4, 2) := by decide +kernel
theorem dX6_digest_76 : decode cX6_digest 76 = .ok (.invokevirtual 241, 3) := by decide +kernel
theorem dX6_digest_79 : decode cX6_digest 79 = .ok (.i2l, 1) := by decide +kernel
theorem dX6_digest_80 : decode cX6_digest 80 = .ok (.ladd, 1) := by decide +kernel
theorem dX6_digest_81 : decode cX6_digest 81 = .ok (.lstore_n 1, 1) := by decide +kernel
theorem dX6_digest_82 : decode cX6_digest 82 = .ok (.iinc 4 1, 3) := by decide +kernel
theorem dX6_digest_85 : decode cX6_digest 85 = .ok (.goto (-25), 3) := by decide +kernel
theorem dX6_digest_88 : decode cX6_digest 88 = .ok (.iconst 0, 1) := by decide +kernel
theorem dX6_digest_89 : decode cX6_digest 89 = .ok (.istore 4, 2) := by decide +kernel
theorem dX6_digest_91 : decode cX6_digest 91 = .ok (.iload 4, 2) := by decide +kernel
theorem dX6_digest_93 : decode cX6_digest 93 = .ok (.aload_n 0, 1) := by decide +kernel
theorem dX6_digest_94 : decode cX6_digest 94 = .ok (.getfield 17, 3) := by decide +kernel
theorem dX6_digest_97 : decode cX6_digest 97 = .ok (.iload_n 3, 1) := by decide +kernel
theorem dX6_digest_98 : decode cX6_digest 98 = .ok (.iaload, 1) := by decide +kernel
theorem dX6_digest_99 : decode cX6_digest 99 = .ok (.if_icmp .ge 64, 3) := by decide +kernel
theorem dX6_digest_102 : decode cX6_digest 102 = .ok (.ldc2_w 236, 3) := by decide +kernel
theorem dX6_digest_105 : decode cX6_digest 105 = .ok (.lload_n 1, 1) := by decide +kernel
theorem dX6_digest_106 : decode cX6_digest 106 = .ok (.lmul, 1) := by decide +kernel
theorem dX6_digest_107 : decode cX6_digest 107 = .ok (.aload_n 0, 1) := by decide +kernel
theorem dX6_digest_108 : decode cX6_digest 108 = .ok (.getfield 20, 3) := by decide +kernel
theorem dX6_digest_111 : decode cX6_digest 111 = .ok (.bipush 64, 2) := by decide +kernel
theorem dX6_digest_113 : decode cX6_digest 113 = .ok (.iload_n 3, 1) := by decide +kernel
theorem dX6_digest_114 : decode cX6_digest 114 = .ok (.imul, 1) := by decide +kernel
theorem dX6_digest_115 : decode cX6_digest 115 = .ok (.iload 4, 2) := by decide +kernel
theorem dX6_digest_117 : decode cX6_digest 117 = .ok (.iadd, 1) := by decide +kernel
theorem dX6_digest_118 : decode cX6_digest 118 = .ok (.iaload, 1) := by decide +kernel
theorem dX6_digest_119 : decode cX6_digest 119 = .ok (.i2l, 1) := by decide +kernel
theorem dX6_digest_120 : decode cX6_digest 120 = .ok (.ladd, 1) := by decide +kernel
theorem dX6_digest_121 : decode cX6_digest 121 = .ok (.lstore_n 1, 1) := by decide +kernel
theorem dX6_digest_122 : decode cX6_digest 122 = .ok (.aload_n 0, 1) := by decide +kernel
theorem dX6_digest_123 : decode cX6_digest 123 = .ok (.getfield 20, 3) := by decide +kernel
theorem dX6_digest_126 : decode cX6_digest 126 = .ok (.bipush 64, 2) := by decide +kernel
theorem dX6_digest_128 : decode cX6_digest 128 = .ok (.iload_n 3, 1) := by decide +kernel
theorem dX6_digest_129 : decode cX6_digest 129 = .ok (.imul, 1) := by decide +kernel
theorem dX6_digest_130 : decode cX6_digest 130 = .ok (.iload 4, 2) := by decide +kernel
theorem dX6_digest_132 : decode cX6_digest 132 = .ok (.iadd, 1) := by decide +kernel
theorem dX6_digest_133 : decode cX6_digest 133 = .ok (.iaload, 1) := by decide +kernel
theorem dX6_digest_134 : decode cX6_digest 134 = .ok (.ifCond .le 23, 3) := by decide +kernel
theorem dX6_digest_137 : decode cX6_digest 137 = .ok (.ldc2_w 236, 3) := by decide +kernel
theorem dX6_digest_140 : decode cX6_digest 140 = .ok (.lload_n 1, 1) := by decide +kernel
theorem dX6_digest_141 : decode cX6_digest 141 = .ok (.lmul, 1) := by decide +kernel
theorem dX6_digest_142 : decode cX6_digest 142 = .ok (.aload_n 0, 1) := by decide +kernel
theorem dX6_digest_143 : decode cX6_digest 143 = .ok (.getfield 23, 3) := by decide +kernel
theorem dX6_digest_146 : decode cX6_digest 146 = .ok (.bipush 64, 2) := by decide +kernel
theorem dX6_digest_148 : decode cX6_digest 148 = .ok (.iload_n 3, 1) := by decide +kernel
theorem dX6_digest_149 : decode cX6_digest 149 = .ok (.imul, 1) := by decide +kernel
theorem dX6_digest_150 : decode cX6_digest 150 = .ok (.iload 4, 2) := by decide +kernel
theorem dX6_digest_152 : decode cX6_digest 152 = .ok (.iadd, 1) := by decide +kernel
theorem dX6_digest_153 : decode cX6_digest 153 = .ok (.iaload, 1) := by decide +kernel
theorem dX6_digest_154 : decode cX6_digest 154 = .ok (.i2l, 1) := by decide +kernel
theorem dX6_digest_155 : decode cX6_digest 155 = .ok (.ladd, 1) := by decide +kernel
theorem dX6_digest_156 : decode cX6_digest 156 = .ok (.lstore_n 1, 1) := by decide +kernel
theorem dX6_digest_157 : decode cX6_digest 157 = .ok (.iinc 4 1, 3) := by decide +kernel
theorem dX6_digest_160 : decode cX6_digest 160 = .ok (.goto (-69), 3) := by decide +kernel
theorem dX6_digest_163 : decode cX6_digest 163 = .ok (.iinc 3 1, 3) := by decide +kernel
theorem dX6_digest_166 : decode cX6_digest 166 = .ok (.goto (-133), 3) := by decide +kernel
theorem dX6_digest_169 : decode cX6_digest 169 = .ok (.iconst 0, 1) := by decide +kernel
theorem dX6_digest_170 : decode cX6_digest 170 = .ok (.istore_n 3, 1) := by decide +kernel
theorem dX6_digest_171 : decode cX6_digest 171 = .ok (.iload_n 3, 1) := by decide +kernel
theorem dX6_digest_172 : decode cX6_digest 172 = .ok (.bipush 6, 2) := by decide +kernel
theorem dX6_digest_174 : decode cX6_digest 174 = .ok (.if_icmp .ge 62, 3) := by decide +kernel
theorem dX6_digest_177 : decode cX6_digest 177 = .ok (.ldc2_w 236, 3) := by decide +kernel
theorem dX6_digest_180 : decode cX6_digest 180 = .ok (.lload_n 1, 1) := by decide +kernel
theorem dX6_digest_181 : decode cX6_digest 181 = .ok (.lmul, 1) := by decide +kernel
theorem dX6_digest_182 : decode cX6_digest 182 = .ok (.aload_n 0, 1) := by decide +kernel
theorem dX6_digest_183 : decode cX6_digest 183 = .ok (.getfield 26, 3) := by decide +kernel
theorem dX6_digest_186 : decode cX6_digest 186 = .ok (.iload_n 3, 1) := by decide +kernel
theorem dX6_digest_187 : decode cX6_digest 187 = .ok (.iaload, 1) := by decide +kernel
theorem dX6_digest_188 : decode cX6_digest 188 = .ok (.i2l, 1) := by decide +kernel
