theorem dL_part_0 : decode cL_part 0 = .ok (.iload_n 0, 1) := by decide +kernel
theorem dL_part_1 : decode cL_part 1 = .ok (.ldc 7, 2) := by decide +kernel
theorem dL_part_3 : decode cL_part 3 = .ok (.iand, 1) := by decide +kernel
theorem dL_part_4 : decode cL_part 4 = .ok (.iload_n 1, 1) := by decide +kernel
theorem dL_part_5 : decode cL_part 5 = .ok (.irem, 1) := by decide +kernel
theorem dL_part_6 : decode cL_part 6 = .ok (.ireturn, 1) := by decide +kernel
theorem dL_take_0 : decode cL_take 0 = .ok (.aload_n 0, 1) := by decide +kernel
theorem dL_take_1 : decode cL_take 1 = .ok (.arraylength, 1) := by decide +kernel
theorem dL_take_2 : decode cL_take 2 = .ok (.ifCond .ne 13, 3) := by decide +kernel
theorem dL_take_5 : decode cL_take 5 = .ok (.sipush 7919, 3) := by decide +kernel
theorem dL_take_8 : decode cL_take 8 = .ok (.iload_n 1, 1) := by decide +kernel
theorem dL_take_9 : decode cL_take 9 = .ok (.imul, 1) := by decide +kernel
theorem dL_take_10 : decode cL_take 10 = .ok (.iconst 3, 1) := by decide +kernel
theorem dL_take_11 : decode cL_take 11 = .ok (.iadd, 1) := by decide +kernel
theorem dL_take_12 : decode cL_take 12 = .ok (.goto 27, 3) := by decide +kernel
theorem dL_take_15 : decode cL_take 15 = .ok (.aload_n 0, 1) := by decide +kernel
theorem dL_take_16 : decode cL_take 16 = .ok (.iload_n 1, 1) := by decide +kernel
theorem dL_take_17 : decode cL_take 17 = .ok (.aload_n 0, 1) := by decide +kernel
theorem dL_take_18 : decode cL_take 18 = .ok (.arraylength, 1) := by decide +kernel
theorem dL_take_19 : decode cL_take 19 = .ok (.irem, 1) := by decide +kernel
theorem dL_take_20 : decode cL_take 20 = .ok (.iaload, 1) := by decide +kernel
theorem dL_take_21 : decode cL_take 21 = .ok (.iload_n 1, 1) := by decide +kernel
theorem dL_take_22 : decode cL_take 22 = .ok (.bipush 7, 2) := by decide +kernel
theorem dL_take_24 : decode cL_take 24 = .ok (.irem, 1) := by decide +kernel
theorem dL_take_25 : decode cL_take 25 = .ok (.ishr, 1) := by decide +kernel
theorem dL_take_26 : decode cL_take 26 = .ok (.iload_n 1, 1) := by decide +kernel
theorem dL_take_27 : decode cL_take 27 = .ok (.aload_n 0, 1) := by decide +kernel
theorem dL_take_28 : decode cL_take 28 = .ok (.arraylength, 1) := by decide +kernel
theorem dL_take_29 : decode cL_take 29 = .ok (.idiv, 1) := by decide +kernel
theorem dL_take_30 : decode cL_take 30 = .ok (.bipush 31, 2) := by decide +kernel
theorem dL_take_32 : decode cL_take 32 = .ok (.imul, 1) := by decide +kernel
theorem dL_take_33 : decode cL_take 33 = .ok (.ixor, 1) := by decide +kernel
theorem dL_take_34 : decode cL_take 34 = .ok (.iload_n 1, 1) := by decide +kernel
theorem dL_take_35 : decode cL_take 35 = .ok (.ldc 8, 2) := by decide +kernel
theorem dL_take_37 : decode cL_take 37 = .ok (.imul, 1) := by decide +kernel
theorem dL_take_38 : decode cL_take 38 = .ok (.ixor, 1) := by decide +kernel
theorem dL_take_39 : decode cL_take 39 = .ok (.ireturn, 1) := by decide +kernel
theorem dL_mixed_0 : decode cL_mixed 0 = .ok (.ldc2_w 9, 3) := by decide +kernel
theorem dL_mixed_3 : decode cL_mixed 3 = .ok (.lload_n 0, 1) := by decide +kernel
theorem dL_mixed_4 : decode cL_mixed 4 = .ok (.lmul, 1) := by decide +kernel
theorem dL_mixed_5 : decode cL_mixed 5 = .ok (.lload_n 2, 1) := by decide +kernel
theorem dL_mixed_6 : decode cL_mixed 6 = .ok (.ladd, 1) := by decide +kernel
theorem dL_mixed_7 : decode cL_mixed 7 = .ok (.lreturn, 1) := by decide +kernel
theorem dL_state_0 : decode cL_state 0 = .ok (.ldc2_w 11, 3) := by decide +kernel
theorem dL_state_3 : decode cL_state 3 = .ok (.lstore_n 1, 1) := by decide +kernel
theorem dL_state_4 : decode cL_state 4 = .ok (.iconst 0, 1) := by decide +kernel
theorem dL_state_5 : decode cL_state 5 = .ok (.istore_n 3, 1) := by decide +kernel
theorem dL_state_6 : decode cL_state 6 = .ok (.iload_n 3, 1) := by decide +kernel
theorem dL_state_7 : decode cL_state 7 = .ok (.bipush 25, 2) := by decide +kernel
theorem dL_state_9 : decode cL_state 9 = .ok (.if_icmp .ge 29, 3) := by decide +kernel
theorem dL_state_12 : decode cL_state 12 = .ok (.iload_n 3, 1) := by decide +kernel
theorem dL_state_13 : decode cL_state 13 = .ok (.iconst 4, 1) := by decide +kernel
theorem dL_state_14 : decode cL_state 14 = .ok (.if_icmp .eq 18, 3) := by decide +kernel
theorem dL_state_17 : decode cL_state 17 = .ok (.iload_n 3, 1) := by decide +kernel
theorem dL_state_18 : decode cL_state 18 = .ok (.iconst 5, 1) := by decide +kernel
theorem dL_state_19 : decode cL_state 19 = .ok (.if_icmp .eq 13, 3) := by decide +kernel
theorem dL_state_22 : decode cL_state 22 = .ok (.lload_n 1, 1) := by decide +kernel
theorem dL_state_23 : decode cL_state 23 = .ok (.aload_n 0, 1) := by decide +kernel
theorem dL_state_24 : decode cL_state 24 = .ok (.iload_n 3, 1) := by decide +kernel
theorem dL_state_25 : decode cL_state 25 = .ok (.invokevirtual 13, 3) := by decide +kernel
theorem dL_state_28 : decode cL_state 28 = .ok (.invokestatic 19, 3) := by decide +kernel
theorem dL_state_31 : decode cL_state 31 = .ok (.lstore_n 1, 1) := by decide +kernel
theorem dL_state_32 : decode cL_state 32 = .ok (.iinc 3 1, 3) := by decide +kernel
theorem dL_state_35 : decode cL_state 35 = .ok (.goto (-29), 3) := by decide +kernel
theorem dL_state_38 : decode cL_state 38 = .ok (.iconst 0, 1) := by decide +kernel
theorem dL_state_39 : decode cL_state 39 = .ok (.istore_n 3, 1) := by decide +kernel
theorem dL_state_40 : decode cL_state 40 = .ok (.iload_n 3, 1) := by decide +kernel
theorem dL_state_41 : decode cL_state 41 = .ok (.i2l, 1) := by decide +kernel
theorem dL_state_42 : decode cL_state 42 = .ok (.ldc2_w 25, 3) := by decide +kernel
theorem dL_state_45 : decode cL_state 45 = .ok (.aload_n 0, 1) := by decide +kernel
theorem dL_state_46 : decode cL_state 46 = .ok (.iconst 0, 1) := by decide +kernel
theorem dL_state_47 : decode cL_state 47 = .ok (.invokevirtual 13, 3) := by decide +kernel
theorem dL_state_50 : decode cL_state 50 = .ok (.lmul, 1) := by decide +kernel
theorem dL_state_51 : decode cL_state 51 = .ok (.lcmp, 1) := by decide +kernel
theorem dL_state_52 : decode cL_state 52 = .ok (.ifCond .ge 25, 3) := by decide +kernel
theorem dL_state_55 : decode cL_state 55 = .ok (.lload_n 1, 1) := by decide +kernel
theorem dL_state_56 : decode cL_state 56 = .ok (.aload_n 0, 1) := by decide +kernel
theorem dL_state_57 : decode cL_state 57 = .ok (.iload_n 3, 1) := by decide +kernel
theorem dL_state_58 : decode cL_state 58 = .ok (.iconst 4, 1) := by decide +kernel
theorem dL_state_59 : decode cL_state 59 = .ok (.idiv, 1) := by decide +kernel
theorem dL_state_60 : decode cL_state 60 = .ok (.iload_n 3, 1) := by decide +kernel
theorem dL_state_61 : decode cL_state 61 = .ok (.iconst 4, 1) := by decide +kernel
theorem dL_state_62 : decode cL_state 62 = .ok (.irem, 1) := by decide +kernel
theorem dL_state_63 : decode cL_state 63 = .ok (.invokevirtual 27, 3) := by decide +kernel
theorem dL_state_66 : decode cL_state 66 = .ok (.i2l, 1) := by decide +kernel
theorem dL_state_67 : decode cL_state 67 = .ok (.invokestatic 19, 3) := by decide +kernel
theorem dL_state_70 : decode cL_state 70 = .ok (.lstore_n 1, 1) := by decide +kernel
theorem dL_state_71 : decode cL_state 71 = .ok (.iinc 3 1, 3) := by decide +kernel
theorem dL_state_74 : decode cL_state 74 = .ok (.goto (-34), 3) := by decide +kernel
theorem dL_state_77 : decode cL_state 77 = .ok (.iconst 0, 1) := by decide +kernel
theorem dL_state_78 : decode cL_state 78 = .ok (.istore_n 3, 1) := by decide +kernel
theorem dL_state_79 : decode cL_state 79 = .ok (.iload_n 3, 1) := by decide +kernel
theorem dL_state_80 : decode cL_state 80 = .ok (.i2l, 1) := by decide +kernel
theorem dL_state_81 : decode cL_state 81 = .ok (.aload_n 0, 1) := by decide +kernel
theorem dL_state_82 : decode cL_state 82 = .ok (.iconst 1, 1) := by decide +kernel
theorem dL_state_83 : decode cL_state 83 = .ok (.invokevirtual 13, 3) := by decide +kernel
theorem dL_state_86 : decode cL_state 86 = .ok (.lcmp, 1) := by decide +kernel
theorem dL_state_87 : decode cL_state 87 = .ok (.ifCond .ge 91, 3) := by decide +kernel
theorem dL_state_90 : decode cL_state 90 = .ok (.iconst 0, 1) := by decide +kernel
theorem dL_state_91 : decode cL_state 91 = .ok (.istore 4, 2) := by decide +kernel
theorem dL_state_93 : decode cL_state 93 = .ok (.iload 4, 2) := by decide +kernel
theorem dL_state_95 : decode cL_state 95 = .ok (.bipush 13, 2) := by decide +kernel
theorem dL_state_97 : decode cL_state 97 = .ok (.if_icmp .ge 22, 3) := by decide +kernel
theorem dL_state_100 : decode cL_state 100 = .ok (.lload_n 1, 1) := by decide +kernel
theorem dL_state_101 : decode cL_state 101 = .ok (.aload_n 0, 1) := by decide +kernel
theorem dL_state_102 : decode cL_state 102 = .ok (.iload_n 3, 1) := by decide +kernel
theorem dL_state_103 : decode cL_state 103 = .ok (.iload 4, 2) := by decide +kernel
theorem dL_state_105 : decode cL_state 105 = .ok (.invokevirtual 31, 3) := by decide +kernel
theorem dL_state_108 : decode cL_state 108 = .ok (.i2l, 1) := by decide +kernel
theorem dL_state_109 : decode cL_state 109 = .ok (.invokestatic 19, 3) := by decide +kernel
theorem dL_state_112 : decode cL_state 112 = .ok (.lstore_n 1, 1) := by decide +kernel
theorem dL_state_113 : decode cL_state 113 = .ok (.iinc 4 1, 3) := by decide +kernel
theorem dL_state_116 : decode cL_state 116 = .ok (.goto (-23), 3) := by decide +kernel
theorem dL_state_119 : decode cL_state 119 = .ok (.iconst 0, 1) := by decide +kernel
theorem dL_state_120 : decode cL_state 120 = .ok (.istore 4, 2) := by decide +kernel
theorem dL_state_122 : decode cL_state 122 = .ok (.iload 4, 2) := by decide +kernel
theorem dL_state_124 : decode cL_state 124 = .ok (.iconst 2, 1) := by decide +kernel
theorem dL_state_125 : decode cL_state 125 = .ok (.aload_n 0, 1) := by decide +kernel
theorem dL_state_126 : decode cL_state 126 = .ok (.iload_n 3, 1) := by decide +kernel
theorem dL_state_127 : decode cL_state 127 = .ok (.bipush 12, 2) := by decide +kernel
theorem dL_state_129 : decode cL_state 129 = .ok (.invokevirtual 31, 3) := by decide +kernel
theorem dL_state_132 : decode cL_state 132 = .ok (.imul, 1) := by decide +kernel
theorem dL_state_133 : decode cL_state 133 = .ok (.if_icmp .ge 28, 3) := by decide +kernel
theorem dL_state_136 : decode cL_state 136 = .ok (.lload_n 1, 1) := by decide +kernel
theorem dL_state_137 : decode cL_state 137 = .ok (.aload_n 0, 1) := by decide +kernel
theorem dL_state_138 : decode cL_state 138 = .ok (.iload_n 3, 1) := by decide +kernel
theorem dL_state_139 : decode cL_state 139 = .ok (.iload 4, 2) := by decide +kernel
theorem dL_state_141 : decode cL_state 141 = .ok (.iconst 2, 1) := by decide +kernel
theorem dL_state_142 : decode cL_state 142 = .ok (.idiv, 1) := by decide +kernel
theorem dL_state_143 : decode cL_state 143 = .ok (.iload 4, 2) := by decide +kernel
theorem dL_state_145 : decode cL_state 145 = .ok (.iconst 2, 1) := by decide +kernel
theorem dL_state_146 : decode cL_state 146 = .ok (.irem, 1) := by decide +kernel
theorem dL_state_147 : decode cL_state 147 = .ok (.invokevirtual 34, 3) := by decide +kernel
theorem dL_state_150 : decode cL_state 150 = .ok (.i2l, 1) := by decide +kernel
theorem dL_state_151 : decode cL_state 151 = .ok (.invokestatic 19, 3) := by decide +kernel
theorem dL_state_154 : decode cL_state 154 = .ok (.lstore_n 1, 1) := by decide +kernel
theorem dL_state_155 : decode cL_state 155 = .ok (.iinc 4 1, 3) := by decide +kernel
theorem dL_state_158 : decode cL_state 158 = .ok (.goto (-36), 3) := by decide +kernel
theorem dL_state_161 : decode cL_state 161 = .ok (.lload_n 1, 1) := by decide +kernel
theorem dL_state_162 : decode cL_state 162 = .ok (.aload_n 0, 1) := by decide +kernel
theorem dL_state_163 : decode cL_state 163 = .ok (.iload_n 3, 1) := by decide +kernel
theorem dL_state_164 : decode cL_state 164 = .ok (.invokevirtual 38, 3) := by decide +kernel
theorem dL_state_167 : decode cL_state 167 = .ok (.i2l, 1) := by decide +kernel
theorem dL_state_168 : decode cL_state 168 = .ok (.invokestatic 19, 3) := by decide +kernel
theorem dL_state_171 : decode cL_state 171 = .ok (.lstore_n 1, 1) := by decide +kernel
theorem dL_state_172 : decode cL_state 172 = .ok (.iinc 3 1, 3) := by decide +kernel
theorem dL_state_175 : decode cL_state 175 = .ok (.goto (-96), 3) := by decide +kernel
theorem dL_state_178 : decode cL_state 178 = .ok (.lload_n 1, 1) := by decide +kernel
theorem dL_state_179 : decode cL_state 179 = .ok (.lreturn, 1) := by decide +kernel
theorem dL_refused_0 : decode cL_refused 0 = .ok (.aload_n 0, 1) := by decide +kernel
theorem dL_refused_1 : decode cL_refused 1 = .ok (.invokestatic 42, 3) := by decide +kernel
theorem dL_refused_4 : decode cL_refused 4 = .ok (.aload_n 0, 1) := by decide +kernel
theorem dL_refused_5 : decode cL_refused 5 = .ok (.iconst 4, 1) := by decide +kernel
theorem dL_refused_6 : decode cL_refused 6 = .ok (.invokevirtual 13, 3) := by decide +kernel
theorem dL_refused_9 : decode cL_refused 9 = .ok (.invokestatic 19, 3) := by decide +kernel
theorem dL_refused_12 : decode cL_refused 12 = .ok (.aload_n 0, 1) := by decide +kernel
theorem dL_refused_13 : decode cL_refused 13 = .ok (.iconst 5, 1) := by decide +kernel
theorem dL_refused_14 : decode cL_refused 14 = .ok (.invokevirtual 13, 3) := by decide +kernel
theorem dL_refused_17 : decode cL_refused 17 = .ok (.invokestatic 19, 3) := by decide +kernel
theorem dL_refused_20 : decode cL_refused 20 = .ok (.lstore_n 1, 1) := by decide +kernel
theorem dL_refused_21 : decode cL_refused 21 = .ok (.aload_n 0, 1) := by decide +kernel
theorem dL_refused_22 : decode cL_refused 22 = .ok (.iconst 0, 1) := by decide +kernel
theorem dL_refused_23 : decode cL_refused 23 = .ok (.invokevirtual 13, 3) := by decide +kernel
theorem dL_refused_26 : decode cL_refused 26 = .ok (.l2i, 1) := by decide +kernel
theorem dL_refused_27 : decode cL_refused 27 = .ok (.istore_n 3, 1) := by decide +kernel
theorem dL_refused_28 : decode cL_refused 28 = .ok (.aload_n 0, 1) := by decide +kernel
theorem dL_refused_29 : decode cL_refused 29 = .ok (.iconst 1, 1) := by decide +kernel
theorem dL_refused_30 : decode cL_refused 30 = .ok (.invokevirtual 13, 3) := by decide +kernel
theorem dL_refused_33 : decode cL_refused 33 = .ok (.l2i, 1) := by decide +kernel
theorem dL_refused_34 : decode cL_refused 34 = .ok (.istore 4, 2) := by decide +kernel
theorem dL_refused_36 : decode cL_refused 36 = .ok (.aload_n 0, 1) := by decide +kernel
theorem dL_refused_37 : decode cL_refused 37 = .ok (.iload_n 3, 1) := by decide +kernel
theorem dL_refused_38 : decode cL_refused 38 = .ok (.iconst 1, 1) := by decide +kernel
theorem dL_refused_39 : decode cL_refused 39 = .ok (.iadd, 1) := by decide +kernel
theorem dL_refused_40 : decode cL_refused 40 = .ok (.bipush 100, 2) := by decide +kernel
theorem dL_refused_42 : decode cL_refused 42 = .ok (.iconst 1, 1) := by decide +kernel
theorem dL_refused_43 : decode cL_refused 43 = .ok (.invokevirtual 46, 3) := by decide +kernel
theorem dL_refused_46 : decode cL_refused 46 = .ok (.iconst (-1), 1) := by decide +kernel
theorem dL_refused_47 : decode cL_refused 47 = .ok (.if_icmp .ne 125, 3) := by decide +kernel
theorem dL_refused_50 : decode cL_refused 50 = .ok (.aload_n 0, 1) := by decide +kernel
theorem dL_refused_51 : decode cL_refused 51 = .ok (.iconst (-1), 1) := by decide +kernel
theorem dL_refused_52 : decode cL_refused 52 = .ok (.bipush 100, 2) := by decide +kernel
theorem dL_refused_54 : decode cL_refused 54 = .ok (.iconst 1, 1) := by decide +kernel
theorem dL_refused_55 : decode cL_refused 55 = .ok (.invokevirtual 46, 3) := by decide +kernel
theorem dL_refused_58 : decode cL_refused 58 = .ok (.iconst (-1), 1) := by decide +kernel
theorem dL_refused_59 : decode cL_refused 59 = .ok (.if_icmp .ne 113, 3) := by decide +kernel
theorem dL_refused_62 : decode cL_refused 62 = .ok (.aload_n 0, 1) := by decide +kernel
theorem dL_refused_63 : decode cL_refused 63 = .ok (.iconst 0, 1) := by decide +kernel
theorem dL_refused_64 : decode cL_refused 64 = .ok (.bipush 99, 2) := by decide +kernel
theorem dL_refused_66 : decode cL_refused 66 = .ok (.iconst 1, 1) := by decide +kernel
theorem dL_refused_67 : decode cL_refused 67 = .ok (.invokevirtual 46, 3) := by decide +kernel
theorem dL_refused_70 : decode cL_refused 70 = .ok (.iconst (-1), 1) := by decide +kernel
theorem dL_refused_71 : decode cL_refused 71 = .ok (.if_icmp .ne 101, 3) := by decide +kernel
theorem dL_refused_74 : decode cL_refused 74 = .ok (.aload_n 0, 1) := by decide +kernel
theorem dL_refused_75 : decode cL_refused 75 = .ok (.iload_n 3, 1) := by decide +kernel
theorem dL_refused_76 : decode cL_refused 76 = .ok (.sipush 20001, 3) := by decide +kernel
theorem dL_refused_79 : decode cL_refused 79 = .ok (.iconst 1, 1) := by decide +kernel
theorem dL_refused_80 : decode cL_refused 80 = .ok (.invokevirtual 46, 3) := by decide +kernel
theorem dL_refused_83 : decode cL_refused 83 = .ok (.iconst (-1), 1) := by decide +kernel
theorem dL_refused_84 : decode cL_refused 84 = .ok (.if_icmp .ne 88, 3) := by decide +kernel
theorem dL_refused_87 : decode cL_refused 87 = .ok (.aload_n 0, 1) := by decide +kernel
theorem dL_refused_88 : decode cL_refused 88 = .ok (.iconst 0, 1) := by decide +kernel
theorem dL_refused_89 : decode cL_refused 89 = .ok (.bipush 100, 2) := by decide +kernel
theorem dL_refused_91 : decode cL_refused 91 = .ok (.iconst 0, 1) := by decide +kernel
theorem dL_refused_92 : decode cL_refused 92 = .ok (.invokevirtual 46, 3) := by decide +kernel
theorem dL_refused_95 : decode cL_refused 95 = .ok (.iconst (-1), 1) := by decide +kernel
theorem dL_refused_96 : decode cL_refused 96 = .ok (.if_icmp .ne 76, 3) := by decide +kernel
theorem dL_refused_99 : decode cL_refused 99 = .ok (.aload_n 0, 1) := by decide +kernel
theorem dL_refused_100 : decode cL_refused 100 = .ok (.iload_n 3, 1) := by decide +kernel
theorem dL_refused_101 : decode cL_refused 101 = .ok (.bipush 100, 2) := by decide +kernel
theorem dL_refused_103 : decode cL_refused 103 = .ok (.sipush 501, 3) := by decide +kernel
theorem dL_refused_106 : decode cL_refused 106 = .ok (.invokevirtual 46, 3) := by decide +kernel
theorem dL_refused_109 : decode cL_refused 109 = .ok (.iconst (-1), 1) := by decide +kernel
theorem dL_refused_110 : decode cL_refused 110 = .ok (.if_icmp .ne 62, 3) := by decide +kernel
theorem dL_refused_113 : decode cL_refused 113 = .ok (.aload_n 0, 1) := by decide +kernel
theorem dL_refused_114 : decode cL_refused 114 = .ok (.iload_n 3, 1) := by decide +kernel
theorem dL_refused_115 : decode cL_refused 115 = .ok (.iconst 0, 1) := by decide +kernel
theorem dL_refused_116 : decode cL_refused 116 = .ok (.invokevirtual 27, 3) := by decide +kernel
theorem dL_refused_119 : decode cL_refused 119 = .ok (.iconst (-1), 1) := by decide +kernel
theorem dL_refused_120 : decode cL_refused 120 = .ok (.if_icmp .ne 52, 3) := by decide +kernel
theorem dL_refused_123 : decode cL_refused 123 = .ok (.aload_n 0, 1) := by decide +kernel
theorem dL_refused_124 : decode cL_refused 124 = .ok (.iconst (-1), 1) := by decide +kernel
theorem dL_refused_125 : decode cL_refused 125 = .ok (.iconst 0, 1) := by decide +kernel
theorem dL_refused_126 : decode cL_refused 126 = .ok (.invokevirtual 27, 3) := by decide +kernel
theorem dL_refused_129 : decode cL_refused 129 = .ok (.iconst (-1), 1) := by decide +kernel
theorem dL_refused_130 : decode cL_refused 130 = .ok (.if_icmp .ne 42, 3) := by decide +kernel
theorem dL_refused_133 : decode cL_refused 133 = .ok (.aload_n 0, 1) := by decide +kernel
theorem dL_refused_134 : decode cL_refused 134 = .ok (.iconst 0, 1) := by decide +kernel
theorem dL_refused_135 : decode cL_refused 135 = .ok (.iconst 4, 1) := by decide +kernel
theorem dL_refused_136 : decode cL_refused 136 = .ok (.invokevirtual 27, 3) := by decide +kernel
theorem dL_refused_139 : decode cL_refused 139 = .ok (.iconst (-1), 1) := by decide +kernel
theorem dL_refused_140 : decode cL_refused 140 = .ok (.if_icmp .ne 32, 3) := by decide +kernel
theorem dL_refused_143 : decode cL_refused 143 = .ok (.aload_n 0, 1) := by decide +kernel
theorem dL_refused_144 : decode cL_refused 144 = .ok (.iconst 0, 1) := by decide +kernel
theorem dL_refused_145 : decode cL_refused 145 = .ok (.iconst (-1), 1) := by decide +kernel
theorem dL_refused_146 : decode cL_refused 146 = .ok (.invokevirtual 27, 3) := by decide +kernel
theorem dL_refused_149 : decode cL_refused 149 = .ok (.iconst (-1), 1) := by decide +kernel
theorem dL_refused_150 : decode cL_refused 150 = .ok (.if_icmp .ne 22, 3) := by decide +kernel
theorem dL_refused_153 : decode cL_refused 153 = .ok (.aload_n 0, 1) := by decide +kernel
theorem dL_refused_154 : decode cL_refused 154 = .ok (.iconst (-1), 1) := by decide +kernel
theorem dL_refused_155 : decode cL_refused 155 = .ok (.invokevirtual 49, 3) := by decide +kernel
theorem dL_refused_158 : decode cL_refused 158 = .ok (.iconst (-1), 1) := by decide +kernel
theorem dL_refused_159 : decode cL_refused 159 = .ok (.if_icmp .ne 13, 3) := by decide +kernel
theorem dL_refused_162 : decode cL_refused 162 = .ok (.aload_n 0, 1) := by decide +kernel
theorem dL_refused_163 : decode cL_refused 163 = .ok (.ldc 52, 2) := by decide +kernel
theorem dL_refused_165 : decode cL_refused 165 = .ok (.invokevirtual 49, 3) := by decide +kernel
theorem dL_refused_168 : decode cL_refused 168 = .ok (.iconst (-1), 1) := by decide +kernel
theorem dL_refused_169 : decode cL_refused 169 = .ok (.if_icmp .eq 5, 3) := by decide +kernel
theorem dL_refused_172 : decode cL_refused 172 = .ok (.iconst 0, 1) := by decide +kernel
theorem dL_refused_173 : decode cL_refused 173 = .ok (.ireturn, 1) := by decide +kernel
theorem dL_refused_174 : decode cL_refused 174 = .ok (.aload_n 0, 1) := by decide +kernel
theorem dL_refused_175 : decode cL_refused 175 = .ok (.iconst (-1), 1) := by decide +kernel
theorem dL_refused_176 : decode cL_refused 176 = .ok (.bipush 100, 2) := by decide +kernel
theorem dL_refused_178 : decode cL_refused 178 = .ok (.invokevirtual 53, 3) := by decide +kernel
theorem dL_refused_181 : decode cL_refused 181 = .ok (.iconst (-1), 1) := by decide +kernel
theorem dL_refused_182 : decode cL_refused 182 = .ok (.if_icmp .ne 147, 3) := by decide +kernel
theorem dL_refused_185 : decode cL_refused 185 = .ok (.aload_n 0, 1) := by decide +kernel
theorem dL_refused_186 : decode cL_refused 186 = .ok (.bipush 6, 2) := by decide +kernel
theorem dL_refused_188 : decode cL_refused 188 = .ok (.bipush 100, 2) := by decide +kernel
theorem dL_refused_190 : decode cL_refused 190 = .ok (.invokevirtual 53, 3) := by decide +kernel
theorem dL_refused_193 : decode cL_refused 193 = .ok (.iconst (-1), 1) := by decide +kernel
theorem dL_refused_194 : decode cL_refused 194 = .ok (.if_icmp .ne 135, 3) := by decide +kernel
theorem dL_refused_197 : decode cL_refused 197 = .ok (.aload_n 0, 1) := by decide +kernel
theorem dL_refused_198 : decode cL_refused 198 = .ok (.iconst 0, 1) := by decide +kernel
theorem dL_refused_199 : decode cL_refused 199 = .ok (.bipush 99, 2) := by decide +kernel
theorem dL_refused_201 : decode cL_refused 201 = .ok (.invokevirtual 53, 3) := by decide +kernel
theorem dL_refused_204 : decode cL_refused 204 = .ok (.iconst (-1), 1) := by decide +kernel
theorem dL_refused_205 : decode cL_refused 205 = .ok (.if_icmp .ne 124, 3) := by decide +kernel
theorem dL_refused_208 : decode cL_refused 208 = .ok (.aload_n 0, 1) := by decide +kernel
theorem dL_refused_209 : decode cL_refused 209 = .ok (.iconst 0, 1) := by decide +kernel
theorem dL_refused_210 : decode cL_refused 210 = .ok (.sipush 10001, 3) := by decide +kernel
theorem dL_refused_213 : decode cL_refused 213 = .ok (.invokevirtual 53, 3) := by decide +kernel
theorem dL_refused_216 : decode cL_refused 216 = .ok (.iconst (-1), 1) := by decide +kernel
theorem dL_refused_217 : decode cL_refused 217 = .ok (.if_icmp .ne 112, 3) := by decide +kernel
theorem dL_refused_220 : decode cL_refused 220 = .ok (.aload_n 0, 1) := by decide +kernel
theorem dL_refused_221 : decode cL_refused 221 = .ok (.iconst 1, 1) := by decide +kernel
theorem dL_refused_222 : decode cL_refused 222 = .ok (.bipush 9, 2) := by decide +kernel
theorem dL_refused_224 : decode cL_refused 224 = .ok (.invokevirtual 53, 3) := by decide +kernel
theorem dL_refused_227 : decode cL_refused 227 = .ok (.iconst (-1), 1) := by decide +kernel
theorem dL_refused_228 : decode cL_refused 228 = .ok (.if_icmp .ne 101, 3) := by decide +kernel
theorem dL_refused_231 : decode cL_refused 231 = .ok (.aload_n 0, 1) := by decide +kernel
theorem dL_refused_232 : decode cL_refused 232 = .ok (.iconst 1, 1) := by decide +kernel
theorem dL_refused_233 : decode cL_refused 233 = .ok (.bipush 101, 2) := by decide +kernel
theorem dL_refused_235 : decode cL_refused 235 = .ok (.invokevirtual 53, 3) := by decide +kernel
theorem dL_refused_238 : decode cL_refused 238 = .ok (.iconst (-1), 1) := by decide +kernel
theorem dL_refused_239 : decode cL_refused 239 = .ok (.if_icmp .ne 90, 3) := by decide +kernel
theorem dL_refused_242 : decode cL_refused 242 = .ok (.aload_n 0, 1) := by decide +kernel
theorem dL_refused_243 : decode cL_refused 243 = .ok (.iconst 2, 1) := by decide +kernel
theorem dL_refused_244 : decode cL_refused 244 = .ok (.bipush 51, 2) := by decide +kernel
theorem dL_refused_246 : decode cL_refused 246 = .ok (.invokevirtual 53, 3) := by decide +kernel
theorem dL_refused_249 : decode cL_refused 249 = .ok (.iconst (-1), 1) := by decide +kernel
theorem dL_refused_250 : decode cL_refused 250 = .ok (.if_icmp .ne 79, 3) := by decide +kernel
theorem dL_refused_253 : decode cL_refused 253 = .ok (.aload_n 0, 1) := by decide +kernel
theorem dL_refused_254 : decode cL_refused 254 = .ok (.iconst 2, 1) := by decide +kernel
theorem dL_refused_255 : decode cL_refused 255 = .ok (.iconst (-1), 1) := by decide +kernel
theorem dL_refused_256 : decode cL_refused 256 = .ok (.invokevirtual 53, 3) := by decide +kernel
theorem dL_refused_259 : decode cL_refused 259 = .ok (.iconst (-1), 1) := by decide +kernel
theorem dL_refused_260 : decode cL_refused 260 = .ok (.if_icmp .ne 69, 3) := by decide +kernel
theorem dL_refused_263 : decode cL_refused 263 = .ok (.aload_n 0, 1) := by decide +kernel
theorem dL_refused_264 : decode cL_refused 264 = .ok (.iconst 3, 1) := by decide +kernel
theorem dL_refused_265 : decode cL_refused 265 = .ok (.bipush 99, 2) := by decide +kernel
theorem dL_refused_267 : decode cL_refused 267 = .ok (.invokevirtual 53, 3) := by decide +kernel
theorem dL_refused_270 : decode cL_refused 270 = .ok (.iconst (-1), 1) := by decide +kernel
theorem dL_refused_271 : decode cL_refused 271 = .ok (.if_icmp .ne 58, 3) := by decide +kernel
theorem dL_refused_274 : decode cL_refused 274 = .ok (.aload_n 0, 1) := by decide +kernel
theorem dL_refused_275 : decode cL_refused 275 = .ok (.iconst 3, 1) := by decide +kernel
theorem dL_refused_276 : decode cL_refused 276 = .ok (.sipush 501, 3) := by decide +kernel
theorem dL_refused_279 : decode cL_refused 279 = .ok (.invokevirtual 53, 3) := by decide +kernel
theorem dL_refused_282 : decode cL_refused 282 = .ok (.iconst (-1), 1) := by decide +kernel
theorem dL_refused_283 : decode cL_refused 283 = .ok (.if_icmp .ne 46, 3) := by decide +kernel
theorem dL_refused_286 : decode cL_refused 286 = .ok (.aload_n 0, 1) := by decide +kernel
theorem dL_refused_287 : decode cL_refused 287 = .ok (.iconst 4, 1) := by decide +kernel
theorem dL_refused_288 : decode cL_refused 288 = .ok (.sipush 10001, 3) := by decide +kernel
theorem dL_refused_291 : decode cL_refused 291 = .ok (.invokevirtual 53, 3) := by decide +kernel
theorem dL_refused_294 : decode cL_refused 294 = .ok (.iconst (-1), 1) := by decide +kernel
theorem dL_refused_295 : decode cL_refused 295 = .ok (.if_icmp .ne 34, 3) := by decide +kernel
theorem dL_refused_298 : decode cL_refused 298 = .ok (.aload_n 0, 1) := by decide +kernel
theorem dL_refused_299 : decode cL_refused 299 = .ok (.iconst 4, 1) := by decide +kernel
theorem dL_refused_300 : decode cL_refused 300 = .ok (.iconst (-1), 1) := by decide +kernel
theorem dL_refused_301 : decode cL_refused 301 = .ok (.invokevirtual 53, 3) := by decide +kernel
theorem dL_refused_304 : decode cL_refused 304 = .ok (.iconst (-1), 1) := by decide +kernel
theorem dL_refused_305 : decode cL_refused 305 = .ok (.if_icmp .ne 24, 3) := by decide +kernel
theorem dL_refused_308 : decode cL_refused 308 = .ok (.aload_n 0, 1) := by decide +kernel
theorem dL_refused_309 : decode cL_refused 309 = .ok (.iconst 5, 1) := by decide +kernel
theorem dL_refused_310 : decode cL_refused 310 = .ok (.bipush 51, 2) := by decide +kernel
theorem dL_refused_312 : decode cL_refused 312 = .ok (.invokevirtual 53, 3) := by decide +kernel
theorem dL_refused_315 : decode cL_refused 315 = .ok (.iconst (-1), 1) := by decide +kernel
theorem dL_refused_316 : decode cL_refused 316 = .ok (.if_icmp .ne 13, 3) := by decide +kernel
theorem dL_refused_319 : decode cL_refused 319 = .ok (.aload_n 0, 1) := by decide +kernel
theorem dL_refused_320 : decode cL_refused 320 = .ok (.iconst 5, 1) := by decide +kernel
theorem dL_refused_321 : decode cL_refused 321 = .ok (.iconst (-1), 1) := by decide +kernel
theorem dL_refused_322 : decode cL_refused 322 = .ok (.invokevirtual 53, 3) := by decide +kernel
theorem dL_refused_325 : decode cL_refused 325 = .ok (.iconst (-1), 1) := by decide +kernel
theorem dL_refused_326 : decode cL_refused 326 = .ok (.if_icmp .eq 5, 3) := by decide +kernel
theorem dL_refused_329 : decode cL_refused 329 = .ok (.iconst 0, 1) := by decide +kernel
theorem dL_refused_330 : decode cL_refused 330 = .ok (.ireturn, 1) := by decide +kernel
theorem dL_refused_331 : decode cL_refused 331 = .ok (.aload_n 0, 1) := by decide +kernel
theorem dL_refused_332 : decode cL_refused 332 = .ok (.iconst (-1), 1) := by decide +kernel
theorem dL_refused_333 : decode cL_refused 333 = .ok (.invokevirtual 13, 3) := by decide +kernel
theorem dL_refused_336 : decode cL_refused 336 = .ok (.ldc2_w 56, 3) := by decide +kernel
theorem dL_refused_339 : decode cL_refused 339 = .ok (.lcmp, 1) := by decide +kernel
theorem dL_refused_340 : decode cL_refused 340 = .ok (.ifCond .ne 161, 3) := by decide +kernel
theorem dL_refused_343 : decode cL_refused 343 = .ok (.aload_n 0, 1) := by decide +kernel
theorem dL_refused_344 : decode cL_refused 344 = .ok (.bipush 7, 2) := by decide +kernel
theorem dL_refused_346 : decode cL_refused 346 = .ok (.invokevirtual 13, 3) := by decide +kernel
theorem dL_refused_349 : decode cL_refused 349 = .ok (.ldc2_w 56, 3) := by decide +kernel
theorem dL_refused_352 : decode cL_refused 352 = .ok (.lcmp, 1) := by decide +kernel
theorem dL_refused_353 : decode cL_refused 353 = .ok (.ifCond .ne 148, 3) := by decide +kernel
theorem dL_refused_356 : decode cL_refused 356 = .ok (.aload_n 0, 1) := by decide +kernel
theorem dL_refused_357 : decode cL_refused 357 = .ok (.bipush 16, 2) := by decide +kernel
theorem dL_refused_359 : decode cL_refused 359 = .ok (.invokevirtual 13, 3) := by decide +kernel
theorem dL_refused_362 : decode cL_refused 362 = .ok (.ldc2_w 56, 3) := by decide +kernel
theorem dL_refused_365 : decode cL_refused 365 = .ok (.lcmp, 1) := by decide +kernel
theorem dL_refused_366 : decode cL_refused 366 = .ok (.ifCond .ne 135, 3) := by decide +kernel
theorem dL_refused_369 : decode cL_refused 369 = .ok (.aload_n 0, 1) := by decide +kernel
theorem dL_refused_370 : decode cL_refused 370 = .ok (.bipush 19, 2) := by decide +kernel
theorem dL_refused_372 : decode cL_refused 372 = .ok (.invokevirtual 13, 3) := by decide +kernel
theorem dL_refused_375 : decode cL_refused 375 = .ok (.ldc2_w 56, 3) := by decide +kernel
theorem dL_refused_378 : decode cL_refused 378 = .ok (.lcmp, 1) := by decide +kernel
theorem dL_refused_379 : decode cL_refused 379 = .ok (.ifCond .ne 122, 3) := by decide +kernel
theorem dL_refused_382 : decode cL_refused 382 = .ok (.aload_n 0, 1) := by decide +kernel
theorem dL_refused_383 : decode cL_refused 383 = .ok (.bipush 25, 2) := by decide +kernel
theorem dL_refused_385 : decode cL_refused 385 = .ok (.invokevirtual 13, 3) := by decide +kernel
theorem dL_refused_388 : decode cL_refused 388 = .ok (.ldc2_w 56, 3) := by decide +kernel
theorem dL_refused_391 : decode cL_refused 391 = .ok (.lcmp, 1) := by decide +kernel
theorem dL_refused_392 : decode cL_refused 392 = .ok (.ifCond .ne 109, 3) := by decide +kernel
theorem dL_refused_395 : decode cL_refused 395 = .ok (.aload_n 0, 1) := by decide +kernel
theorem dL_refused_396 : decode cL_refused 396 = .ok (.iconst (-1), 1) := by decide +kernel
theorem dL_refused_397 : decode cL_refused 397 = .ok (.iconst 0, 1) := by decide +kernel
theorem dL_refused_398 : decode cL_refused 398 = .ok (.sipush 1000, 3) := by decide +kernel
theorem dL_refused_401 : decode cL_refused 401 = .ok (.invokevirtual 58, 3) := by decide +kernel
theorem dL_refused_404 : decode cL_refused 404 = .ok (.iconst (-1), 1) := by decide +kernel
theorem dL_refused_405 : decode cL_refused 405 = .ok (.if_icmp .ne 96, 3) := by decide +kernel
theorem dL_refused_408 : decode cL_refused 408 = .ok (.aload_n 0, 1) := by decide +kernel
theorem dL_refused_409 : decode cL_refused 409 = .ok (.sipush 20001, 3) := by decide +kernel
theorem dL_refused_412 : decode cL_refused 412 = .ok (.iconst 0, 1) := by decide +kernel
theorem dL_refused_413 : decode cL_refused 413 = .ok (.sipush 1000, 3) := by decide +kernel
theorem dL_refused_416 : decode cL_refused 416 = .ok (.invokevirtual 58, 3) := by decide +kernel
theorem dL_refused_419 : decode cL_refused 419 = .ok (.iconst (-1), 1) := by decide +kernel
theorem dL_refused_420 : decode cL_refused 420 = .ok (.if_icmp .ne 81, 3) := by decide +kernel
theorem dL_refused_423 : decode cL_refused 423 = .ok (.aload_n 0, 1) := by decide +kernel
theorem dL_refused_424 : decode cL_refused 424 = .ok (.iconst 0, 1) := by decide +kernel
theorem dL_refused_425 : decode cL_refused 425 = .ok (.sipush 20001, 3) := by decide +kernel
theorem dL_refused_428 : decode cL_refused 428 = .ok (.sipush 1000, 3) := by decide +kernel
theorem dL_refused_431 : decode cL_refused 431 = .ok (.invokevirtual 58, 3) := by decide +kernel
theorem dL_refused_434 : decode cL_refused 434 = .ok (.iconst (-1), 1) := by decide +kernel
theorem dL_refused_435 : decode cL_refused 435 = .ok (.if_icmp .ne 66, 3) := by decide +kernel
theorem dL_refused_438 : decode cL_refused 438 = .ok (.aload_n 0, 1) := by decide +kernel
theorem dL_refused_439 : decode cL_refused 439 = .ok (.iconst 0, 1) := by decide +kernel
theorem dL_refused_440 : decode cL_refused 440 = .ok (.iconst 0, 1) := by decide +kernel
theorem dL_refused_441 : decode cL_refused 441 = .ok (.sipush 999, 3) := by decide +kernel
theorem dL_refused_444 : decode cL_refused 444 = .ok (.invokevirtual 58, 3) := by decide +kernel
theorem dL_refused_447 : decode cL_refused 447 = .ok (.iconst (-1), 1) := by decide +kernel
theorem dL_refused_448 : decode cL_refused 448 = .ok (.if_icmp .ne 53, 3) := by decide +kernel
theorem dL_refused_451 : decode cL_refused 451 = .ok (.aload_n 0, 1) := by decide +kernel
theorem dL_refused_452 : decode cL_refused 452 = .ok (.iconst 0, 1) := by decide +kernel
theorem dL_refused_453 : decode cL_refused 453 = .ok (.iconst 0, 1) := by decide +kernel
theorem dL_refused_454 : decode cL_refused 454 = .ok (.ldc 61, 2) := by decide +kernel
theorem dL_refused_456 : decode cL_refused 456 = .ok (.invokevirtual 58, 3) := by decide +kernel
theorem dL_refused_459 : decode cL_refused 459 = .ok (.iconst (-1), 1) := by decide +kernel
theorem dL_refused_460 : decode cL_refused 460 = .ok (.if_icmp .ne 41, 3) := by decide +kernel
theorem dL_refused_463 : decode cL_refused 463 = .ok (.aload_n 0, 1) := by decide +kernel
theorem dL_refused_464 : decode cL_refused 464 = .ok (.bipush 31, 2) := by decide +kernel
theorem dL_refused_466 : decode cL_refused 466 = .ok (.invokevirtual 62, 3) := by decide +kernel
theorem dL_refused_469 : decode cL_refused 469 = .ok (.iconst (-1), 1) := by decide +kernel
theorem dL_refused_470 : decode cL_refused 470 = .ok (.if_icmp .ne 31, 3) := by decide +kernel
theorem dL_refused_473 : decode cL_refused 473 = .ok (.aload_n 0, 1) := by decide +kernel
theorem dL_refused_474 : decode cL_refused 474 = .ok (.bipush 127, 2) := by decide +kernel
theorem dL_refused_476 : decode cL_refused 476 = .ok (.invokevirtual 62, 3) := by decide +kernel
theorem dL_refused_479 : decode cL_refused 479 = .ok (.iconst (-1), 1) := by decide +kernel
theorem dL_refused_480 : decode cL_refused 480 = .ok (.if_icmp .ne 21, 3) := by decide +kernel
theorem dL_refused_483 : decode cL_refused 483 = .ok (.aload_n 0, 1) := by decide +kernel
theorem dL_refused_484 : decode cL_refused 484 = .ok (.iconst (-1), 1) := by decide +kernel
theorem dL_refused_485 : decode cL_refused 485 = .ok (.invokevirtual 65, 3) := by decide +kernel
theorem dL_refused_488 : decode cL_refused 488 = .ok (.iconst (-1), 1) := by decide +kernel
theorem dL_refused_489 : decode cL_refused 489 = .ok (.if_icmp .ne 12, 3) := by decide +kernel
theorem dL_refused_492 : decode cL_refused 492 = .ok (.aload_n 0, 1) := by decide +kernel
theorem dL_refused_493 : decode cL_refused 493 = .ok (.iconst 2, 1) := by decide +kernel
theorem dL_refused_494 : decode cL_refused 494 = .ok (.invokevirtual 65, 3) := by decide +kernel
theorem dL_refused_497 : decode cL_refused 497 = .ok (.iconst (-1), 1) := by decide +kernel
theorem dL_refused_498 : decode cL_refused 498 = .ok (.if_icmp .eq 5, 3) := by decide +kernel
theorem dL_refused_501 : decode cL_refused 501 = .ok (.iconst 0, 1) := by decide +kernel
theorem dL_refused_502 : decode cL_refused 502 = .ok (.ireturn, 1) := by decide +kernel
theorem dL_refused_503 : decode cL_refused 503 = .ok (.iconst 0, 1) := by decide +kernel
theorem dL_refused_504 : decode cL_refused 504 = .ok (.istore 5, 2) := by decide +kernel
theorem dL_refused_506 : decode cL_refused 506 = .ok (.iload 5, 2) := by decide +kernel
theorem dL_refused_508 : decode cL_refused 508 = .ok (.iconst 2, 1) := by decide +kernel
theorem dL_refused_509 : decode cL_refused 509 = .ok (.if_icmp .ge 142, 3) := by decide +kernel
theorem dL_refused_512 : decode cL_refused 512 = .ok (.iload 5, 2) := by decide +kernel
theorem dL_refused_514 : decode cL_refused 514 = .ok (.ifCond .ne 8, 3) := by decide +kernel
theorem dL_refused_517 : decode cL_refused 517 = .ok (.iload 4, 2) := by decide +kernel
theorem dL_refused_519 : decode cL_refused 519 = .ok (.goto 4, 3) := by decide +kernel
theorem dL_refused_522 : decode cL_refused 522 = .ok (.iconst (-1), 1) := by decide +kernel
theorem dL_refused_523 : decode cL_refused 523 = .ok (.istore 6, 2) := by decide +kernel
theorem dL_refused_525 : decode cL_refused 525 = .ok (.aload_n 0, 1) := by decide +kernel
theorem dL_refused_526 : decode cL_refused 526 = .ok (.iload 6, 2) := by decide +kernel
theorem dL_refused_528 : decode cL_refused 528 = .ok (.iconst 0, 1) := by decide +kernel
theorem dL_refused_529 : decode cL_refused 529 = .ok (.invokevirtual 31, 3) := by decide +kernel
theorem dL_refused_532 : decode cL_refused 532 = .ok (.iconst (-1), 1) := by decide +kernel
theorem dL_refused_533 : decode cL_refused 533 = .ok (.if_icmp .ne 110, 3) := by decide +kernel
theorem dL_refused_536 : decode cL_refused 536 = .ok (.aload_n 0, 1) := by decide +kernel
theorem dL_refused_537 : decode cL_refused 537 = .ok (.iload 6, 2) := by decide +kernel
theorem dL_refused_539 : decode cL_refused 539 = .ok (.iconst 0, 1) := by decide +kernel
theorem dL_refused_540 : decode cL_refused 540 = .ok (.iconst 0, 1) := by decide +kernel
theorem dL_refused_541 : decode cL_refused 541 = .ok (.invokevirtual 34, 3) := by decide +kernel
theorem dL_refused_544 : decode cL_refused 544 = .ok (.iconst (-1), 1) := by decide +kernel
theorem dL_refused_545 : decode cL_refused 545 = .ok (.if_icmp .ne 98, 3) := by decide +kernel
theorem dL_refused_548 : decode cL_refused 548 = .ok (.aload_n 0, 1) := by decide +kernel
theorem dL_refused_549 : decode cL_refused 549 = .ok (.iload 6, 2) := by decide +kernel
theorem dL_refused_551 : decode cL_refused 551 = .ok (.bipush 100, 2) := by decide +kernel
theorem dL_refused_553 : decode cL_refused 553 = .ok (.invokevirtual 68, 3) := by decide +kernel
theorem dL_refused_556 : decode cL_refused 556 = .ok (.iconst (-1), 1) := by decide +kernel
theorem dL_refused_557 : decode cL_refused 557 = .ok (.if_icmp .ne 86, 3) := by decide +kernel
theorem dL_refused_560 : decode cL_refused 560 = .ok (.aload_n 0, 1) := by decide +kernel
theorem dL_refused_561 : decode cL_refused 561 = .ok (.iload 6, 2) := by decide +kernel
theorem dL_refused_563 : decode cL_refused 563 = .ok (.bipush 100, 2) := by decide +kernel
theorem dL_refused_565 : decode cL_refused 565 = .ok (.iconst 0, 1) := by decide +kernel
theorem dL_refused_566 : decode cL_refused 566 = .ok (.iconst 1, 1) := by decide +kernel
theorem dL_refused_567 : decode cL_refused 567 = .ok (.invokevirtual 71, 3) := by decide +kernel
theorem dL_refused_570 : decode cL_refused 570 = .ok (.iconst (-1), 1) := by decide +kernel
theorem dL_refused_571 : decode cL_refused 571 = .ok (.if_icmp .ne 72, 3) := by decide +kernel
theorem dL_refused_574 : decode cL_refused 574 = .ok (.aload_n 0, 1) := by decide +kernel
theorem dL_refused_575 : decode cL_refused 575 = .ok (.iload 6, 2) := by decide +kernel
theorem dL_refused_577 : decode cL_refused 577 = .ok (.bipush 100, 2) := by decide +kernel
theorem dL_refused_579 : decode cL_refused 579 = .ok (.invokevirtual 75, 3) := by decide +kernel
theorem dL_refused_582 : decode cL_refused 582 = .ok (.iconst (-1), 1) := by decide +kernel
theorem dL_refused_583 : decode cL_refused 583 = .ok (.if_icmp .ne 60, 3) := by decide +kernel
theorem dL_refused_586 : decode cL_refused 586 = .ok (.aload_n 0, 1) := by decide +kernel
theorem dL_refused_587 : decode cL_refused 587 = .ok (.iload 6, 2) := by decide +kernel
theorem dL_refused_589 : decode cL_refused 589 = .ok (.iconst 0, 1) := by decide +kernel
theorem dL_refused_590 : decode cL_refused 590 = .ok (.invokevirtual 78, 3) := by decide +kernel
theorem dL_refused_593 : decode cL_refused 593 = .ok (.iconst (-1), 1) := by decide +kernel
theorem dL_refused_594 : decode cL_refused 594 = .ok (.if_icmp .ne 49, 3) := by decide +kernel
theorem dL_refused_597 : decode cL_refused 597 = .ok (.aload_n 0, 1) := by decide +kernel
theorem dL_refused_598 : decode cL_refused 598 = .ok (.iload 6, 2) := by decide +kernel
theorem dL_refused_600 : decode cL_refused 600 = .ok (.bipush 100, 2) := by decide +kernel
theorem dL_refused_602 : decode cL_refused 602 = .ok (.iconst 0, 1) := by decide +kernel
theorem dL_refused_603 : decode cL_refused 603 = .ok (.invokevirtual 81, 3) := by decide +kernel
theorem dL_refused_606 : decode cL_refused 606 = .ok (.iconst (-1), 1) := by decide +kernel
theorem dL_refused_607 : decode cL_refused 607 = .ok (.if_icmp .ne 36, 3) := by decide +kernel
theorem dL_refused_610 : decode cL_refused 610 = .ok (.aload_n 0, 1) := by decide +kernel
theorem dL_refused_611 : decode cL_refused 611 = .ok (.iload 6, 2) := by decide +kernel
theorem dL_refused_613 : decode cL_refused 613 = .ok (.iconst 1, 1) := by decide +kernel
theorem dL_refused_614 : decode cL_refused 614 = .ok (.invokevirtual 84, 3) := by decide +kernel
theorem dL_refused_617 : decode cL_refused 617 = .ok (.iconst (-1), 1) := by decide +kernel
theorem dL_refused_618 : decode cL_refused 618 = .ok (.if_icmp .ne 25, 3) := by decide +kernel
theorem dL_refused_621 : decode cL_refused 621 = .ok (.aload_n 0, 1) := by decide +kernel
theorem dL_refused_622 : decode cL_refused 622 = .ok (.iload 6, 2) := by decide +kernel
theorem dL_refused_624 : decode cL_refused 624 = .ok (.invokevirtual 38, 3) := by decide +kernel
theorem dL_refused_627 : decode cL_refused 627 = .ok (.iconst (-1), 1) := by decide +kernel
theorem dL_refused_628 : decode cL_refused 628 = .ok (.if_icmp .ne 15, 3) := by decide +kernel
theorem dL_refused_631 : decode cL_refused 631 = .ok (.aload_n 0, 1) := by decide +kernel
theorem dL_refused_632 : decode cL_refused 632 = .ok (.iload 6, 2) := by decide +kernel
theorem dL_refused_634 : decode cL_refused 634 = .ok (.iconst 0, 1) := by decide +kernel
theorem dL_refused_635 : decode cL_refused 635 = .ok (.iconst 0, 1) := by decide +kernel
theorem dL_refused_636 : decode cL_refused 636 = .ok (.invokevirtual 87, 3) := by decide +kernel
theorem dL_refused_639 : decode cL_refused 639 = .ok (.iconst (-1), 1) := by decide +kernel
theorem dL_refused_640 : decode cL_refused 640 = .ok (.if_icmp .eq 5, 3) := by decide +kernel
theorem dL_refused_643 : decode cL_refused 643 = .ok (.iconst 0, 1) := by decide +kernel
theorem dL_refused_644 : decode cL_refused 644 = .ok (.ireturn, 1) := by decide +kernel
theorem dL_refused_645 : decode cL_refused 645 = .ok (.iinc 5 1, 3) := by decide +kernel
theorem dL_refused_648 : decode cL_refused 648 = .ok (.goto (-142), 3) := by decide +kernel
theorem dL_refused_651 : decode cL_refused 651 = .ok (.iload 4, 2) := by decide +kernel
theorem dL_refused_653 : decode cL_refused 653 = .ok (.ifCond .le 305, 3) := by decide +kernel
theorem dL_refused_656 : decode cL_refused 656 = .ok (.aload_n 0, 1) := by decide +kernel
theorem dL_refused_657 : decode cL_refused 657 = .ok (.iconst 0, 1) := by decide +kernel
theorem dL_refused_658 : decode cL_refused 658 = .ok (.bipush 13, 2) := by decide +kernel
theorem dL_refused_660 : decode cL_refused 660 = .ok (.invokevirtual 31, 3) := by decide +kernel
theorem dL_refused_663 : decode cL_refused 663 = .ok (.iconst (-1), 1) := by decide +kernel
theorem dL_refused_664 : decode cL_refused 664 = .ok (.if_icmp .ne 292, 3) := by decide +kernel
theorem dL_refused_667 : decode cL_refused 667 = .ok (.aload_n 0, 1) := by decide +kernel
theorem dL_refused_668 : decode cL_refused 668 = .ok (.iconst 0, 1) := by decide +kernel
theorem dL_refused_669 : decode cL_refused 669 = .ok (.iconst (-1), 1) := by decide +kernel
theorem dL_refused_670 : decode cL_refused 670 = .ok (.invokevirtual 31, 3) := by decide +kernel
theorem dL_refused_673 : decode cL_refused 673 = .ok (.iconst (-1), 1) := by decide +kernel
theorem dL_refused_674 : decode cL_refused 674 = .ok (.if_icmp .ne 282, 3) := by decide +kernel
theorem dL_refused_677 : decode cL_refused 677 = .ok (.aload_n 0, 1) := by decide +kernel
theorem dL_refused_678 : decode cL_refused 678 = .ok (.iconst 0, 1) := by decide +kernel
theorem dL_refused_679 : decode cL_refused 679 = .ok (.iconst (-1), 1) := by decide +kernel
theorem dL_refused_680 : decode cL_refused 680 = .ok (.iconst 0, 1) := by decide +kernel
theorem dL_refused_681 : decode cL_refused 681 = .ok (.invokevirtual 34, 3) := by decide +kernel
theorem dL_refused_684 : decode cL_refused 684 = .ok (.iconst (-1), 1) := by decide +kernel
theorem dL_refused_685 : decode cL_refused 685 = .ok (.if_icmp .ne 271, 3) := by decide +kernel
theorem dL_refused_688 : decode cL_refused 688 = .ok (.aload_n 0, 1) := by decide +kernel
theorem dL_refused_689 : decode cL_refused 689 = .ok (.iconst 0, 1) := by decide +kernel
theorem dL_refused_690 : decode cL_refused 690 = .ok (.bipush 99, 2) := by decide +kernel
theorem dL_refused_692 : decode cL_refused 692 = .ok (.iconst 2, 1) := by decide +kernel
theorem dL_refused_693 : decode cL_refused 693 = .ok (.invokevirtual 34, 3) := by decide +kernel
theorem dL_refused_696 : decode cL_refused 696 = .ok (.iconst (-1), 1) := by decide +kernel
theorem dL_refused_697 : decode cL_refused 697 = .ok (.if_icmp .ne 259, 3) := by decide +kernel
theorem dL_refused_700 : decode cL_refused 700 = .ok (.aload_n 0, 1) := by decide +kernel
theorem dL_refused_701 : decode cL_refused 701 = .ok (.iconst 0, 1) := by decide +kernel
theorem dL_refused_702 : decode cL_refused 702 = .ok (.bipush 40, 2) := by decide +kernel
theorem dL_refused_704 : decode cL_refused 704 = .ok (.iconst 0, 1) := by decide +kernel
theorem dL_refused_705 : decode cL_refused 705 = .ok (.invokevirtual 34, 3) := by decide +kernel
theorem dL_refused_708 : decode cL_refused 708 = .ok (.bipush (-4), 2) := by decide +kernel
theorem dL_refused_710 : decode cL_refused 710 = .ok (.if_icmp .ne 246, 3) := by decide +kernel
theorem dL_refused_713 : decode cL_refused 713 = .ok (.aload_n 0, 1) := by decide +kernel
theorem dL_refused_714 : decode cL_refused 714 = .ok (.iconst 0, 1) := by decide +kernel
theorem dL_refused_715 : decode cL_refused 715 = .ok (.bipush 99, 2) := by decide +kernel
theorem dL_refused_717 : decode cL_refused 717 = .ok (.invokevirtual 68, 3) := by decide +kernel
theorem dL_refused_720 : decode cL_refused 720 = .ok (.iconst (-1), 1) := by decide +kernel
theorem dL_refused_721 : decode cL_refused 721 = .ok (.if_icmp .ne 235, 3) := by decide +kernel
theorem dL_refused_724 : decode cL_refused 724 = .ok (.aload_n 0, 1) := by decide +kernel
theorem dL_refused_725 : decode cL_refused 725 = .ok (.iconst 0, 1) := by decide +kernel
theorem dL_refused_726 : decode cL_refused 726 = .ok (.sipush 3001, 3) := by decide +kernel
theorem dL_refused_729 : decode cL_refused 729 = .ok (.invokevirtual 68, 3) := by decide +kernel
theorem dL_refused_732 : decode cL_refused 732 = .ok (.iconst (-1), 1) := by decide +kernel
theorem dL_refused_733 : decode cL_refused 733 = .ok (.if_icmp .ne 223, 3) := by decide +kernel
theorem dL_refused_736 : decode cL_refused 736 = .ok (.aload_n 0, 1) := by decide +kernel
theorem dL_refused_737 : decode cL_refused 737 = .ok (.iconst 0, 1) := by decide +kernel
theorem dL_refused_738 : decode cL_refused 738 = .ok (.bipush 99, 2) := by decide +kernel
theorem dL_refused_740 : decode cL_refused 740 = .ok (.iconst 0, 1) := by decide +kernel
theorem dL_refused_741 : decode cL_refused 741 = .ok (.iconst 1, 1) := by decide +kernel
theorem dL_refused_742 : decode cL_refused 742 = .ok (.invokevirtual 71, 3) := by decide +kernel
theorem dL_refused_745 : decode cL_refused 745 = .ok (.iconst (-1), 1) := by decide +kernel
theorem dL_refused_746 : decode cL_refused 746 = .ok (.if_icmp .ne 210, 3) := by decide +kernel
theorem dL_refused_749 : decode cL_refused 749 = .ok (.aload_n 0, 1) := by decide +kernel
theorem dL_refused_750 : decode cL_refused 750 = .ok (.iconst 0, 1) := by decide +kernel
theorem dL_refused_751 : decode cL_refused 751 = .ok (.bipush 100, 2) := by decide +kernel
theorem dL_refused_753 : decode cL_refused 753 = .ok (.sipush 501, 3) := by decide +kernel
theorem dL_refused_756 : decode cL_refused 756 = .ok (.iconst 1, 1) := by decide +kernel
theorem dL_refused_757 : decode cL_refused 757 = .ok (.invokevirtual 71, 3) := by decide +kernel
theorem dL_refused_760 : decode cL_refused 760 = .ok (.iconst (-1), 1) := by decide +kernel
theorem dL_refused_761 : decode cL_refused 761 = .ok (.if_icmp .ne 195, 3) := by decide +kernel
theorem dL_refused_764 : decode cL_refused 764 = .ok (.aload_n 0, 1) := by decide +kernel
theorem dL_refused_765 : decode cL_refused 765 = .ok (.iconst 0, 1) := by decide +kernel
theorem dL_refused_766 : decode cL_refused 766 = .ok (.bipush 100, 2) := by decide +kernel
theorem dL_refused_768 : decode cL_refused 768 = .ok (.iconst (-1), 1) := by decide +kernel
theorem dL_refused_769 : decode cL_refused 769 = .ok (.iconst 1, 1) := by decide +kernel
theorem dL_refused_770 : decode cL_refused 770 = .ok (.invokevirtual 71, 3) := by decide +kernel
theorem dL_refused_773 : decode cL_refused 773 = .ok (.iconst (-1), 1) := by decide +kernel
theorem dL_refused_774 : decode cL_refused 774 = .ok (.if_icmp .ne 182, 3) := by decide +kernel
theorem dL_refused_777 : decode cL_refused 777 = .ok (.aload_n 0, 1) := by decide +kernel
theorem dL_refused_778 : decode cL_refused 778 = .ok (.iconst 0, 1) := by decide +kernel
theorem dL_refused_779 : decode cL_refused 779 = .ok (.bipush 100, 2) := by decide +kernel
theorem dL_refused_781 : decode cL_refused 781 = .ok (.iconst 0, 1) := by decide +kernel
theorem dL_refused_782 : decode cL_refused 782 = .ok (.iconst 0, 1) := by decide +kernel
theorem dL_refused_783 : decode cL_refused 783 = .ok (.invokevirtual 71, 3) := by decide +kernel
theorem dL_refused_786 : decode cL_refused 786 = .ok (.iconst (-1), 1) := by decide +kernel
theorem dL_refused_787 : decode cL_refused 787 = .ok (.if_icmp .ne 169, 3) := by decide +kernel
theorem dL_refused_790 : decode cL_refused 790 = .ok (.aload_n 0, 1) := by decide +kernel
theorem dL_refused_791 : decode cL_refused 791 = .ok (.iconst 0, 1) := by decide +kernel
theorem dL_refused_792 : decode cL_refused 792 = .ok (.bipush 100, 2) := by decide +kernel
theorem dL_refused_794 : decode cL_refused 794 = .ok (.iconst 0, 1) := by decide +kernel
theorem dL_refused_795 : decode cL_refused 795 = .ok (.bipush 101, 2) := by decide +kernel
theorem dL_refused_797 : decode cL_refused 797 = .ok (.invokevirtual 71, 3) := by decide +kernel
theorem dL_refused_800 : decode cL_refused 800 = .ok (.iconst (-1), 1) := by decide +kernel
theorem dL_refused_801 : decode cL_refused 801 = .ok (.if_icmp .ne 155, 3) := by decide +kernel
theorem dL_refused_804 : decode cL_refused 804 = .ok (.aload_n 0, 1) := by decide +kernel
theorem dL_refused_805 : decode cL_refused 805 = .ok (.iconst 0, 1) := by decide +kernel
theorem dL_refused_806 : decode cL_refused 806 = .ok (.sipush 3001, 3) := by decide +kernel
theorem dL_refused_809 : decode cL_refused 809 = .ok (.invokevirtual 75, 3) := by decide +kernel
theorem dL_refused_812 : decode cL_refused 812 = .ok (.iconst (-1), 1) := by decide +kernel
theorem dL_refused_813 : decode cL_refused 813 = .ok (.if_icmp .ne 143, 3) := by decide +kernel
theorem dL_refused_816 : decode cL_refused 816 = .ok (.aload_n 0, 1) := by decide +kernel
theorem dL_refused_817 : decode cL_refused 817 = .ok (.iconst 0, 1) := by decide +kernel
theorem dL_refused_818 : decode cL_refused 818 = .ok (.sipush 501, 3) := by decide +kernel
theorem dL_refused_821 : decode cL_refused 821 = .ok (.invokevirtual 78, 3) := by decide +kernel
theorem dL_refused_824 : decode cL_refused 824 = .ok (.iconst (-1), 1) := by decide +kernel
theorem dL_refused_825 : decode cL_refused 825 = .ok (.if_icmp .ne 131, 3) := by decide +kernel
theorem dL_refused_828 : decode cL_refused 828 = .ok (.aload_n 0, 1) := by decide +kernel
theorem dL_refused_829 : decode cL_refused 829 = .ok (.iconst 0, 1) := by decide +kernel
theorem dL_refused_830 : decode cL_refused 830 = .ok (.iconst (-1), 1) := by decide +kernel
theorem dL_refused_831 : decode cL_refused 831 = .ok (.invokevirtual 78, 3) := by decide +kernel
theorem dL_refused_834 : decode cL_refused 834 = .ok (.iconst (-1), 1) := by decide +kernel
theorem dL_refused_835 : decode cL_refused 835 = .ok (.if_icmp .ne 121, 3) := by decide +kernel
theorem dL_refused_838 : decode cL_refused 838 = .ok (.aload_n 0, 1) := by decide +kernel
theorem dL_refused_839 : decode cL_refused 839 = .ok (.iconst 0, 1) := by decide +kernel
theorem dL_refused_840 : decode cL_refused 840 = .ok (.bipush 99, 2) := by decide +kernel
theorem dL_refused_842 : decode cL_refused 842 = .ok (.iconst 0, 1) := by decide +kernel
theorem dL_refused_843 : decode cL_refused 843 = .ok (.invokevirtual 81, 3) := by decide +kernel
theorem dL_refused_846 : decode cL_refused 846 = .ok (.iconst (-1), 1) := by decide +kernel
theorem dL_refused_847 : decode cL_refused 847 = .ok (.if_icmp .ne 109, 3) := by decide +kernel
theorem dL_refused_850 : decode cL_refused 850 = .ok (.aload_n 0, 1) := by decide +kernel
theorem dL_refused_851 : decode cL_refused 851 = .ok (.iconst 0, 1) := by decide +kernel
theorem dL_refused_852 : decode cL_refused 852 = .ok (.bipush 100, 2) := by decide +kernel
theorem dL_refused_854 : decode cL_refused 854 = .ok (.ldc 61, 2) := by decide +kernel
theorem dL_refused_856 : decode cL_refused 856 = .ok (.invokevirtual 81, 3) := by decide +kernel
theorem dL_refused_859 : decode cL_refused 859 = .ok (.iconst (-1), 1) := by decide +kernel
theorem dL_refused_860 : decode cL_refused 860 = .ok (.if_icmp .ne 96, 3) := by decide +kernel
theorem dL_refused_863 : decode cL_refused 863 = .ok (.aload_n 0, 1) := by decide +kernel
theorem dL_refused_864 : decode cL_refused 864 = .ok (.iconst 0, 1) := by decide +kernel
theorem dL_refused_865 : decode cL_refused 865 = .ok (.bipush 100, 2) := by decide +kernel
theorem dL_refused_867 : decode cL_refused 867 = .ok (.iconst (-1), 1) := by decide +kernel
theorem dL_refused_868 : decode cL_refused 868 = .ok (.invokevirtual 81, 3) := by decide +kernel
theorem dL_refused_871 : decode cL_refused 871 = .ok (.iconst (-1), 1) := by decide +kernel
theorem dL_refused_872 : decode cL_refused 872 = .ok (.if_icmp .ne 84, 3) := by decide +kernel
theorem dL_refused_875 : decode cL_refused 875 = .ok (.aload_n 0, 1) := by decide +kernel
theorem dL_refused_876 : decode cL_refused 876 = .ok (.iconst 0, 1) := by decide +kernel
theorem dL_refused_877 : decode cL_refused 877 = .ok (.iconst 0, 1) := by decide +kernel
theorem dL_refused_878 : decode cL_refused 878 = .ok (.invokevirtual 84, 3) := by decide +kernel
theorem dL_refused_881 : decode cL_refused 881 = .ok (.iconst (-1), 1) := by decide +kernel
theorem dL_refused_882 : decode cL_refused 882 = .ok (.if_icmp .ne 74, 3) := by decide +kernel
theorem dL_refused_885 : decode cL_refused 885 = .ok (.aload_n 0, 1) := by decide +kernel
theorem dL_refused_886 : decode cL_refused 886 = .ok (.iconst 0, 1) := by decide +kernel
theorem dL_refused_887 : decode cL_refused 887 = .ok (.ldc 90, 2) := by decide +kernel
theorem dL_refused_889 : decode cL_refused 889 = .ok (.invokevirtual 84, 3) := by decide +kernel
theorem dL_refused_892 : decode cL_refused 892 = .ok (.iconst (-1), 1) := by decide +kernel
theorem dL_refused_893 : decode cL_refused 893 = .ok (.if_icmp .ne 63, 3) := by decide +kernel
theorem dL_refused_896 : decode cL_refused 896 = .ok (.aload_n 0, 1) := by decide +kernel
theorem dL_refused_897 : decode cL_refused 897 = .ok (.iconst 0, 1) := by decide +kernel
theorem dL_refused_898 : decode cL_refused 898 = .ok (.iconst (-1), 1) := by decide +kernel
theorem dL_refused_899 : decode cL_refused 899 = .ok (.iconst 0, 1) := by decide +kernel
theorem dL_refused_900 : decode cL_refused 900 = .ok (.invokevirtual 87, 3) := by decide +kernel
theorem dL_refused_903 : decode cL_refused 903 = .ok (.iconst (-1), 1) := by decide +kernel
theorem dL_refused_904 : decode cL_refused 904 = .ok (.if_icmp .ne 52, 3) := by decide +kernel
theorem dL_refused_907 : decode cL_refused 907 = .ok (.aload_n 0, 1) := by decide +kernel
theorem dL_refused_908 : decode cL_refused 908 = .ok (.iconst 0, 1) := by decide +kernel
theorem dL_refused_909 : decode cL_refused 909 = .ok (.bipush 99, 2) := by decide +kernel
theorem dL_refused_911 : decode cL_refused 911 = .ok (.iconst 4, 1) := by decide +kernel
theorem dL_refused_912 : decode cL_refused 912 = .ok (.invokevirtual 87, 3) := by decide +kernel
theorem dL_refused_915 : decode cL_refused 915 = .ok (.iconst (-1), 1) := by decide +kernel
theorem dL_refused_916 : decode cL_refused 916 = .ok (.if_icmp .ne 40, 3) := by decide +kernel
theorem dL_refused_919 : decode cL_refused 919 = .ok (.aload_n 0, 1) := by decide +kernel
theorem dL_refused_920 : decode cL_refused 920 = .ok (.iconst 0, 1) := by decide +kernel
theorem dL_refused_921 : decode cL_refused 921 = .ok (.bipush 40, 2) := by decide +kernel
theorem dL_refused_923 : decode cL_refused 923 = .ok (.iconst 0, 1) := by decide +kernel
theorem dL_refused_924 : decode cL_refused 924 = .ok (.invokevirtual 87, 3) := by decide +kernel
theorem dL_refused_927 : decode cL_refused 927 = .ok (.bipush (-4), 2) := by decide +kernel
theorem dL_refused_929 : decode cL_refused 929 = .ok (.if_icmp .ne 27, 3) := by decide +kernel
theorem dL_refused_932 : decode cL_refused 932 = .ok (.aload_n 0, 1) := by decide +kernel
theorem dL_refused_933 : decode cL_refused 933 = .ok (.aload_n 0, 1) := by decide +kernel
theorem dL_refused_934 : decode cL_refused 934 = .ok (.iconst 0, 1) := by decide +kernel
theorem dL_refused_935 : decode cL_refused 935 = .ok (.iconst 0, 1) := by decide +kernel
theorem dL_refused_936 : decode cL_refused 936 = .ok (.invokevirtual 31, 3) := by decide +kernel
theorem dL_refused_939 : decode cL_refused 939 = .ok (.aload_n 0, 1) := by decide +kernel
theorem dL_refused_940 : decode cL_refused 940 = .ok (.iconst 0, 1) := by decide +kernel
theorem dL_refused_941 : decode cL_refused 941 = .ok (.iconst 1, 1) := by decide +kernel
theorem dL_refused_942 : decode cL_refused 942 = .ok (.invokevirtual 31, 3) := by decide +kernel
theorem dL_refused_945 : decode cL_refused 945 = .ok (.sipush 1000, 3) := by decide +kernel
theorem dL_refused_948 : decode cL_refused 948 = .ok (.invokevirtual 58, 3) := by decide +kernel
theorem dL_refused_951 : decode cL_refused 951 = .ok (.bipush (-2), 2) := by decide +kernel
theorem dL_refused_953 : decode cL_refused 953 = .ok (.if_icmp .eq 5, 3) := by decide +kernel
theorem dL_refused_956 : decode cL_refused 956 = .ok (.iconst 0, 1) := by decide +kernel
theorem dL_refused_957 : decode cL_refused 957 = .ok (.ireturn, 1) := by decide +kernel
theorem dL_refused_958 : decode cL_refused 958 = .ok (.aload_n 0, 1) := by decide +kernel
theorem dL_refused_959 : decode cL_refused 959 = .ok (.bipush 99, 2) := by decide +kernel
theorem dL_refused_961 : decode cL_refused 961 = .ok (.iconst 1, 1) := by decide +kernel
theorem dL_refused_962 : decode cL_refused 962 = .ok (.iconst 0, 1) := by decide +kernel
theorem dL_refused_963 : decode cL_refused 963 = .ok (.invokevirtual 91, 3) := by decide +kernel
theorem dL_refused_966 : decode cL_refused 966 = .ok (.iconst (-1), 1) := by decide +kernel
theorem dL_refused_967 : decode cL_refused 967 = .ok (.if_icmp .ne 105, 3) := by decide +kernel
theorem dL_refused_970 : decode cL_refused 970 = .ok (.aload_n 0, 1) := by decide +kernel
theorem dL_refused_971 : decode cL_refused 971 = .ok (.bipush 100, 2) := by decide +kernel
theorem dL_refused_973 : decode cL_refused 973 = .ok (.iconst 0, 1) := by decide +kernel
theorem dL_refused_974 : decode cL_refused 974 = .ok (.iconst 0, 1) := by decide +kernel
theorem dL_refused_975 : decode cL_refused 975 = .ok (.invokevirtual 91, 3) := by decide +kernel
theorem dL_refused_978 : decode cL_refused 978 = .ok (.iconst (-1), 1) := by decide +kernel
theorem dL_refused_979 : decode cL_refused 979 = .ok (.if_icmp .ne 93, 3) := by decide +kernel
theorem dL_refused_982 : decode cL_refused 982 = .ok (.aload_n 0, 1) := by decide +kernel
theorem dL_refused_983 : decode cL_refused 983 = .ok (.bipush 100, 2) := by decide +kernel
theorem dL_refused_985 : decode cL_refused 985 = .ok (.bipush 21, 2) := by decide +kernel
theorem dL_refused_987 : decode cL_refused 987 = .ok (.iconst 0, 1) := by decide +kernel
theorem dL_refused_988 : decode cL_refused 988 = .ok (.invokevirtual 91, 3) := by decide +kernel
theorem dL_refused_991 : decode cL_refused 991 = .ok (.iconst (-1), 1) := by decide +kernel
theorem dL_refused_992 : decode cL_refused 992 = .ok (.if_icmp .ne 80, 3) := by decide +kernel
theorem dL_refused_995 : decode cL_refused 995 = .ok (.aload_n 0, 1) := by decide +kernel
theorem dL_refused_996 : decode cL_refused 996 = .ok (.sipush 3001, 3) := by decide +kernel
theorem dL_refused_999 : decode cL_refused 999 = .ok (.iconst 1, 1) := by decide +kernel
theorem dL_refused_1000 : decode cL_refused 1000 = .ok (.iconst 0, 1) := by decide +kernel
theorem dL_refused_1001 : decode cL_refused 1001 = .ok (.invokevirtual 91, 3) := by decide +kernel
theorem dL_refused_1004 : decode cL_refused 1004 = .ok (.iconst (-1), 1) := by decide +kernel
theorem dL_refused_1005 : decode cL_refused 1005 = .ok (.if_icmp .ne 67, 3) := by decide +kernel
theorem dL_refused_1008 : decode cL_refused 1008 = .ok (.aload_n 0, 1) := by decide +kernel
theorem dL_refused_1009 : decode cL_refused 1009 = .ok (.bipush 100, 2) := by decide +kernel
theorem dL_refused_1011 : decode cL_refused 1011 = .ok (.iconst 1, 1) := by decide +kernel
theorem dL_refused_1012 : decode cL_refused 1012 = .ok (.iconst (-1), 1) := by decide +kernel
theorem dL_refused_1013 : decode cL_refused 1013 = .ok (.invokevirtual 91, 3) := by decide +kernel
theorem dL_refused_1016 : decode cL_refused 1016 = .ok (.iconst (-1), 1) := by decide +kernel
theorem dL_refused_1017 : decode cL_refused 1017 = .ok (.if_icmp .ne 55, 3) := by decide +kernel
theorem dL_refused_1020 : decode cL_refused 1020 = .ok (.aload_n 0, 1) := by decide +kernel
theorem dL_refused_1021 : decode cL_refused 1021 = .ok (.bipush 99, 2) := by decide +kernel
theorem dL_refused_1023 : decode cL_refused 1023 = .ok (.iconst 1, 1) := by decide +kernel
theorem dL_refused_1024 : decode cL_refused 1024 = .ok (.invokevirtual 94, 3) := by decide +kernel
theorem dL_refused_1027 : decode cL_refused 1027 = .ok (.iconst (-1), 1) := by decide +kernel
theorem dL_refused_1028 : decode cL_refused 1028 = .ok (.if_icmp .ne 44, 3) := by decide +kernel
theorem dL_refused_1031 : decode cL_refused 1031 = .ok (.aload_n 0, 1) := by decide +kernel
theorem dL_refused_1032 : decode cL_refused 1032 = .ok (.bipush 100, 2) := by decide +kernel
theorem dL_refused_1034 : decode cL_refused 1034 = .ok (.bipush 21, 2) := by decide +kernel
theorem dL_refused_1036 : decode cL_refused 1036 = .ok (.invokevirtual 94, 3) := by decide +kernel
theorem dL_refused_1039 : decode cL_refused 1039 = .ok (.iconst (-1), 1) := by decide +kernel
theorem dL_refused_1040 : decode cL_refused 1040 = .ok (.if_icmp .ne 32, 3) := by decide +kernel
theorem dL_refused_1043 : decode cL_refused 1043 = .ok (.aload_n 0, 1) := by decide +kernel
theorem dL_refused_1044 : decode cL_refused 1044 = .ok (.invokestatic 42, 3) := by decide +kernel
theorem dL_refused_1047 : decode cL_refused 1047 = .ok (.aload_n 0, 1) := by decide +kernel
theorem dL_refused_1048 : decode cL_refused 1048 = .ok (.iconst 4, 1) := by decide +kernel
theorem dL_refused_1049 : decode cL_refused 1049 = .ok (.invokevirtual 13, 3) := by decide +kernel
theorem dL_refused_1052 : decode cL_refused 1052 = .ok (.invokestatic 19, 3) := by decide +kernel
theorem dL_refused_1055 : decode cL_refused 1055 = .ok (.aload_n 0, 1) := by decide +kernel
theorem dL_refused_1056 : decode cL_refused 1056 = .ok (.iconst 5, 1) := by decide +kernel
theorem dL_refused_1057 : decode cL_refused 1057 = .ok (.invokevirtual 13, 3) := by decide +kernel
theorem dL_refused_1060 : decode cL_refused 1060 = .ok (.invokestatic 19, 3) := by decide +kernel
theorem dL_refused_1063 : decode cL_refused 1063 = .ok (.lload_n 1, 1) := by decide +kernel
theorem dL_refused_1064 : decode cL_refused 1064 = .ok (.lcmp, 1) := by decide +kernel
theorem dL_refused_1065 : decode cL_refused 1065 = .ok (.ifCond .ne 7, 3) := by decide +kernel
theorem dL_refused_1068 : decode cL_refused 1068 = .ok (.iconst 1, 1) := by decide +kernel
theorem dL_refused_1069 : decode cL_refused 1069 = .ok (.goto 4, 3) := by decide +kernel
theorem dL_refused_1072 : decode cL_refused 1072 = .ok (.iconst 0, 1) := by decide +kernel
theorem dL_refused_1073 : decode cL_refused 1073 = .ok (.ireturn, 1) := by decide +kernel
theorem dL_types_0 : decode cL_types 0 = .ok (.bipush 7, 2) := by decide +kernel
theorem dL_types_2 : decode cL_types 2 = .ok (.istore_n 3, 1) := by decide +kernel
theorem dL_types_3 : decode cL_types 3 = .ok (.iload_n 3, 1) := by decide +kernel
theorem dL_types_4 : decode cL_types 4 = .ok (.ifCond .lt 34, 3) := by decide +kernel
theorem dL_types_7 : decode cL_types 7 = .ok (.lload_n 1, 1) := by decide +kernel
theorem dL_types_8 : decode cL_types 8 = .ok (.bipush 8, 2) := by decide +kernel
theorem dL_types_10 : decode cL_types 10 = .ok (.iload_n 3, 1) := by decide +kernel
theorem dL_types_11 : decode cL_types 11 = .ok (.imul, 1) := by decide +kernel
theorem dL_types_12 : decode cL_types 12 = .ok (.lshr, 1) := by decide +kernel
theorem dL_types_13 : decode cL_types 13 = .ok (.ldc2_w 97, 3) := by decide +kernel
theorem dL_types_16 : decode cL_types 16 = .ok (.land, 1) := by decide +kernel
theorem dL_types_17 : decode cL_types 17 = .ok (.l2i, 1) := by decide +kernel
theorem dL_types_18 : decode cL_types 18 = .ok (.istore 4, 2) := by decide +kernel
theorem dL_types_20 : decode cL_types 20 = .ok (.iload 4, 2) := by decide +kernel
theorem dL_types_22 : decode cL_types 22 = .ok (.ifCond .eq 10, 3) := by decide +kernel
theorem dL_types_25 : decode cL_types 25 = .ok (.aload_n 0, 1) := by decide +kernel
theorem dL_types_26 : decode cL_types 26 = .ok (.iload 4, 2) := by decide +kernel
theorem dL_types_28 : decode cL_types 28 = .ok (.invokevirtual 62, 3) := by decide +kernel
theorem dL_types_31 : decode cL_types 31 = .ok (.pop, 1) := by decide +kernel
theorem dL_types_32 : decode cL_types 32 = .ok (.iinc 3 (-1), 3) := by decide +kernel
theorem dL_types_35 : decode cL_types 35 = .ok (.goto (-32), 3) := by decide +kernel
theorem dL_types_38 : decode cL_types 38 = .ok (.return_, 1) := by decide +kernel
theorem dL_isFault_0 : decode cL_isFault 0 = .ok (.aload_n 0, 1) := by decide +kernel
theorem dL_isFault_1 : decode cL_isFault 1 = .ok (.invokevirtual 99, 3) := by decide +kernel
theorem dL_isFault_4 : decode cL_isFault 4 = .ok (.pop, 1) := by decide +kernel
theorem dL_isFault_5 : decode cL_isFault 5 = .ok (.aload_n 0, 1) := by decide +kernel
theorem dL_isFault_6 : decode cL_isFault 6 = .ok (.lload_n 1, 1) := by decide +kernel
theorem dL_isFault_7 : decode cL_isFault 7 = .ok (.invokestatic 103, 3) := by decide +kernel
theorem dL_isFault_10 : decode cL_isFault 10 = .ok (.aload_n 0, 1) := by decide +kernel
theorem dL_isFault_11 : decode cL_isFault 11 = .ok (.lload_n 3, 1) := by decide +kernel
theorem dL_isFault_12 : decode cL_isFault 12 = .ok (.invokestatic 103, 3) := by decide +kernel
theorem dL_isFault_15 : decode cL_isFault 15 = .ok (.aload_n 0, 1) := by decide +kernel
theorem dL_isFault_16 : decode cL_isFault 16 = .ok (.lload 5, 2) := by decide +kernel
theorem dL_isFault_18 : decode cL_isFault 18 = .ok (.invokestatic 103, 3) := by decide +kernel
theorem dL_isFault_21 : decode cL_isFault 21 = .ok (.aload_n 0, 1) := by decide +kernel
theorem dL_isFault_22 : decode cL_isFault 22 = .ok (.iconst 0, 1) := by decide +kernel
theorem dL_isFault_23 : decode cL_isFault 23 = .ok (.invokevirtual 65, 3) := by decide +kernel
theorem dL_isFault_26 : decode cL_isFault 26 = .ok (.iload 7, 2) := by decide +kernel
theorem dL_isFault_28 : decode cL_isFault 28 = .ok (.if_icmp .ne 17, 3) := by decide +kernel
theorem dL_isFault_31 : decode cL_isFault 31 = .ok (.aload_n 0, 1) := by decide +kernel
theorem dL_isFault_32 : decode cL_isFault 32 = .ok (.iconst 1, 1) := by decide +kernel
theorem dL_isFault_33 : decode cL_isFault 33 = .ok (.invokevirtual 65, 3) := by decide +kernel
theorem dL_isFault_36 : decode cL_isFault 36 = .ok (.iload 8, 2) := by decide +kernel
theorem dL_isFault_38 : decode cL_isFault 38 = .ok (.if_icmp .ne 7, 3) := by decide +kernel
theorem dL_isFault_41 : decode cL_isFault 41 = .ok (.iconst 1, 1) := by decide +kernel
theorem dL_isFault_42 : decode cL_isFault 42 = .ok (.goto 4, 3) := by decide +kernel
theorem dL_isFault_45 : decode cL_isFault 45 = .ok (.iconst 0, 1) := by decide +kernel
theorem dL_isFault_46 : decode cL_isFault 46 = .ok (.ireturn, 1) := by decide +kernel
theorem dL_texts_0 : decode cL_texts 0 = .ok (.new 14, 3) := by decide +kernel
theorem dL_texts_3 : decode cL_texts 3 = .ok (.dup, 1) := by decide +kernel
theorem dL_texts_4 : decode cL_texts 4 = .ok (.invokespecial 107, 3) := by decide +kernel
theorem dL_texts_7 : decode cL_texts 7 = .ok (.astore_n 0, 1) := by decide +kernel
theorem dL_texts_8 : decode cL_texts 8 = .ok (.aload_n 0, 1) := by decide +kernel
theorem dL_texts_9 : decode cL_texts 9 = .ok (.ldc2_w 108, 3) := by decide +kernel
theorem dL_texts_12 : decode cL_texts 12 = .ok (.lconst 0, 1) := by decide +kernel
theorem dL_texts_13 : decode cL_texts 13 = .ok (.lconst 0, 1) := by decide +kernel
theorem dL_texts_14 : decode cL_texts 14 = .ok (.iconst 0, 1) := by decide +kernel
theorem dL_texts_15 : decode cL_texts 15 = .ok (.iconst 2, 1) := by decide +kernel
theorem dL_texts_16 : decode cL_texts 16 = .ok (.invokestatic 110, 3) := by decide +kernel
theorem dL_texts_19 : decode cL_texts 19 = .ok (.ifCond .eq 38, 3) := by decide +kernel
theorem dL_texts_22 : decode cL_texts 22 = .ok (.aload_n 0, 1) := by decide +kernel
theorem dL_texts_23 : decode cL_texts 23 = .ok (.invokevirtual 114, 3) := by decide +kernel
theorem dL_texts_26 : decode cL_texts 26 = .ok (.bipush (-2), 2) := by decide +kernel
theorem dL_texts_28 : decode cL_texts 28 = .ok (.if_icmp .ne 29, 3) := by decide +kernel
theorem dL_texts_31 : decode cL_texts 31 = .ok (.aload_n 0, 1) := by decide +kernel
theorem dL_texts_32 : decode cL_texts 32 = .ok (.iconst 0, 1) := by decide +kernel
theorem dL_texts_33 : decode cL_texts 33 = .ok (.iconst 0, 1) := by decide +kernel
theorem dL_texts_34 : decode cL_texts 34 = .ok (.sipush 1000, 3) := by decide +kernel
theorem dL_texts_37 : decode cL_texts 37 = .ok (.invokevirtual 58, 3) := by decide +kernel
theorem dL_texts_40 : decode cL_texts 40 = .ok (.ifCond .ne 17, 3) := by decide +kernel
theorem dL_texts_43 : decode cL_texts 43 = .ok (.aload_n 0, 1) := by decide +kernel
theorem dL_texts_44 : decode cL_texts 44 = .ok (.bipush 9, 2) := by decide +kernel
theorem dL_texts_46 : decode cL_texts 46 = .ok (.bipush 9, 2) := by decide +kernel
theorem dL_texts_48 : decode cL_texts 48 = .ok (.ldc 117, 2) := by decide +kernel
theorem dL_texts_50 : decode cL_texts 50 = .ok (.invokevirtual 58, 3) := by decide +kernel
theorem dL_texts_53 : decode cL_texts 53 = .ok (.iconst 1, 1) := by decide +kernel
theorem dL_texts_54 : decode cL_texts 54 = .ok (.if_icmp .eq 5, 3) := by decide +kernel
theorem dL_texts_57 : decode cL_texts 57 = .ok (.iconst 0, 1) := by decide +kernel
theorem dL_texts_58 : decode cL_texts 58 = .ok (.ireturn, 1) := by decide +kernel
theorem dL_texts_59 : decode cL_texts 59 = .ok (.aload_n 0, 1) := by decide +kernel
theorem dL_texts_60 : decode cL_texts 60 = .ok (.ldc2_w 108, 3) := by decide +kernel
theorem dL_texts_63 : decode cL_texts 63 = .ok (.lconst 0, 1) := by decide +kernel
theorem dL_texts_64 : decode cL_texts 64 = .ok (.lconst 0, 1) := by decide +kernel
theorem dL_texts_65 : decode cL_texts 65 = .ok (.bipush (-4), 2) := by decide +kernel
theorem dL_texts_67 : decode cL_texts 67 = .ok (.bipush (-4), 2) := by decide +kernel
theorem dL_texts_69 : decode cL_texts 69 = .ok (.invokestatic 110, 3) := by decide +kernel
theorem dL_texts_72 : decode cL_texts 72 = .ok (.ifCond .eq 45, 3) := by decide +kernel
theorem dL_texts_75 : decode cL_texts 75 = .ok (.aload_n 0, 1) := by decide +kernel
theorem dL_texts_76 : decode cL_texts 76 = .ok (.ldc2_w 118, 3) := by decide +kernel
theorem dL_texts_79 : decode cL_texts 79 = .ok (.lconst 0, 1) := by decide +kernel
theorem dL_texts_80 : decode cL_texts 80 = .ok (.lconst 0, 1) := by decide +kernel
theorem dL_texts_81 : decode cL_texts 81 = .ok (.iconst 0, 1) := by decide +kernel
theorem dL_texts_82 : decode cL_texts 82 = .ok (.iconst 1, 1) := by decide +kernel
theorem dL_texts_83 : decode cL_texts 83 = .ok (.invokestatic 110, 3) := by decide +kernel
theorem dL_texts_86 : decode cL_texts 86 = .ok (.ifCond .eq 31, 3) := by decide +kernel
theorem dL_texts_89 : decode cL_texts 89 = .ok (.aload_n 0, 1) := by decide +kernel
theorem dL_texts_90 : decode cL_texts 90 = .ok (.ldc2_w 120, 3) := by decide +kernel
theorem dL_texts_93 : decode cL_texts 93 = .ok (.lconst 0, 1) := by decide +kernel
theorem dL_texts_94 : decode cL_texts 94 = .ok (.lconst 0, 1) := by decide +kernel
theorem dL_texts_95 : decode cL_texts 95 = .ok (.iconst 0, 1) := by decide +kernel
theorem dL_texts_96 : decode cL_texts 96 = .ok (.iconst 2, 1) := by decide +kernel
theorem dL_texts_97 : decode cL_texts 97 = .ok (.invokestatic 110, 3) := by decide +kernel
theorem dL_texts_100 : decode cL_texts 100 = .ok (.ifCond .eq 17, 3) := by decide +kernel
theorem dL_texts_103 : decode cL_texts 103 = .ok (.aload_n 0, 1) := by decide +kernel
theorem dL_texts_104 : decode cL_texts 104 = .ok (.ldc2_w 122, 3) := by decide +kernel
theorem dL_texts_107 : decode cL_texts 107 = .ok (.lconst 0, 1) := by decide +kernel
theorem dL_texts_108 : decode cL_texts 108 = .ok (.lconst 0, 1) := by decide +kernel
theorem dL_texts_109 : decode cL_texts 109 = .ok (.iconst 0, 1) := by decide +kernel
theorem dL_texts_110 : decode cL_texts 110 = .ok (.iconst 3, 1) := by decide +kernel
theorem dL_texts_111 : decode cL_texts 111 = .ok (.invokestatic 110, 3) := by decide +kernel
theorem dL_texts_114 : decode cL_texts 114 = .ok (.ifCond .ne 5, 3) := by decide +kernel
theorem dL_texts_117 : decode cL_texts 117 = .ok (.iconst 0, 1) := by decide +kernel
theorem dL_texts_118 : decode cL_texts 118 = .ok (.ireturn, 1) := by decide +kernel
theorem dL_texts_119 : decode cL_texts 119 = .ok (.aload_n 0, 1) := by decide +kernel
theorem dL_texts_120 : decode cL_texts 120 = .ok (.ldc2_w 124, 3) := by decide +kernel
theorem dL_texts_123 : decode cL_texts 123 = .ok (.lconst 0, 1) := by decide +kernel
theorem dL_texts_124 : decode cL_texts 124 = .ok (.lconst 0, 1) := by decide +kernel
theorem dL_texts_125 : decode cL_texts 125 = .ok (.iconst 0, 1) := by decide +kernel
theorem dL_texts_126 : decode cL_texts 126 = .ok (.iconst 3, 1) := by decide +kernel
theorem dL_texts_127 : decode cL_texts 127 = .ok (.invokestatic 110, 3) := by decide +kernel
theorem dL_texts_130 : decode cL_texts 130 = .ok (.ifCond .eq 47, 3) := by decide +kernel
theorem dL_texts_133 : decode cL_texts 133 = .ok (.aload_n 0, 1) := by decide +kernel
theorem dL_texts_134 : decode cL_texts 134 = .ok (.ldc2_w 126, 3) := by decide +kernel
theorem dL_texts_137 : decode cL_texts 137 = .ok (.ldc2_w 128, 3) := by decide +kernel
theorem dL_texts_140 : decode cL_texts 140 = .ok (.lconst 0, 1) := by decide +kernel
theorem dL_texts_141 : decode cL_texts 141 = .ok (.iconst 0, 1) := by decide +kernel
theorem dL_texts_142 : decode cL_texts 142 = .ok (.iconst 3, 1) := by decide +kernel
theorem dL_texts_143 : decode cL_texts 143 = .ok (.invokestatic 110, 3) := by decide +kernel
theorem dL_texts_146 : decode cL_texts 146 = .ok (.ifCond .eq 31, 3) := by decide +kernel
theorem dL_texts_149 : decode cL_texts 149 = .ok (.aload_n 0, 1) := by decide +kernel
theorem dL_texts_150 : decode cL_texts 150 = .ok (.ldc2_w 130, 3) := by decide +kernel
theorem dL_texts_153 : decode cL_texts 153 = .ok (.lconst 0, 1) := by decide +kernel
theorem dL_texts_154 : decode cL_texts 154 = .ok (.lconst 0, 1) := by decide +kernel
theorem dL_texts_155 : decode cL_texts 155 = .ok (.iconst 0, 1) := by decide +kernel
theorem dL_texts_156 : decode cL_texts 156 = .ok (.iconst 3, 1) := by decide +kernel
theorem dL_texts_157 : decode cL_texts 157 = .ok (.invokestatic 110, 3) := by decide +kernel
theorem dL_texts_160 : decode cL_texts 160 = .ok (.ifCond .eq 17, 3) := by decide +kernel
theorem dL_texts_163 : decode cL_texts 163 = .ok (.aload_n 0, 1) := by decide +kernel
theorem dL_texts_164 : decode cL_texts 164 = .ok (.ldc2_w 132, 3) := by decide +kernel
theorem dL_texts_167 : decode cL_texts 167 = .ok (.lconst 0, 1) := by decide +kernel
theorem dL_texts_168 : decode cL_texts 168 = .ok (.lconst 0, 1) := by decide +kernel
theorem dL_texts_169 : decode cL_texts 169 = .ok (.iconst 0, 1) := by decide +kernel
theorem dL_texts_170 : decode cL_texts 170 = .ok (.iconst 1, 1) := by decide +kernel
theorem dL_texts_171 : decode cL_texts 171 = .ok (.invokestatic 110, 3) := by decide +kernel
theorem dL_texts_174 : decode cL_texts 174 = .ok (.ifCond .ne 5, 3) := by decide +kernel
theorem dL_texts_177 : decode cL_texts 177 = .ok (.iconst 0, 1) := by decide +kernel
theorem dL_texts_178 : decode cL_texts 178 = .ok (.ireturn, 1) := by decide +kernel
theorem dL_texts_179 : decode cL_texts 179 = .ok (.aload_n 0, 1) := by decide +kernel
theorem dL_texts_180 : decode cL_texts 180 = .ok (.ldc2_w 134, 3) := by decide +kernel
theorem dL_texts_183 : decode cL_texts 183 = .ok (.lconst 0, 1) := by decide +kernel
theorem dL_texts_184 : decode cL_texts 184 = .ok (.lconst 0, 1) := by decide +kernel
theorem dL_texts_185 : decode cL_texts 185 = .ok (.iconst 0, 1) := by decide +kernel
theorem dL_texts_186 : decode cL_texts 186 = .ok (.iconst 1, 1) := by decide +kernel
theorem dL_texts_187 : decode cL_texts 187 = .ok (.invokestatic 110, 3) := by decide +kernel
theorem dL_texts_190 : decode cL_texts 190 = .ok (.ifCond .eq 48, 3) := by decide +kernel
theorem dL_texts_193 : decode cL_texts 193 = .ok (.aload_n 0, 1) := by decide +kernel
theorem dL_texts_194 : decode cL_texts 194 = .ok (.ldc2_w 136, 3) := by decide +kernel
theorem dL_texts_197 : decode cL_texts 197 = .ok (.ldc2_w 138, 3) := by decide +kernel
theorem dL_texts_200 : decode cL_texts 200 = .ok (.lconst 0, 1) := by decide +kernel
theorem dL_texts_201 : decode cL_texts 201 = .ok (.bipush 15, 2) := by decide +kernel
theorem dL_texts_203 : decode cL_texts 203 = .ok (.iconst 1, 1) := by decide +kernel
theorem dL_texts_204 : decode cL_texts 204 = .ok (.invokestatic 110, 3) := by decide +kernel
theorem dL_texts_207 : decode cL_texts 207 = .ok (.ifCond .eq 31, 3) := by decide +kernel
theorem dL_texts_210 : decode cL_texts 210 = .ok (.aload_n 0, 1) := by decide +kernel
theorem dL_texts_211 : decode cL_texts 211 = .ok (.ldc2_w 140, 3) := by decide +kernel
theorem dL_texts_214 : decode cL_texts 214 = .ok (.lconst 0, 1) := by decide +kernel
theorem dL_texts_215 : decode cL_texts 215 = .ok (.lconst 0, 1) := by decide +kernel
theorem dL_texts_216 : decode cL_texts 216 = .ok (.iconst 0, 1) := by decide +kernel
theorem dL_texts_217 : decode cL_texts 217 = .ok (.iconst 1, 1) := by decide +kernel
theorem dL_texts_218 : decode cL_texts 218 = .ok (.invokestatic 110, 3) := by decide +kernel
theorem dL_texts_221 : decode cL_texts 221 = .ok (.ifCond .eq 17, 3) := by decide +kernel
theorem dL_texts_224 : decode cL_texts 224 = .ok (.aload_n 0, 1) := by decide +kernel
theorem dL_texts_225 : decode cL_texts 225 = .ok (.ldc2_w 142, 3) := by decide +kernel
theorem dL_texts_228 : decode cL_texts 228 = .ok (.lconst 0, 1) := by decide +kernel
theorem dL_texts_229 : decode cL_texts 229 = .ok (.lconst 0, 1) := by decide +kernel
theorem dL_texts_230 : decode cL_texts 230 = .ok (.iconst 0, 1) := by decide +kernel
theorem dL_texts_231 : decode cL_texts 231 = .ok (.iconst 1, 1) := by decide +kernel
theorem dL_texts_232 : decode cL_texts 232 = .ok (.invokestatic 110, 3) := by decide +kernel
theorem dL_texts_235 : decode cL_texts 235 = .ok (.ifCond .ne 5, 3) := by decide +kernel
theorem dL_texts_238 : decode cL_texts 238 = .ok (.iconst 0, 1) := by decide +kernel
theorem dL_texts_239 : decode cL_texts 239 = .ok (.ireturn, 1) := by decide +kernel
theorem dL_texts_240 : decode cL_texts 240 = .ok (.aload_n 0, 1) := by decide +kernel
theorem dL_texts_241 : decode cL_texts 241 = .ok (.ldc2_w 144, 3) := by decide +kernel
theorem dL_texts_244 : decode cL_texts 244 = .ok (.lconst 0, 1) := by decide +kernel
theorem dL_texts_245 : decode cL_texts 245 = .ok (.lconst 0, 1) := by decide +kernel
theorem dL_texts_246 : decode cL_texts 246 = .ok (.iconst 0, 1) := by decide +kernel
theorem dL_texts_247 : decode cL_texts 247 = .ok (.iconst 2, 1) := by decide +kernel
theorem dL_texts_248 : decode cL_texts 248 = .ok (.invokestatic 110, 3) := by decide +kernel
theorem dL_texts_251 : decode cL_texts 251 = .ok (.ifCond .eq 47, 3) := by decide +kernel
theorem dL_texts_254 : decode cL_texts 254 = .ok (.aload_n 0, 1) := by decide +kernel
theorem dL_texts_255 : decode cL_texts 255 = .ok (.ldc2_w 146, 3) := by decide +kernel
theorem dL_texts_258 : decode cL_texts 258 = .ok (.ldc2_w 148, 3) := by decide +kernel
theorem dL_texts_261 : decode cL_texts 261 = .ok (.lconst 0, 1) := by decide +kernel
theorem dL_texts_262 : decode cL_texts 262 = .ok (.iconst 0, 1) := by decide +kernel
theorem dL_texts_263 : decode cL_texts 263 = .ok (.iconst 1, 1) := by decide +kernel
theorem dL_texts_264 : decode cL_texts 264 = .ok (.invokestatic 110, 3) := by decide +kernel
theorem dL_texts_267 : decode cL_texts 267 = .ok (.ifCond .eq 31, 3) := by decide +kernel
theorem dL_texts_270 : decode cL_texts 270 = .ok (.aload_n 0, 1) := by decide +kernel
theorem dL_texts_271 : decode cL_texts 271 = .ok (.ldc2_w 150, 3) := by decide +kernel
theorem dL_texts_274 : decode cL_texts 274 = .ok (.lconst 0, 1) := by decide +kernel
theorem dL_texts_275 : decode cL_texts 275 = .ok (.lconst 0, 1) := by decide +kernel
theorem dL_texts_276 : decode cL_texts 276 = .ok (.iconst 0, 1) := by decide +kernel
theorem dL_texts_277 : decode cL_texts 277 = .ok (.iconst 1, 1) := by decide +kernel
theorem dL_texts_278 : decode cL_texts 278 = .ok (.invokestatic 110, 3) := by decide +kernel
theorem dL_texts_281 : decode cL_texts 281 = .ok (.ifCond .eq 17, 3) := by decide +kernel
theorem dL_texts_284 : decode cL_texts 284 = .ok (.aload_n 0, 1) := by decide +kernel
theorem dL_texts_285 : decode cL_texts 285 = .ok (.lconst 0, 1) := by decide +kernel
theorem dL_texts_286 : decode cL_texts 286 = .ok (.lconst 0, 1) := by decide +kernel
theorem dL_texts_287 : decode cL_texts 287 = .ok (.lconst 0, 1) := by decide +kernel
theorem dL_texts_288 : decode cL_texts 288 = .ok (.bipush (-4), 2) := by decide +kernel
theorem dL_texts_290 : decode cL_texts 290 = .ok (.bipush (-4), 2) := by decide +kernel
theorem dL_texts_292 : decode cL_texts 292 = .ok (.invokestatic 110, 3) := by decide +kernel
theorem dL_texts_295 : decode cL_texts 295 = .ok (.ifCond .ne 5, 3) := by decide +kernel
theorem dL_texts_298 : decode cL_texts 298 = .ok (.iconst 0, 1) := by decide +kernel
theorem dL_texts_299 : decode cL_texts 299 = .ok (.ireturn, 1) := by decide +kernel
theorem dL_texts_300 : decode cL_texts 300 = .ok (.aload_n 0, 1) := by decide +kernel
theorem dL_texts_301 : decode cL_texts 301 = .ok (.ldc2_w 152, 3) := by decide +kernel
theorem dL_texts_304 : decode cL_texts 304 = .ok (.lconst 0, 1) := by decide +kernel
theorem dL_texts_305 : decode cL_texts 305 = .ok (.lconst 0, 1) := by decide +kernel
theorem dL_texts_306 : decode cL_texts 306 = .ok (.bipush (-4), 2) := by decide +kernel
theorem dL_texts_308 : decode cL_texts 308 = .ok (.bipush (-4), 2) := by decide +kernel
theorem dL_texts_310 : decode cL_texts 310 = .ok (.invokestatic 110, 3) := by decide +kernel
theorem dL_texts_313 : decode cL_texts 313 = .ok (.ifCond .eq 54, 3) := by decide +kernel
theorem dL_texts_316 : decode cL_texts 316 = .ok (.aload_n 0, 1) := by decide +kernel
theorem dL_texts_317 : decode cL_texts 317 = .ok (.ldc2_w 136, 3) := by decide +kernel
theorem dL_texts_320 : decode cL_texts 320 = .ok (.ldc2_w 154, 3) := by decide +kernel
theorem dL_texts_323 : decode cL_texts 323 = .ok (.lconst 0, 1) := by decide +kernel
theorem dL_texts_324 : decode cL_texts 324 = .ok (.bipush (-4), 2) := by decide +kernel
theorem dL_texts_326 : decode cL_texts 326 = .ok (.bipush (-4), 2) := by decide +kernel
theorem dL_texts_328 : decode cL_texts 328 = .ok (.invokestatic 110, 3) := by decide +kernel
theorem dL_texts_331 : decode cL_texts 331 = .ok (.ifCond .eq 36, 3) := by decide +kernel
theorem dL_texts_334 : decode cL_texts 334 = .ok (.aload_n 0, 1) := by decide +kernel
theorem dL_texts_335 : decode cL_texts 335 = .ok (.ldc2_w 156, 3) := by decide +kernel
theorem dL_texts_338 : decode cL_texts 338 = .ok (.ldc2_w 158, 3) := by decide +kernel
theorem dL_texts_341 : decode cL_texts 341 = .ok (.ldc2_w 160, 3) := by decide +kernel
theorem dL_texts_344 : decode cL_texts 344 = .ok (.bipush 16, 2) := by decide +kernel
theorem dL_texts_346 : decode cL_texts 346 = .ok (.iconst 2, 1) := by decide +kernel
theorem dL_texts_347 : decode cL_texts 347 = .ok (.invokestatic 110, 3) := by decide +kernel
theorem dL_texts_350 : decode cL_texts 350 = .ok (.ifCond .eq 17, 3) := by decide +kernel
theorem dL_texts_353 : decode cL_texts 353 = .ok (.aload_n 0, 1) := by decide +kernel
theorem dL_texts_354 : decode cL_texts 354 = .ok (.ldc2_w 162, 3) := by decide +kernel
theorem dL_texts_357 : decode cL_texts 357 = .ok (.lconst 0, 1) := by decide +kernel
theorem dL_texts_358 : decode cL_texts 358 = .ok (.lconst 0, 1) := by decide +kernel
theorem dL_texts_359 : decode cL_texts 359 = .ok (.iconst 0, 1) := by decide +kernel
theorem dL_texts_360 : decode cL_texts 360 = .ok (.iconst 1, 1) := by decide +kernel
theorem dL_texts_361 : decode cL_texts 361 = .ok (.invokestatic 110, 3) := by decide +kernel
theorem dL_texts_364 : decode cL_texts 364 = .ok (.ifCond .ne 5, 3) := by decide +kernel
theorem dL_texts_367 : decode cL_texts 367 = .ok (.iconst 0, 1) := by decide +kernel
theorem dL_texts_368 : decode cL_texts 368 = .ok (.ireturn, 1) := by decide +kernel
theorem dL_texts_369 : decode cL_texts 369 = .ok (.aload_n 0, 1) := by decide +kernel
theorem dL_texts_370 : decode cL_texts 370 = .ok (.ldc2_w 164, 3) := by decide +kernel
theorem dL_texts_373 : decode cL_texts 373 = .ok (.ldc2_w 166, 3) := by decide +kernel
theorem dL_texts_376 : decode cL_texts 376 = .ok (.lconst 0, 1) := by decide +kernel
theorem dL_texts_377 : decode cL_texts 377 = .ok (.bipush (-4), 2) := by decide +kernel
theorem dL_texts_379 : decode cL_texts 379 = .ok (.bipush (-4), 2) := by decide +kernel
theorem dL_texts_381 : decode cL_texts 381 = .ok (.invokestatic 110, 3) := by decide +kernel
theorem dL_texts_384 : decode cL_texts 384 = .ok (.ifCond .eq 91, 3) := by decide +kernel
theorem dL_texts_387 : decode cL_texts 387 = .ok (.aload_n 0, 1) := by decide +kernel
theorem dL_texts_388 : decode cL_texts 388 = .ok (.invokevirtual 114, 3) := by decide +kernel
theorem dL_texts_391 : decode cL_texts 391 = .ok (.iconst 5, 1) := by decide +kernel
theorem dL_texts_392 : decode cL_texts 392 = .ok (.if_icmp .ne 83, 3) := by decide +kernel
theorem dL_texts_395 : decode cL_texts 395 = .ok (.aload_n 0, 1) := by decide +kernel
theorem dL_texts_396 : decode cL_texts 396 = .ok (.iconst 0, 1) := by decide +kernel
theorem dL_texts_397 : decode cL_texts 397 = .ok (.iconst 3, 1) := by decide +kernel
theorem dL_texts_398 : decode cL_texts 398 = .ok (.invokevirtual 31, 3) := by decide +kernel
theorem dL_texts_401 : decode cL_texts 401 = .ok (.sipush 1000, 3) := by decide +kernel
theorem dL_texts_404 : decode cL_texts 404 = .ok (.if_icmp .ne 71, 3) := by decide +kernel
theorem dL_texts_407 : decode cL_texts 407 = .ok (.aload_n 0, 1) := by decide +kernel
theorem dL_texts_408 : decode cL_texts 408 = .ok (.iconst 0, 1) := by decide +kernel
theorem dL_texts_409 : decode cL_texts 409 = .ok (.iconst 4, 1) := by decide +kernel
theorem dL_texts_410 : decode cL_texts 410 = .ok (.invokevirtual 31, 3) := by decide +kernel
theorem dL_texts_413 : decode cL_texts 413 = .ok (.iconst 4, 1) := by decide +kernel
theorem dL_texts_414 : decode cL_texts 414 = .ok (.if_icmp .ne 61, 3) := by decide +kernel
theorem dL_texts_417 : decode cL_texts 417 = .ok (.aload_n 0, 1) := by decide +kernel
theorem dL_texts_418 : decode cL_texts 418 = .ok (.iconst 1, 1) := by decide +kernel
theorem dL_texts_419 : decode cL_texts 419 = .ok (.iconst 4, 1) := by decide +kernel
theorem dL_texts_420 : decode cL_texts 420 = .ok (.invokevirtual 31, 3) := by decide +kernel
theorem dL_texts_423 : decode cL_texts 423 = .ok (.iconst 1, 1) := by decide +kernel
theorem dL_texts_424 : decode cL_texts 424 = .ok (.if_icmp .ne 51, 3) := by decide +kernel
theorem dL_texts_427 : decode cL_texts 427 = .ok (.aload_n 0, 1) := by decide +kernel
theorem dL_texts_428 : decode cL_texts 428 = .ok (.iconst 4, 1) := by decide +kernel
theorem dL_texts_429 : decode cL_texts 429 = .ok (.invokevirtual 13, 3) := by decide +kernel
theorem dL_texts_432 : decode cL_texts 432 = .ok (.ldc2_w 168, 3) := by decide +kernel
theorem dL_texts_435 : decode cL_texts 435 = .ok (.lcmp, 1) := by decide +kernel
theorem dL_texts_436 : decode cL_texts 436 = .ok (.ifCond .ne 39, 3) := by decide +kernel
theorem dL_texts_439 : decode cL_texts 439 = .ok (.aload_n 0, 1) := by decide +kernel
theorem dL_texts_440 : decode cL_texts 440 = .ok (.invokevirtual 114, 3) := by decide +kernel
theorem dL_texts_443 : decode cL_texts 443 = .ok (.iconst 1, 1) := by decide +kernel
theorem dL_texts_444 : decode cL_texts 444 = .ok (.if_icmp .ne 31, 3) := by decide +kernel
theorem dL_texts_447 : decode cL_texts 447 = .ok (.aload_n 0, 1) := by decide +kernel
theorem dL_texts_448 : decode cL_texts 448 = .ok (.invokevirtual 99, 3) := by decide +kernel
theorem dL_texts_451 : decode cL_texts 451 = .ok (.bipush 15, 2) := by decide +kernel
theorem dL_texts_453 : decode cL_texts 453 = .ok (.if_icmp .ne 22, 3) := by decide +kernel
theorem dL_texts_456 : decode cL_texts 456 = .ok (.aload_n 0, 1) := by decide +kernel
theorem dL_texts_457 : decode cL_texts 457 = .ok (.invokevirtual 114, 3) := by decide +kernel
theorem dL_texts_460 : decode cL_texts 460 = .ok (.ifCond .ne 15, 3) := by decide +kernel
theorem dL_texts_463 : decode cL_texts 463 = .ok (.aload_n 0, 1) := by decide +kernel
theorem dL_texts_464 : decode cL_texts 464 = .ok (.iconst 4, 1) := by decide +kernel
theorem dL_texts_465 : decode cL_texts 465 = .ok (.invokevirtual 13, 3) := by decide +kernel
theorem dL_texts_468 : decode cL_texts 468 = .ok (.ldc2_w 25, 3) := by decide +kernel
theorem dL_texts_471 : decode cL_texts 471 = .ok (.lcmp, 1) := by decide +kernel
theorem dL_texts_472 : decode cL_texts 472 = .ok (.ifCond .eq 5, 3) := by decide +kernel
theorem dL_texts_475 : decode cL_texts 475 = .ok (.iconst 0, 1) := by decide +kernel
theorem dL_texts_476 : decode cL_texts 476 = .ok (.ireturn, 1) := by decide +kernel
theorem dL_texts_477 : decode cL_texts 477 = .ok (.iconst 1, 1) := by decide +kernel
theorem dL_texts_478 : decode cL_texts 478 = .ok (.istore_n 1, 1) := by decide +kernel
theorem dL_texts_479 : decode cL_texts 479 = .ok (.iload_n 1, 1) := by decide +kernel
theorem dL_texts_480 : decode cL_texts 480 = .ok (.bipush 80, 2) := by decide +kernel
theorem dL_texts_482 : decode cL_texts 482 = .ok (.if_icmp .gt 21, 3) := by decide +kernel
theorem dL_texts_485 : decode cL_texts 485 = .ok (.aload_n 0, 1) := by decide +kernel
theorem dL_texts_486 : decode cL_texts 486 = .ok (.bipush 48, 2) := by decide +kernel
theorem dL_texts_488 : decode cL_texts 488 = .ok (.invokevirtual 62, 3) := by decide +kernel
theorem dL_texts_491 : decode cL_texts 491 = .ok (.iload_n 1, 1) := by decide +kernel
theorem dL_texts_492 : decode cL_texts 492 = .ok (.if_icmp .eq 5, 3) := by decide +kernel
theorem dL_texts_495 : decode cL_texts 495 = .ok (.iconst 0, 1) := by decide +kernel
theorem dL_texts_496 : decode cL_texts 496 = .ok (.ireturn, 1) := by decide +kernel
theorem dL_texts_497 : decode cL_texts 497 = .ok (.iinc 1 1, 3) := by decide +kernel
theorem dL_texts_500 : decode cL_texts 500 = .ok (.goto (-21), 3) := by decide +kernel
theorem dL_texts_503 : decode cL_texts 503 = .ok (.aload_n 0, 1) := by decide +kernel
theorem dL_texts_504 : decode cL_texts 504 = .ok (.bipush 48, 2) := by decide +kernel
theorem dL_texts_506 : decode cL_texts 506 = .ok (.invokevirtual 62, 3) := by decide +kernel
theorem dL_texts_509 : decode cL_texts 509 = .ok (.bipush (-3), 2) := by decide +kernel
theorem dL_texts_511 : decode cL_texts 511 = .ok (.if_icmp .ne 44, 3) := by decide +kernel
theorem dL_texts_514 : decode cL_texts 514 = .ok (.aload_n 0, 1) := by decide +kernel
theorem dL_texts_515 : decode cL_texts 515 = .ok (.bipush 31, 2) := by decide +kernel
theorem dL_texts_517 : decode cL_texts 517 = .ok (.invokevirtual 62, 3) := by decide +kernel
theorem dL_texts_520 : decode cL_texts 520 = .ok (.iconst (-1), 1) := by decide +kernel
theorem dL_texts_521 : decode cL_texts 521 = .ok (.if_icmp .ne 34, 3) := by decide +kernel
theorem dL_texts_524 : decode cL_texts 524 = .ok (.aload_n 0, 1) := by decide +kernel
theorem dL_texts_525 : decode cL_texts 525 = .ok (.iconst 1, 1) := by decide +kernel
theorem dL_texts_526 : decode cL_texts 526 = .ok (.invokevirtual 65, 3) := by decide +kernel
theorem dL_texts_529 : decode cL_texts 529 = .ok (.iconst 1, 1) := by decide +kernel
theorem dL_texts_530 : decode cL_texts 530 = .ok (.if_icmp .ne 25, 3) := by decide +kernel
theorem dL_texts_533 : decode cL_texts 533 = .ok (.aload_n 0, 1) := by decide +kernel
theorem dL_texts_534 : decode cL_texts 534 = .ok (.invokevirtual 114, 3) := by decide +kernel
theorem dL_texts_537 : decode cL_texts 537 = .ok (.bipush (-2), 2) := by decide +kernel
theorem dL_texts_539 : decode cL_texts 539 = .ok (.if_icmp .ne 16, 3) := by decide +kernel
theorem dL_texts_542 : decode cL_texts 542 = .ok (.aload_n 0, 1) := by decide +kernel
theorem dL_texts_543 : decode cL_texts 543 = .ok (.invokevirtual 99, 3) := by decide +kernel
theorem dL_texts_546 : decode cL_texts 546 = .ok (.bipush 80, 2) := by decide +kernel
theorem dL_texts_548 : decode cL_texts 548 = .ok (.if_icmp .ne 7, 3) := by decide +kernel
theorem dL_texts_551 : decode cL_texts 551 = .ok (.iconst 1, 1) := by decide +kernel
theorem dL_texts_552 : decode cL_texts 552 = .ok (.goto 4, 3) := by decide +kernel
theorem dL_texts_555 : decode cL_texts 555 = .ok (.iconst 0, 1) := by decide +kernel
theorem dL_texts_556 : decode cL_texts 556 = .ok (.ireturn, 1) := by decide +kernel
theorem dL_known_0 : decode cL_known 0 = .ok (.new 14, 3) := by decide +kernel
theorem dL_known_3 : decode cL_known 3 = .ok (.dup, 1) := by decide +kernel
theorem dL_known_4 : decode cL_known 4 = .ok (.invokespecial 107, 3) := by decide +kernel
theorem dL_known_7 : decode cL_known 7 = .ok (.astore_n 0, 1) := by decide +kernel
theorem dL_known_8 : decode cL_known 8 = .ok (.aload_n 0, 1) := by decide +kernel
theorem dL_known_9 : decode cL_known 9 = .ok (.invokevirtual 170, 3) := by decide +kernel
theorem dL_known_12 : decode cL_known 12 = .ok (.bipush (-2), 2) := by decide +kernel
theorem dL_known_14 : decode cL_known 14 = .ok (.if_icmp .ne 146, 3) := by decide +kernel
theorem dL_known_17 : decode cL_known 17 = .ok (.aload_n 0, 1) := by decide +kernel
theorem dL_known_18 : decode cL_known 18 = .ok (.invokevirtual 173, 3) := by decide +kernel
theorem dL_known_21 : decode cL_known 21 = .ok (.bipush (-2), 2) := by decide +kernel
theorem dL_known_23 : decode cL_known 23 = .ok (.if_icmp .ne 137, 3) := by decide +kernel
theorem dL_known_26 : decode cL_known 26 = .ok (.aload_n 0, 1) := by decide +kernel
theorem dL_known_27 : decode cL_known 27 = .ok (.sipush 9999, 3) := by decide +kernel
theorem dL_known_30 : decode cL_known 30 = .ok (.invokevirtual 49, 3) := by decide +kernel
theorem dL_known_33 : decode cL_known 33 = .ok (.ifCond .ne 127, 3) := by decide +kernel
theorem dL_known_36 : decode cL_known 36 = .ok (.aload_n 0, 1) := by decide +kernel
theorem dL_known_37 : decode cL_known 37 = .ok (.sipush 10000, 3) := by decide +kernel
theorem dL_known_40 : decode cL_known 40 = .ok (.invokevirtual 49, 3) := by decide +kernel
theorem dL_known_43 : decode cL_known 43 = .ok (.bipush (-4), 2) := by decide +kernel
theorem dL_known_45 : decode cL_known 45 = .ok (.if_icmp .ne 115, 3) := by decide +kernel
theorem dL_known_48 : decode cL_known 48 = .ok (.aload_n 0, 1) := by decide +kernel
theorem dL_known_49 : decode cL_known 49 = .ok (.bipush 100, 2) := by decide +kernel
theorem dL_known_51 : decode cL_known 51 = .ok (.iconst 1, 1) := by decide +kernel
theorem dL_known_52 : decode cL_known 52 = .ok (.invokevirtual 94, 3) := by decide +kernel
theorem dL_known_55 : decode cL_known 55 = .ok (.ifCond .ne 105, 3) := by decide +kernel
theorem dL_known_58 : decode cL_known 58 = .ok (.aload_n 0, 1) := by decide +kernel
theorem dL_known_59 : decode cL_known 59 = .ok (.bipush 100, 2) := by decide +kernel
theorem dL_known_61 : decode cL_known 61 = .ok (.iconst 1, 1) := by decide +kernel
theorem dL_known_62 : decode cL_known 62 = .ok (.iconst 0, 1) := by decide +kernel
theorem dL_known_63 : decode cL_known 63 = .ok (.invokevirtual 91, 3) := by decide +kernel
theorem dL_known_66 : decode cL_known 66 = .ok (.bipush (-4), 2) := by decide +kernel
theorem dL_known_68 : decode cL_known 68 = .ok (.if_icmp .ne 92, 3) := by decide +kernel
theorem dL_known_71 : decode cL_known 71 = .ok (.aload_n 0, 1) := by decide +kernel
theorem dL_known_72 : decode cL_known 72 = .ok (.iconst 0, 1) := by decide +kernel
theorem dL_known_73 : decode cL_known 73 = .ok (.iconst 0, 1) := by decide +kernel
theorem dL_known_74 : decode cL_known 74 = .ok (.sipush 1000, 3) := by decide +kernel
theorem dL_known_77 : decode cL_known 77 = .ok (.invokevirtual 58, 3) := by decide +kernel
theorem dL_known_80 : decode cL_known 80 = .ok (.ifCond .ne 80, 3) := by decide +kernel
theorem dL_known_83 : decode cL_known 83 = .ok (.aload_n 0, 1) := by decide +kernel
theorem dL_known_84 : decode cL_known 84 = .ok (.sipush 3000, 3) := by decide +kernel
theorem dL_known_87 : decode cL_known 87 = .ok (.sipush 3000, 3) := by decide +kernel
theorem dL_known_90 : decode cL_known 90 = .ok (.sipush 20000, 3) := by decide +kernel
theorem dL_known_93 : decode cL_known 93 = .ok (.invokevirtual 58, 3) := by decide +kernel
theorem dL_known_96 : decode cL_known 96 = .ok (.iconst 1, 1) := by decide +kernel
theorem dL_known_97 : decode cL_known 97 = .ok (.if_icmp .ne 63, 3) := by decide +kernel
theorem dL_known_100 : decode cL_known 100 = .ok (.aload_n 0, 1) := by decide +kernel
theorem dL_known_101 : decode cL_known 101 = .ok (.sipush 3001, 3) := by decide +kernel
theorem dL_known_104 : decode cL_known 104 = .ok (.iconst 0, 1) := by decide +kernel
theorem dL_known_105 : decode cL_known 105 = .ok (.sipush 20000, 3) := by decide +kernel
theorem dL_known_108 : decode cL_known 108 = .ok (.invokevirtual 58, 3) := by decide +kernel
theorem dL_known_111 : decode cL_known 111 = .ok (.iconst 2, 1) := by decide +kernel
theorem dL_known_112 : decode cL_known 112 = .ok (.if_icmp .ne 48, 3) := by decide +kernel
theorem dL_known_115 : decode cL_known 115 = .ok (.aload_n 0, 1) := by decide +kernel
theorem dL_known_116 : decode cL_known 116 = .ok (.iconst 0, 1) := by decide +kernel
theorem dL_known_117 : decode cL_known 117 = .ok (.bipush 11, 2) := by decide +kernel
theorem dL_known_119 : decode cL_known 119 = .ok (.invokevirtual 31, 3) := by decide +kernel
theorem dL_known_122 : decode cL_known 122 = .ok (.iconst 1, 1) := by decide +kernel
theorem dL_known_123 : decode cL_known 123 = .ok (.if_icmp .ne 37, 3) := by decide +kernel
theorem dL_known_126 : decode cL_known 126 = .ok (.aload_n 0, 1) := by decide +kernel
theorem dL_known_127 : decode cL_known 127 = .ok (.iconst 1, 1) := by decide +kernel
theorem dL_known_128 : decode cL_known 128 = .ok (.bipush 11, 2) := by decide +kernel
theorem dL_known_130 : decode cL_known 130 = .ok (.invokevirtual 31, 3) := by decide +kernel
theorem dL_known_133 : decode cL_known 133 = .ok (.iconst 2, 1) := by decide +kernel
theorem dL_known_134 : decode cL_known 134 = .ok (.if_icmp .ne 26, 3) := by decide +kernel
theorem dL_known_137 : decode cL_known 137 = .ok (.aload_n 0, 1) := by decide +kernel
theorem dL_known_138 : decode cL_known 138 = .ok (.iconst 0, 1) := by decide +kernel
theorem dL_known_139 : decode cL_known 139 = .ok (.iconst 5, 1) := by decide +kernel
theorem dL_known_140 : decode cL_known 140 = .ok (.invokevirtual 31, 3) := by decide +kernel
theorem dL_known_143 : decode cL_known 143 = .ok (.bipush (-4), 2) := by decide +kernel
theorem dL_known_145 : decode cL_known 145 = .ok (.if_icmp .ne 15, 3) := by decide +kernel
theorem dL_known_148 : decode cL_known 148 = .ok (.aload_n 0, 1) := by decide +kernel
theorem dL_known_149 : decode cL_known 149 = .ok (.iconst 0, 1) := by decide +kernel
theorem dL_known_150 : decode cL_known 150 = .ok (.bipush 6, 2) := by decide +kernel
theorem dL_known_152 : decode cL_known 152 = .ok (.invokevirtual 31, 3) := by decide +kernel
theorem dL_known_155 : decode cL_known 155 = .ok (.bipush (-4), 2) := by decide +kernel
theorem dL_known_157 : decode cL_known 157 = .ok (.if_icmp .eq 5, 3) := by decide +kernel
theorem dL_known_160 : decode cL_known 160 = .ok (.iconst 0, 1) := by decide +kernel
theorem dL_known_161 : decode cL_known 161 = .ok (.ireturn, 1) := by decide +kernel
theorem dL_known_162 : decode cL_known 162 = .ok (.aload_n 0, 1) := by decide +kernel
theorem dL_known_163 : decode cL_known 163 = .ok (.iconst 0, 1) := by decide +kernel
theorem dL_known_164 : decode cL_known 164 = .ok (.sipush 1000, 3) := by decide +kernel
theorem dL_known_167 : decode cL_known 167 = .ok (.invokevirtual 68, 3) := by decide +kernel
theorem dL_known_170 : decode cL_known 170 = .ok (.sipush 277, 3) := by decide +kernel
theorem dL_known_173 : decode cL_known 173 = .ok (.if_icmp .ne 186, 3) := by decide +kernel
theorem dL_known_176 : decode cL_known 176 = .ok (.aload_n 0, 1) := by decide +kernel
theorem dL_known_177 : decode cL_known 177 = .ok (.iconst 0, 1) := by decide +kernel
theorem dL_known_178 : decode cL_known 178 = .ok (.iconst 5, 1) := by decide +kernel
theorem dL_known_179 : decode cL_known 179 = .ok (.invokevirtual 31, 3) := by decide +kernel
theorem dL_known_182 : decode cL_known 182 = .ok (.bipush 50, 2) := by decide +kernel
theorem dL_known_184 : decode cL_known 184 = .ok (.if_icmp .ne 175, 3) := by decide +kernel
theorem dL_known_187 : decode cL_known 187 = .ok (.aload_n 0, 1) := by decide +kernel
theorem dL_known_188 : decode cL_known 188 = .ok (.iconst 1, 1) := by decide +kernel
theorem dL_known_189 : decode cL_known 189 = .ok (.sipush 500, 3) := by decide +kernel
theorem dL_known_192 : decode cL_known 192 = .ok (.invokevirtual 68, 3) := by decide +kernel
theorem dL_known_195 : decode cL_known 195 = .ok (.sipush 137, 3) := by decide +kernel
theorem dL_known_198 : decode cL_known 198 = .ok (.if_icmp .ne 161, 3) := by decide +kernel
theorem dL_known_201 : decode cL_known 201 = .ok (.aload_n 0, 1) := by decide +kernel
theorem dL_known_202 : decode cL_known 202 = .ok (.iconst 0, 1) := by decide +kernel
theorem dL_known_203 : decode cL_known 203 = .ok (.bipush 9, 2) := by decide +kernel
theorem dL_known_205 : decode cL_known 205 = .ok (.invokevirtual 31, 3) := by decide +kernel
theorem dL_known_208 : decode cL_known 208 = .ok (.ifCond .ne 151, 3) := by decide +kernel
theorem dL_known_211 : decode cL_known 211 = .ok (.aload_n 0, 1) := by decide +kernel
theorem dL_known_212 : decode cL_known 212 = .ok (.iconst 1, 1) := by decide +kernel
theorem dL_known_213 : decode cL_known 213 = .ok (.sipush 1000, 3) := by decide +kernel
theorem dL_known_216 : decode cL_known 216 = .ok (.invokevirtual 68, 3) := by decide +kernel
theorem dL_known_219 : decode cL_known 219 = .ok (.sipush 277, 3) := by decide +kernel
theorem dL_known_222 : decode cL_known 222 = .ok (.if_icmp .ne 137, 3) := by decide +kernel
theorem dL_known_225 : decode cL_known 225 = .ok (.aload_n 0, 1) := by decide +kernel
theorem dL_known_226 : decode cL_known 226 = .ok (.iconst 0, 1) := by decide +kernel
theorem dL_known_227 : decode cL_known 227 = .ok (.iconst 3, 1) := by decide +kernel
theorem dL_known_228 : decode cL_known 228 = .ok (.invokevirtual 31, 3) := by decide +kernel
theorem dL_known_231 : decode cL_known 231 = .ok (.sipush 266, 3) := by decide +kernel
theorem dL_known_234 : decode cL_known 234 = .ok (.if_icmp .ne 125, 3) := by decide +kernel
theorem dL_known_237 : decode cL_known 237 = .ok (.aload_n 0, 1) := by decide +kernel
theorem dL_known_238 : decode cL_known 238 = .ok (.iconst 0, 1) := by decide +kernel
theorem dL_known_239 : decode cL_known 239 = .ok (.bipush 7, 2) := by decide +kernel
theorem dL_known_241 : decode cL_known 241 = .ok (.invokevirtual 31, 3) := by decide +kernel
theorem dL_known_244 : decode cL_known 244 = .ok (.iconst 1, 1) := by decide +kernel
theorem dL_known_245 : decode cL_known 245 = .ok (.if_icmp .ne 114, 3) := by decide +kernel
theorem dL_known_248 : decode cL_known 248 = .ok (.aload_n 0, 1) := by decide +kernel
theorem dL_known_249 : decode cL_known 249 = .ok (.iconst 0, 1) := by decide +kernel
theorem dL_known_250 : decode cL_known 250 = .ok (.bipush 9, 2) := by decide +kernel
theorem dL_known_252 : decode cL_known 252 = .ok (.invokevirtual 31, 3) := by decide +kernel
theorem dL_known_255 : decode cL_known 255 = .ok (.bipush 11, 2) := by decide +kernel
theorem dL_known_257 : decode cL_known 257 = .ok (.if_icmp .ne 102, 3) := by decide +kernel
theorem dL_known_260 : decode cL_known 260 = .ok (.aload_n 0, 1) := by decide +kernel
theorem dL_known_261 : decode cL_known 261 = .ok (.iconst 0, 1) := by decide +kernel
theorem dL_known_262 : decode cL_known 262 = .ok (.bipush 6, 2) := by decide +kernel
theorem dL_known_264 : decode cL_known 264 = .ok (.invokevirtual 31, 3) := by decide +kernel
theorem dL_known_267 : decode cL_known 267 = .ok (.bipush 12, 2) := by decide +kernel
theorem dL_known_269 : decode cL_known 269 = .ok (.if_icmp .ne 90, 3) := by decide +kernel
theorem dL_known_272 : decode cL_known 272 = .ok (.aload_n 0, 1) := by decide +kernel
theorem dL_known_273 : decode cL_known 273 = .ok (.bipush 23, 2) := by decide +kernel
theorem dL_known_275 : decode cL_known 275 = .ok (.invokevirtual 13, 3) := by decide +kernel
theorem dL_known_278 : decode cL_known 278 = .ok (.ldc2_w 176, 3) := by decide +kernel
theorem dL_known_281 : decode cL_known 281 = .ok (.lcmp, 1) := by decide +kernel
theorem dL_known_282 : decode cL_known 282 = .ok (.ifCond .ne 77, 3) := by decide +kernel
theorem dL_known_285 : decode cL_known 285 = .ok (.aload_n 0, 1) := by decide +kernel
theorem dL_known_286 : decode cL_known 286 = .ok (.bipush 6, 2) := by decide +kernel
theorem dL_known_288 : decode cL_known 288 = .ok (.invokevirtual 13, 3) := by decide +kernel
theorem dL_known_291 : decode cL_known 291 = .ok (.ldc2_w 178, 3) := by decide +kernel
theorem dL_known_294 : decode cL_known 294 = .ok (.lcmp, 1) := by decide +kernel
theorem dL_known_295 : decode cL_known 295 = .ok (.ifCond .ne 64, 3) := by decide +kernel
theorem dL_known_298 : decode cL_known 298 = .ok (.aload_n 0, 1) := by decide +kernel
theorem dL_known_299 : decode cL_known 299 = .ok (.iconst 3, 1) := by decide +kernel
theorem dL_known_300 : decode cL_known 300 = .ok (.invokevirtual 13, 3) := by decide +kernel
theorem dL_known_303 : decode cL_known 303 = .ok (.ldc2_w 168, 3) := by decide +kernel
theorem dL_known_306 : decode cL_known 306 = .ok (.lcmp, 1) := by decide +kernel
theorem dL_known_307 : decode cL_known 307 = .ok (.ifCond .ne 52, 3) := by decide +kernel
theorem dL_known_310 : decode cL_known 310 = .ok (.aload_n 0, 1) := by decide +kernel
theorem dL_known_311 : decode cL_known 311 = .ok (.bipush 20, 2) := by decide +kernel
theorem dL_known_313 : decode cL_known 313 = .ok (.invokevirtual 13, 3) := by decide +kernel
theorem dL_known_316 : decode cL_known 316 = .ok (.ldc2_w 180, 3) := by decide +kernel
theorem dL_known_319 : decode cL_known 319 = .ok (.lcmp, 1) := by decide +kernel
theorem dL_known_320 : decode cL_known 320 = .ok (.ifCond .ne 39, 3) := by decide +kernel
theorem dL_known_323 : decode cL_known 323 = .ok (.aload_n 0, 1) := by decide +kernel
theorem dL_known_324 : decode cL_known 324 = .ok (.bipush 21, 2) := by decide +kernel
theorem dL_known_326 : decode cL_known 326 = .ok (.invokevirtual 13, 3) := by decide +kernel
theorem dL_known_329 : decode cL_known 329 = .ok (.ldc2_w 182, 3) := by decide +kernel
theorem dL_known_332 : decode cL_known 332 = .ok (.lcmp, 1) := by decide +kernel
theorem dL_known_333 : decode cL_known 333 = .ok (.ifCond .ne 26, 3) := by decide +kernel
theorem dL_known_336 : decode cL_known 336 = .ok (.aload_n 0, 1) := by decide +kernel
theorem dL_known_337 : decode cL_known 337 = .ok (.bipush 22, 2) := by decide +kernel
theorem dL_known_339 : decode cL_known 339 = .ok (.invokevirtual 13, 3) := by decide +kernel
theorem dL_known_342 : decode cL_known 342 = .ok (.ldc2_w 184, 3) := by decide +kernel
theorem dL_known_345 : decode cL_known 345 = .ok (.lcmp, 1) := by decide +kernel
theorem dL_known_346 : decode cL_known 346 = .ok (.ifCond .ne 13, 3) := by decide +kernel
theorem dL_known_349 : decode cL_known 349 = .ok (.aload_n 0, 1) := by decide +kernel
theorem dL_known_350 : decode cL_known 350 = .ok (.iconst 2, 1) := by decide +kernel
theorem dL_known_351 : decode cL_known 351 = .ok (.invokevirtual 13, 3) := by decide +kernel
theorem dL_known_354 : decode cL_known 354 = .ok (.lconst 1, 1) := by decide +kernel
theorem dL_known_355 : decode cL_known 355 = .ok (.lcmp, 1) := by decide +kernel
theorem dL_known_356 : decode cL_known 356 = .ok (.ifCond .eq 5, 3) := by decide +kernel
theorem dL_known_359 : decode cL_known 359 = .ok (.iconst 0, 1) := by decide +kernel
theorem dL_known_360 : decode cL_known 360 = .ok (.ireturn, 1) := by decide +kernel
theorem dL_known_361 : decode cL_known 361 = .ok (.aload_n 0, 1) := by decide +kernel
theorem dL_known_362 : decode cL_known 362 = .ok (.iconst 0, 1) := by decide +kernel
theorem dL_known_363 : decode cL_known 363 = .ok (.sipush 502, 3) := by decide +kernel
theorem dL_known_366 : decode cL_known 366 = .ok (.invokevirtual 84, 3) := by decide +kernel
theorem dL_known_369 : decode cL_known 369 = .ok (.ifCond .ne 184, 3) := by decide +kernel
theorem dL_known_372 : decode cL_known 372 = .ok (.aload_n 0, 1) := by decide +kernel
theorem dL_known_373 : decode cL_known 373 = .ok (.iconst 0, 1) := by decide +kernel
theorem dL_known_374 : decode cL_known 374 = .ok (.bipush 7, 2) := by decide +kernel
theorem dL_known_376 : decode cL_known 376 = .ok (.invokevirtual 31, 3) := by decide +kernel
theorem dL_known_379 : decode cL_known 379 = .ok (.iconst 1, 1) := by decide +kernel
theorem dL_known_380 : decode cL_known 380 = .ok (.if_icmp .ne 173, 3) := by decide +kernel
theorem dL_known_383 : decode cL_known 383 = .ok (.aload_n 0, 1) := by decide +kernel
theorem dL_known_384 : decode cL_known 384 = .ok (.iconst 0, 1) := by decide +kernel
theorem dL_known_385 : decode cL_known 385 = .ok (.sipush 512, 3) := by decide +kernel
theorem dL_known_388 : decode cL_known 388 = .ok (.invokevirtual 84, 3) := by decide +kernel
theorem dL_known_391 : decode cL_known 391 = .ok (.iconst 2, 1) := by decide +kernel
theorem dL_known_392 : decode cL_known 392 = .ok (.if_icmp .ne 161, 3) := by decide +kernel
theorem dL_known_395 : decode cL_known 395 = .ok (.aload_n 0, 1) := by decide +kernel
theorem dL_known_396 : decode cL_known 396 = .ok (.iconst 0, 1) := by decide +kernel
theorem dL_known_397 : decode cL_known 397 = .ok (.bipush 7, 2) := by decide +kernel
theorem dL_known_399 : decode cL_known 399 = .ok (.invokevirtual 31, 3) := by decide +kernel
theorem dL_known_402 : decode cL_known 402 = .ok (.ifCond .ne 151, 3) := by decide +kernel
theorem dL_known_405 : decode cL_known 405 = .ok (.aload_n 0, 1) := by decide +kernel
theorem dL_known_406 : decode cL_known 406 = .ok (.iconst 0, 1) := by decide +kernel
theorem dL_known_407 : decode cL_known 407 = .ok (.bipush 10, 2) := by decide +kernel
theorem dL_known_409 : decode cL_known 409 = .ok (.invokevirtual 31, 3) := by decide +kernel
theorem dL_known_412 : decode cL_known 412 = .ok (.iconst 2, 1) := by decide +kernel
theorem dL_known_413 : decode cL_known 413 = .ok (.if_icmp .ne 140, 3) := by decide +kernel
theorem dL_known_416 : decode cL_known 416 = .ok (.aload_n 0, 1) := by decide +kernel
theorem dL_known_417 : decode cL_known 417 = .ok (.iconst 0, 1) := by decide +kernel
theorem dL_known_418 : decode cL_known 418 = .ok (.bipush 6, 2) := by decide +kernel
theorem dL_known_420 : decode cL_known 420 = .ok (.invokevirtual 31, 3) := by decide +kernel
theorem dL_known_423 : decode cL_known 423 = .ok (.bipush 25, 2) := by decide +kernel
theorem dL_known_425 : decode cL_known 425 = .ok (.if_icmp .ne 128, 3) := by decide +kernel
theorem dL_known_428 : decode cL_known 428 = .ok (.aload_n 0, 1) := by decide +kernel
theorem dL_known_429 : decode cL_known 429 = .ok (.iconst 0, 1) := by decide +kernel
theorem dL_known_430 : decode cL_known 430 = .ok (.iconst 4, 1) := by decide +kernel
theorem dL_known_431 : decode cL_known 431 = .ok (.invokevirtual 31, 3) := by decide +kernel
theorem dL_known_434 : decode cL_known 434 = .ok (.iconst 1, 1) := by decide +kernel
theorem dL_known_435 : decode cL_known 435 = .ok (.if_icmp .ne 118, 3) := by decide +kernel
theorem dL_known_438 : decode cL_known 438 = .ok (.aload_n 0, 1) := by decide +kernel
theorem dL_known_439 : decode cL_known 439 = .ok (.bipush 24, 2) := by decide +kernel
theorem dL_known_441 : decode cL_known 441 = .ok (.invokevirtual 13, 3) := by decide +kernel
theorem dL_known_444 : decode cL_known 444 = .ok (.ldc2_w 186, 3) := by decide +kernel
theorem dL_known_447 : decode cL_known 447 = .ok (.lcmp, 1) := by decide +kernel
theorem dL_known_448 : decode cL_known 448 = .ok (.ifCond .ne 105, 3) := by decide +kernel
theorem dL_known_451 : decode cL_known 451 = .ok (.aload_n 0, 1) := by decide +kernel
theorem dL_known_452 : decode cL_known 452 = .ok (.iconst 0, 1) := by decide +kernel
theorem dL_known_453 : decode cL_known 453 = .ok (.sipush 1000, 3) := by decide +kernel
theorem dL_known_456 : decode cL_known 456 = .ok (.invokevirtual 75, 3) := by decide +kernel
theorem dL_known_459 : decode cL_known 459 = .ok (.sipush 277, 3) := by decide +kernel
theorem dL_known_462 : decode cL_known 462 = .ok (.if_icmp .ne 91, 3) := by decide +kernel
theorem dL_known_465 : decode cL_known 465 = .ok (.aload_n 0, 1) := by decide +kernel
theorem dL_known_466 : decode cL_known 466 = .ok (.iconst 0, 1) := by decide +kernel
theorem dL_known_467 : decode cL_known 467 = .ok (.sipush 277, 3) := by decide +kernel
theorem dL_known_470 : decode cL_known 470 = .ok (.invokevirtual 78, 3) := by decide +kernel
theorem dL_known_473 : decode cL_known 473 = .ok (.sipush 1000, 3) := by decide +kernel
theorem dL_known_476 : decode cL_known 476 = .ok (.if_icmp .ne 77, 3) := by decide +kernel
theorem dL_known_479 : decode cL_known 479 = .ok (.aload_n 0, 1) := by decide +kernel
theorem dL_known_480 : decode cL_known 480 = .ok (.iconst 0, 1) := by decide +kernel
theorem dL_known_481 : decode cL_known 481 = .ok (.sipush 276, 3) := by decide +kernel
theorem dL_known_484 : decode cL_known 484 = .ok (.invokevirtual 78, 3) := by decide +kernel
theorem dL_known_487 : decode cL_known 487 = .ok (.sipush 997, 3) := by decide +kernel
theorem dL_known_490 : decode cL_known 490 = .ok (.if_icmp .ne 63, 3) := by decide +kernel
theorem dL_known_493 : decode cL_known 493 = .ok (.aload_n 0, 1) := by decide +kernel
theorem dL_known_494 : decode cL_known 494 = .ok (.iconst 0, 1) := by decide +kernel
theorem dL_known_495 : decode cL_known 495 = .ok (.sipush 1000, 3) := by decide +kernel
theorem dL_known_498 : decode cL_known 498 = .ok (.sipush 268, 3) := by decide +kernel
theorem dL_known_501 : decode cL_known 501 = .ok (.invokevirtual 81, 3) := by decide +kernel
theorem dL_known_504 : decode cL_known 504 = .ok (.ifCond .ne 49, 3) := by decide +kernel
theorem dL_known_507 : decode cL_known 507 = .ok (.aload_n 0, 1) := by decide +kernel
theorem dL_known_508 : decode cL_known 508 = .ok (.iconst 0, 1) := by decide +kernel
theorem dL_known_509 : decode cL_known 509 = .ok (.sipush 1000, 3) := by decide +kernel
theorem dL_known_512 : decode cL_known 512 = .ok (.sipush 269, 3) := by decide +kernel
theorem dL_known_515 : decode cL_known 515 = .ok (.invokevirtual 81, 3) := by decide +kernel
theorem dL_known_518 : decode cL_known 518 = .ok (.iconst 1, 1) := by decide +kernel
theorem dL_known_519 : decode cL_known 519 = .ok (.if_icmp .ne 34, 3) := by decide +kernel
theorem dL_known_522 : decode cL_known 522 = .ok (.aload_n 0, 1) := by decide +kernel
theorem dL_known_523 : decode cL_known 523 = .ok (.iconst 0, 1) := by decide +kernel
theorem dL_known_524 : decode cL_known 524 = .ok (.sipush 1000, 3) := by decide +kernel
theorem dL_known_527 : decode cL_known 527 = .ok (.sipush 1000, 3) := by decide +kernel
theorem dL_known_530 : decode cL_known 530 = .ok (.invokevirtual 81, 3) := by decide +kernel
theorem dL_known_533 : decode cL_known 533 = .ok (.iconst 3, 1) := by decide +kernel
theorem dL_known_534 : decode cL_known 534 = .ok (.if_icmp .ne 19, 3) := by decide +kernel
theorem dL_known_537 : decode cL_known 537 = .ok (.aload_n 0, 1) := by decide +kernel
theorem dL_known_538 : decode cL_known 538 = .ok (.iconst 0, 1) := by decide +kernel
theorem dL_known_539 : decode cL_known 539 = .ok (.sipush 1000, 3) := by decide +kernel
theorem dL_known_542 : decode cL_known 542 = .ok (.sipush 1001, 3) := by decide +kernel
theorem dL_known_545 : decode cL_known 545 = .ok (.invokevirtual 81, 3) := by decide +kernel
theorem dL_known_548 : decode cL_known 548 = .ok (.bipush (-4), 2) := by decide +kernel
theorem dL_known_550 : decode cL_known 550 = .ok (.if_icmp .eq 5, 3) := by decide +kernel
theorem dL_known_553 : decode cL_known 553 = .ok (.iconst 0, 1) := by decide +kernel
theorem dL_known_554 : decode cL_known 554 = .ok (.ireturn, 1) := by decide +kernel
theorem dL_known_555 : decode cL_known 555 = .ok (.aload_n 0, 1) := by decide +kernel
theorem dL_known_556 : decode cL_known 556 = .ok (.iconst 0, 1) := by decide +kernel
theorem dL_known_557 : decode cL_known 557 = .ok (.sipush 1000, 3) := by decide +kernel
theorem dL_known_560 : decode cL_known 560 = .ok (.iconst 0, 1) := by decide +kernel
theorem dL_known_561 : decode cL_known 561 = .ok (.bipush 100, 2) := by decide +kernel
theorem dL_known_563 : decode cL_known 563 = .ok (.invokevirtual 71, 3) := by decide +kernel
theorem dL_known_566 : decode cL_known 566 = .ok (.iconst 3, 1) := by decide +kernel
theorem dL_known_567 : decode cL_known 567 = .ok (.if_icmp .ne 128, 3) := by decide +kernel
theorem dL_known_570 : decode cL_known 570 = .ok (.aload_n 0, 1) := by decide +kernel
theorem dL_known_571 : decode cL_known 571 = .ok (.iconst 0, 1) := by decide +kernel
theorem dL_known_572 : decode cL_known 572 = .ok (.iconst 3, 1) := by decide +kernel
theorem dL_known_573 : decode cL_known 573 = .ok (.invokevirtual 31, 3) := by decide +kernel
theorem dL_known_576 : decode cL_known 576 = .ok (.sipush 1000, 3) := by decide +kernel
theorem dL_known_579 : decode cL_known 579 = .ok (.if_icmp .ne 116, 3) := by decide +kernel
theorem dL_known_582 : decode cL_known 582 = .ok (.aload_n 0, 1) := by decide +kernel
theorem dL_known_583 : decode cL_known 583 = .ok (.iconst 0, 1) := by decide +kernel
theorem dL_known_584 : decode cL_known 584 = .ok (.sipush 1000, 3) := by decide +kernel
theorem dL_known_587 : decode cL_known 587 = .ok (.invokevirtual 68, 3) := by decide +kernel
theorem dL_known_590 : decode cL_known 590 = .ok (.bipush (-2), 2) := by decide +kernel
theorem dL_known_592 : decode cL_known 592 = .ok (.if_icmp .ne 103, 3) := by decide +kernel
theorem dL_known_595 : decode cL_known 595 = .ok (.aload_n 0, 1) := by decide +kernel
theorem dL_known_596 : decode cL_known 596 = .ok (.iconst 0, 1) := by decide +kernel
theorem dL_known_597 : decode cL_known 597 = .ok (.sipush 1000, 3) := by decide +kernel
theorem dL_known_600 : decode cL_known 600 = .ok (.invokevirtual 75, 3) := by decide +kernel
theorem dL_known_603 : decode cL_known 603 = .ok (.bipush (-2), 2) := by decide +kernel
theorem dL_known_605 : decode cL_known 605 = .ok (.if_icmp .ne 90, 3) := by decide +kernel
theorem dL_known_608 : decode cL_known 608 = .ok (.aload_n 0, 1) := by decide +kernel
theorem dL_known_609 : decode cL_known 609 = .ok (.iconst 0, 1) := by decide +kernel
theorem dL_known_610 : decode cL_known 610 = .ok (.iconst 1, 1) := by decide +kernel
theorem dL_known_611 : decode cL_known 611 = .ok (.invokevirtual 78, 3) := by decide +kernel
theorem dL_known_614 : decode cL_known 614 = .ok (.bipush (-2), 2) := by decide +kernel
theorem dL_known_616 : decode cL_known 616 = .ok (.if_icmp .ne 79, 3) := by decide +kernel
theorem dL_known_619 : decode cL_known 619 = .ok (.aload_n 0, 1) := by decide +kernel
theorem dL_known_620 : decode cL_known 620 = .ok (.iconst 0, 1) := by decide +kernel
theorem dL_known_621 : decode cL_known 621 = .ok (.sipush 1000, 3) := by decide +kernel
theorem dL_known_624 : decode cL_known 624 = .ok (.iconst 0, 1) := by decide +kernel
theorem dL_known_625 : decode cL_known 625 = .ok (.iconst 1, 1) := by decide +kernel
theorem dL_known_626 : decode cL_known 626 = .ok (.invokevirtual 71, 3) := by decide +kernel
theorem dL_known_629 : decode cL_known 629 = .ok (.bipush (-2), 2) := by decide +kernel
theorem dL_known_631 : decode cL_known 631 = .ok (.if_icmp .ne 64, 3) := by decide +kernel
theorem dL_known_634 : decode cL_known 634 = .ok (.aload_n 0, 1) := by decide +kernel
theorem dL_known_635 : decode cL_known 635 = .ok (.iconst 0, 1) := by decide +kernel
theorem dL_known_636 : decode cL_known 636 = .ok (.sipush 1000, 3) := by decide +kernel
theorem dL_known_639 : decode cL_known 639 = .ok (.sipush 1000, 3) := by decide +kernel
theorem dL_known_642 : decode cL_known 642 = .ok (.invokevirtual 81, 3) := by decide +kernel
theorem dL_known_645 : decode cL_known 645 = .ok (.ifCond .ne 50, 3) := by decide +kernel
theorem dL_known_648 : decode cL_known 648 = .ok (.aload_n 0, 1) := by decide +kernel
theorem dL_known_649 : decode cL_known 649 = .ok (.iconst 1, 1) := by decide +kernel
theorem dL_known_650 : decode cL_known 650 = .ok (.iconst 3, 1) := by decide +kernel
theorem dL_known_651 : decode cL_known 651 = .ok (.invokevirtual 31, 3) := by decide +kernel
theorem dL_known_654 : decode cL_known 654 = .ok (.sipush 385, 3) := by decide +kernel
theorem dL_known_657 : decode cL_known 657 = .ok (.if_icmp .ne 38, 3) := by decide +kernel
theorem dL_known_660 : decode cL_known 660 = .ok (.aload_n 0, 1) := by decide +kernel
theorem dL_known_661 : decode cL_known 661 = .ok (.iconst 1, 1) := by decide +kernel
theorem dL_known_662 : decode cL_known 662 = .ok (.bipush 9, 2) := by decide +kernel
theorem dL_known_664 : decode cL_known 664 = .ok (.invokevirtual 31, 3) := by decide +kernel
theorem dL_known_667 : decode cL_known 667 = .ok (.bipush 29, 2) := by decide +kernel
theorem dL_known_669 : decode cL_known 669 = .ok (.if_icmp .ne 26, 3) := by decide +kernel
theorem dL_known_672 : decode cL_known 672 = .ok (.aload_n 0, 1) := by decide +kernel
theorem dL_known_673 : decode cL_known 673 = .ok (.bipush 23, 2) := by decide +kernel
theorem dL_known_675 : decode cL_known 675 = .ok (.invokevirtual 13, 3) := by decide +kernel
theorem dL_known_678 : decode cL_known 678 = .ok (.ldc2_w 188, 3) := by decide +kernel
theorem dL_known_681 : decode cL_known 681 = .ok (.lcmp, 1) := by decide +kernel
theorem dL_known_682 : decode cL_known 682 = .ok (.ifCond .ne 13, 3) := by decide +kernel
theorem dL_known_685 : decode cL_known 685 = .ok (.aload_n 0, 1) := by decide +kernel
theorem dL_known_686 : decode cL_known 686 = .ok (.iconst 2, 1) := by decide +kernel
theorem dL_known_687 : decode cL_known 687 = .ok (.bipush 9, 2) := by decide +kernel
theorem dL_known_689 : decode cL_known 689 = .ok (.invokevirtual 31, 3) := by decide +kernel
theorem dL_known_692 : decode cL_known 692 = .ok (.ifCond .eq 5, 3) := by decide +kernel
theorem dL_known_695 : decode cL_known 695 = .ok (.iconst 0, 1) := by decide +kernel
theorem dL_known_696 : decode cL_known 696 = .ok (.ireturn, 1) := by decide +kernel
theorem dL_known_697 : decode cL_known 697 = .ok (.aload_n 0, 1) := by decide +kernel
theorem dL_known_698 : decode cL_known 698 = .ok (.iconst 0, 1) := by decide +kernel
theorem dL_known_699 : decode cL_known 699 = .ok (.invokevirtual 38, 3) := by decide +kernel
theorem dL_known_702 : decode cL_known 702 = .ok (.iconst 1, 1) := by decide +kernel
theorem dL_known_703 : decode cL_known 703 = .ok (.if_icmp .ne 125, 3) := by decide +kernel
theorem dL_known_706 : decode cL_known 706 = .ok (.aload_n 0, 1) := by decide +kernel
theorem dL_known_707 : decode cL_known 707 = .ok (.iconst 0, 1) := by decide +kernel
theorem dL_known_708 : decode cL_known 708 = .ok (.iconst 0, 1) := by decide +kernel
theorem dL_known_709 : decode cL_known 709 = .ok (.iconst 0, 1) := by decide +kernel
theorem dL_known_710 : decode cL_known 710 = .ok (.invokevirtual 87, 3) := by decide +kernel
theorem dL_known_713 : decode cL_known 713 = .ok (.sipush 277, 3) := by decide +kernel
theorem dL_known_716 : decode cL_known 716 = .ok (.if_icmp .ne 112, 3) := by decide +kernel
theorem dL_known_719 : decode cL_known 719 = .ok (.aload_n 0, 1) := by decide +kernel
theorem dL_known_720 : decode cL_known 720 = .ok (.iconst 0, 1) := by decide +kernel
theorem dL_known_721 : decode cL_known 721 = .ok (.iconst 0, 1) := by decide +kernel
theorem dL_known_722 : decode cL_known 722 = .ok (.iconst 1, 1) := by decide +kernel
theorem dL_known_723 : decode cL_known 723 = .ok (.invokevirtual 87, 3) := by decide +kernel
theorem dL_known_726 : decode cL_known 726 = .ok (.iconst 3, 1) := by decide +kernel
theorem dL_known_727 : decode cL_known 727 = .ok (.if_icmp .ne 101, 3) := by decide +kernel
theorem dL_known_730 : decode cL_known 730 = .ok (.aload_n 0, 1) := by decide +kernel
theorem dL_known_731 : decode cL_known 731 = .ok (.iconst 0, 1) := by decide +kernel
theorem dL_known_732 : decode cL_known 732 = .ok (.iconst 0, 1) := by decide +kernel
theorem dL_known_733 : decode cL_known 733 = .ok (.iconst 2, 1) := by decide +kernel
theorem dL_known_734 : decode cL_known 734 = .ok (.invokevirtual 87, 3) := by decide +kernel
theorem dL_known_737 : decode cL_known 737 = .ok (.bipush 50, 2) := by decide +kernel
theorem dL_known_739 : decode cL_known 739 = .ok (.if_icmp .ne 89, 3) := by decide +kernel
theorem dL_known_742 : decode cL_known 742 = .ok (.aload_n 0, 1) := by decide +kernel
theorem dL_known_743 : decode cL_known 743 = .ok (.iconst 0, 1) := by decide +kernel
theorem dL_known_744 : decode cL_known 744 = .ok (.iconst 0, 1) := by decide +kernel
theorem dL_known_745 : decode cL_known 745 = .ok (.iconst 3, 1) := by decide +kernel
theorem dL_known_746 : decode cL_known 746 = .ok (.invokevirtual 87, 3) := by decide +kernel
theorem dL_known_749 : decode cL_known 749 = .ok (.sipush 831, 3) := by decide +kernel
theorem dL_known_752 : decode cL_known 752 = .ok (.if_icmp .ne 76, 3) := by decide +kernel
theorem dL_known_755 : decode cL_known 755 = .ok (.aload_n 0, 1) := by decide +kernel
theorem dL_known_756 : decode cL_known 756 = .ok (.iconst 0, 1) := by decide +kernel
theorem dL_known_757 : decode cL_known 757 = .ok (.iconst 1, 1) := by decide +kernel
theorem dL_known_758 : decode cL_known 758 = .ok (.iconst 0, 1) := by decide +kernel
theorem dL_known_759 : decode cL_known 759 = .ok (.invokevirtual 87, 3) := by decide +kernel
theorem dL_known_762 : decode cL_known 762 = .ok (.bipush (-4), 2) := by decide +kernel
theorem dL_known_764 : decode cL_known 764 = .ok (.if_icmp .ne 64, 3) := by decide +kernel
theorem dL_known_767 : decode cL_known 767 = .ok (.aload_n 0, 1) := by decide +kernel
theorem dL_known_768 : decode cL_known 768 = .ok (.iconst 0, 1) := by decide +kernel
theorem dL_known_769 : decode cL_known 769 = .ok (.iconst 0, 1) := by decide +kernel
theorem dL_known_770 : decode cL_known 770 = .ok (.iconst 0, 1) := by decide +kernel
theorem dL_known_771 : decode cL_known 771 = .ok (.invokevirtual 34, 3) := by decide +kernel
theorem dL_known_774 : decode cL_known 774 = .ok (.sipush 178, 3) := by decide +kernel
theorem dL_known_777 : decode cL_known 777 = .ok (.if_icmp .ne 51, 3) := by decide +kernel
theorem dL_known_780 : decode cL_known 780 = .ok (.aload_n 0, 1) := by decide +kernel
theorem dL_known_781 : decode cL_known 781 = .ok (.iconst 0, 1) := by decide +kernel
theorem dL_known_782 : decode cL_known 782 = .ok (.iconst 0, 1) := by decide +kernel
theorem dL_known_783 : decode cL_known 783 = .ok (.iconst 1, 1) := by decide +kernel
theorem dL_known_784 : decode cL_known 784 = .ok (.invokevirtual 34, 3) := by decide +kernel
theorem dL_known_787 : decode cL_known 787 = .ok (.bipush 77, 2) := by decide +kernel
theorem dL_known_789 : decode cL_known 789 = .ok (.if_icmp .ne 39, 3) := by decide +kernel
theorem dL_known_792 : decode cL_known 792 = .ok (.aload_n 0, 1) := by decide +kernel
theorem dL_known_793 : decode cL_known 793 = .ok (.iconst 0, 1) := by decide +kernel
theorem dL_known_794 : decode cL_known 794 = .ok (.iconst 3, 1) := by decide +kernel
theorem dL_known_795 : decode cL_known 795 = .ok (.iconst 0, 1) := by decide +kernel
theorem dL_known_796 : decode cL_known 796 = .ok (.invokevirtual 34, 3) := by decide +kernel
theorem dL_known_799 : decode cL_known 799 = .ok (.sipush 277, 3) := by decide +kernel
theorem dL_known_802 : decode cL_known 802 = .ok (.if_icmp .ne 26, 3) := by decide +kernel
theorem dL_known_805 : decode cL_known 805 = .ok (.aload_n 0, 1) := by decide +kernel
theorem dL_known_806 : decode cL_known 806 = .ok (.iconst 0, 1) := by decide +kernel
theorem dL_known_807 : decode cL_known 807 = .ok (.iconst 4, 1) := by decide +kernel
theorem dL_known_808 : decode cL_known 808 = .ok (.iconst 0, 1) := by decide +kernel
theorem dL_known_809 : decode cL_known 809 = .ok (.invokevirtual 34, 3) := by decide +kernel
theorem dL_known_812 : decode cL_known 812 = .ok (.bipush (-4), 2) := by decide +kernel
theorem dL_known_814 : decode cL_known 814 = .ok (.if_icmp .ne 14, 3) := by decide +kernel
theorem dL_known_817 : decode cL_known 817 = .ok (.aload_n 0, 1) := by decide +kernel
theorem dL_known_818 : decode cL_known 818 = .ok (.iconst 0, 1) := by decide +kernel
theorem dL_known_819 : decode cL_known 819 = .ok (.bipush 12, 2) := by decide +kernel
theorem dL_known_821 : decode cL_known 821 = .ok (.invokevirtual 31, 3) := by decide +kernel
theorem dL_known_824 : decode cL_known 824 = .ok (.iconst 4, 1) := by decide +kernel
theorem dL_known_825 : decode cL_known 825 = .ok (.if_icmp .eq 5, 3) := by decide +kernel
theorem dL_known_828 : decode cL_known 828 = .ok (.iconst 0, 1) := by decide +kernel
theorem dL_known_829 : decode cL_known 829 = .ok (.ireturn, 1) := by decide +kernel
theorem dL_known_830 : decode cL_known 830 = .ok (.aload_n 0, 1) := by decide +kernel
theorem dL_known_831 : decode cL_known 831 = .ok (.iconst 0, 1) := by decide +kernel
theorem dL_known_832 : decode cL_known 832 = .ok (.bipush 100, 2) := by decide +kernel
theorem dL_known_834 : decode cL_known 834 = .ok (.sipush 500, 3) := by decide +kernel
theorem dL_known_837 : decode cL_known 837 = .ok (.invokevirtual 46, 3) := by decide +kernel
theorem dL_known_840 : decode cL_known 840 = .ok (.iconst 1, 1) := by decide +kernel
theorem dL_known_841 : decode cL_known 841 = .ok (.if_icmp .ne 135, 3) := by decide +kernel
theorem dL_known_844 : decode cL_known 844 = .ok (.aload_n 0, 1) := by decide +kernel
theorem dL_known_845 : decode cL_known 845 = .ok (.iconst 2, 1) := by decide +kernel
theorem dL_known_846 : decode cL_known 846 = .ok (.sipush 1000, 3) := by decide +kernel
theorem dL_known_849 : decode cL_known 849 = .ok (.invokevirtual 68, 3) := by decide +kernel
theorem dL_known_852 : decode cL_known 852 = .ok (.bipush 25, 2) := by decide +kernel
theorem dL_known_854 : decode cL_known 854 = .ok (.if_icmp .ne 122, 3) := by decide +kernel
theorem dL_known_857 : decode cL_known 857 = .ok (.aload_n 0, 1) := by decide +kernel
theorem dL_known_858 : decode cL_known 858 = .ok (.iconst 2, 1) := by decide +kernel
theorem dL_known_859 : decode cL_known 859 = .ok (.sipush 1000, 3) := by decide +kernel
theorem dL_known_862 : decode cL_known 862 = .ok (.iconst 5, 1) := by decide +kernel
theorem dL_known_863 : decode cL_known 863 = .ok (.bipush 100, 2) := by decide +kernel
theorem dL_known_865 : decode cL_known 865 = .ok (.invokevirtual 71, 3) := by decide +kernel
theorem dL_known_868 : decode cL_known 868 = .ok (.iconst 4, 1) := by decide +kernel
theorem dL_known_869 : decode cL_known 869 = .ok (.if_icmp .ne 107, 3) := by decide +kernel
theorem dL_known_872 : decode cL_known 872 = .ok (.aload_n 0, 1) := by decide +kernel
theorem dL_known_873 : decode cL_known 873 = .ok (.iconst 2, 1) := by decide +kernel
theorem dL_known_874 : decode cL_known 874 = .ok (.iconst 3, 1) := by decide +kernel
theorem dL_known_875 : decode cL_known 875 = .ok (.invokevirtual 31, 3) := by decide +kernel
theorem dL_known_878 : decode cL_known 878 = .ok (.bipush 104, 2) := by decide +kernel
theorem dL_known_880 : decode cL_known 880 = .ok (.if_icmp .ne 96, 3) := by decide +kernel
theorem dL_known_883 : decode cL_known 883 = .ok (.aload_n 0, 1) := by decide +kernel
theorem dL_known_884 : decode cL_known 884 = .ok (.iconst 2, 1) := by decide +kernel
theorem dL_known_885 : decode cL_known 885 = .ok (.iconst 0, 1) := by decide +kernel
theorem dL_known_886 : decode cL_known 886 = .ok (.iconst 0, 1) := by decide +kernel
theorem dL_known_887 : decode cL_known 887 = .ok (.invokevirtual 34, 3) := by decide +kernel
theorem dL_known_890 : decode cL_known 890 = .ok (.iconst 4, 1) := by decide +kernel
theorem dL_known_891 : decode cL_known 891 = .ok (.if_icmp .ne 85, 3) := by decide +kernel
theorem dL_known_894 : decode cL_known 894 = .ok (.aload_n 0, 1) := by decide +kernel
theorem dL_known_895 : decode cL_known 895 = .ok (.iconst 2, 1) := by decide +kernel
theorem dL_known_896 : decode cL_known 896 = .ok (.iconst 0, 1) := by decide +kernel
theorem dL_known_897 : decode cL_known 897 = .ok (.iconst 1, 1) := by decide +kernel
theorem dL_known_898 : decode cL_known 898 = .ok (.invokevirtual 34, 3) := by decide +kernel
theorem dL_known_901 : decode cL_known 901 = .ok (.sipush 2000, 3) := by decide +kernel
theorem dL_known_904 : decode cL_known 904 = .ok (.if_icmp .ne 72, 3) := by decide +kernel
theorem dL_known_907 : decode cL_known 907 = .ok (.aload_n 0, 1) := by decide +kernel
theorem dL_known_908 : decode cL_known 908 = .ok (.iconst 2, 1) := by decide +kernel
theorem dL_known_909 : decode cL_known 909 = .ok (.bipush 50, 2) := by decide +kernel
theorem dL_known_911 : decode cL_known 911 = .ok (.invokevirtual 53, 3) := by decide +kernel
theorem dL_known_914 : decode cL_known 914 = .ok (.iconst 3, 1) := by decide +kernel
theorem dL_known_915 : decode cL_known 915 = .ok (.if_icmp .ne 61, 3) := by decide +kernel
theorem dL_known_918 : decode cL_known 918 = .ok (.aload_n 0, 1) := by decide +kernel
theorem dL_known_919 : decode cL_known 919 = .ok (.iconst 2, 1) := by decide +kernel
theorem dL_known_920 : decode cL_known 920 = .ok (.bipush 100, 2) := by decide +kernel
theorem dL_known_922 : decode cL_known 922 = .ok (.invokevirtual 75, 3) := by decide +kernel
theorem dL_known_925 : decode cL_known 925 = .ok (.ifCond .ne 51, 3) := by decide +kernel
theorem dL_known_928 : decode cL_known 928 = .ok (.aload_n 0, 1) := by decide +kernel
theorem dL_known_929 : decode cL_known 929 = .ok (.iconst 2, 1) := by decide +kernel
theorem dL_known_930 : decode cL_known 930 = .ok (.bipush 100, 2) := by decide +kernel
theorem dL_known_932 : decode cL_known 932 = .ok (.bipush 105, 2) := by decide +kernel
theorem dL_known_934 : decode cL_known 934 = .ok (.invokevirtual 81, 3) := by decide +kernel
theorem dL_known_937 : decode cL_known 937 = .ok (.bipush (-4), 2) := by decide +kernel
theorem dL_known_939 : decode cL_known 939 = .ok (.if_icmp .ne 37, 3) := by decide +kernel
theorem dL_known_942 : decode cL_known 942 = .ok (.aload_n 0, 1) := by decide +kernel
theorem dL_known_943 : decode cL_known 943 = .ok (.iconst 2, 1) := by decide +kernel
theorem dL_known_944 : decode cL_known 944 = .ok (.bipush 100, 2) := by decide +kernel
theorem dL_known_946 : decode cL_known 946 = .ok (.bipush 104, 2) := by decide +kernel
theorem dL_known_948 : decode cL_known 948 = .ok (.invokevirtual 81, 3) := by decide +kernel
theorem dL_known_951 : decode cL_known 951 = .ok (.ifCond .ne 25, 3) := by decide +kernel
theorem dL_known_954 : decode cL_known 954 = .ok (.aload_n 0, 1) := by decide +kernel
theorem dL_known_955 : decode cL_known 955 = .ok (.iconst 2, 1) := by decide +kernel
theorem dL_known_956 : decode cL_known 956 = .ok (.sipush 500, 3) := by decide +kernel
theorem dL_known_959 : decode cL_known 959 = .ok (.invokevirtual 78, 3) := by decide +kernel
theorem dL_known_962 : decode cL_known 962 = .ok (.bipush (-4), 2) := by decide +kernel
theorem dL_known_964 : decode cL_known 964 = .ok (.if_icmp .ne 12, 3) := by decide +kernel
theorem dL_known_967 : decode cL_known 967 = .ok (.aload_n 0, 1) := by decide +kernel
theorem dL_known_968 : decode cL_known 968 = .ok (.iconst 0, 1) := by decide +kernel
theorem dL_known_969 : decode cL_known 969 = .ok (.iconst 3, 1) := by decide +kernel
theorem dL_known_970 : decode cL_known 970 = .ok (.invokevirtual 27, 3) := by decide +kernel
theorem dL_known_973 : decode cL_known 973 = .ok (.ifCond .eq 5, 3) := by decide +kernel
theorem dL_known_976 : decode cL_known 976 = .ok (.iconst 0, 1) := by decide +kernel
theorem dL_known_977 : decode cL_known 977 = .ok (.ireturn, 1) := by decide +kernel
theorem dL_known_978 : decode cL_known 978 = .ok (.aload_n 0, 1) := by decide +kernel
theorem dL_known_979 : decode cL_known 979 = .ok (.iconst 2, 1) := by decide +kernel
theorem dL_known_980 : decode cL_known 980 = .ok (.iconst 0, 1) := by decide +kernel
theorem dL_known_981 : decode cL_known 981 = .ok (.invokevirtual 53, 3) := by decide +kernel
theorem dL_known_984 : decode cL_known 984 = .ok (.bipush 50, 2) := by decide +kernel
theorem dL_known_986 : decode cL_known 986 = .ok (.if_icmp .ne 49, 3) := by decide +kernel
theorem dL_known_989 : decode cL_known 989 = .ok (.aload_n 0, 1) := by decide +kernel
theorem dL_known_990 : decode cL_known 990 = .ok (.iconst 2, 1) := by decide +kernel
theorem dL_known_991 : decode cL_known 991 = .ok (.sipush 142, 3) := by decide +kernel
theorem dL_known_994 : decode cL_known 994 = .ok (.invokevirtual 68, 3) := by decide +kernel
theorem dL_known_997 : decode cL_known 997 = .ok (.ifCond .ne 38, 3) := by decide +kernel
theorem dL_known_1000 : decode cL_known 1000 = .ok (.aload_n 0, 1) := by decide +kernel
theorem dL_known_1001 : decode cL_known 1001 = .ok (.iconst 2, 1) := by decide +kernel
theorem dL_known_1002 : decode cL_known 1002 = .ok (.iconst 5, 1) := by decide +kernel
theorem dL_known_1003 : decode cL_known 1003 = .ok (.invokevirtual 31, 3) := by decide +kernel
theorem dL_known_1006 : decode cL_known 1006 = .ok (.ldc 190, 2) := by decide +kernel
theorem dL_known_1008 : decode cL_known 1008 = .ok (.if_icmp .ne 27, 3) := by decide +kernel
theorem dL_known_1011 : decode cL_known 1011 = .ok (.aload_n 0, 1) := by decide +kernel
theorem dL_known_1012 : decode cL_known 1012 = .ok (.iconst 0, 1) := by decide +kernel
theorem dL_known_1013 : decode cL_known 1013 = .ok (.ldc 190, 2) := by decide +kernel
theorem dL_known_1015 : decode cL_known 1015 = .ok (.invokevirtual 84, 3) := by decide +kernel
theorem dL_known_1018 : decode cL_known 1018 = .ok (.ifCond .ne 17, 3) := by decide +kernel
theorem dL_known_1021 : decode cL_known 1021 = .ok (.aload_n 0, 1) := by decide +kernel
theorem dL_known_1022 : decode cL_known 1022 = .ok (.iconst 2, 1) := by decide +kernel
theorem dL_known_1023 : decode cL_known 1023 = .ok (.ldc 190, 2) := by decide +kernel
theorem dL_known_1025 : decode cL_known 1025 = .ok (.invokevirtual 84, 3) := by decide +kernel
theorem dL_known_1028 : decode cL_known 1028 = .ok (.ifCond .le 7, 3) := by decide +kernel
theorem dL_known_1031 : decode cL_known 1031 = .ok (.iconst 1, 1) := by decide +kernel
theorem dL_known_1032 : decode cL_known 1032 = .ok (.goto 4, 3) := by decide +kernel
theorem dL_known_1035 : decode cL_known 1035 = .ok (.iconst 0, 1) := by decide +kernel
theorem dL_known_1036 : decode cL_known 1036 = .ok (.ireturn, 1) := by decide +kernel
theorem dL_law_0 : decode cL_law 0 = .ok (.new 14, 3) := by decide +kernel
theorem dL_law_3 : decode cL_law 3 = .ok (.dup, 1) := by decide +kernel
theorem dL_law_4 : decode cL_law 4 = .ok (.invokespecial 107, 3) := by decide +kernel
theorem dL_law_7 : decode cL_law 7 = .ok (.astore_n 1, 1) := by decide +kernel
theorem dL_law_8 : decode cL_law 8 = .ok (.aload_n 1, 1) := by decide +kernel
theorem dL_law_9 : decode cL_law 9 = .ok (.invokestatic 191, 3) := by decide +kernel
theorem dL_law_12 : decode cL_law 12 = .ok (.ifCond .eq 15, 3) := by decide +kernel
theorem dL_law_15 : decode cL_law 15 = .ok (.invokestatic 195, 3) := by decide +kernel
theorem dL_law_18 : decode cL_law 18 = .ok (.ifCond .eq 9, 3) := by decide +kernel
theorem dL_law_21 : decode cL_law 21 = .ok (.invokestatic 199, 3) := by decide +kernel
theorem dL_law_24 : decode cL_law 24 = .ok (.ifCond .ne 5, 3) := by decide +kernel
theorem dL_law_27 : decode cL_law 27 = .ok (.iconst 0, 1) := by decide +kernel
theorem dL_law_28 : decode cL_law 28 = .ok (.ireturn, 1) := by decide +kernel
theorem dL_law_29 : decode cL_law 29 = .ok (.iconst 1, 1) := by decide +kernel
theorem dL_law_30 : decode cL_law 30 = .ok (.istore_n 2, 1) := by decide +kernel
theorem dL_law_31 : decode cL_law 31 = .ok (.iload_n 2, 1) := by decide +kernel
theorem dL_law_32 : decode cL_law 32 = .ok (.bipush 6, 2) := by decide +kernel
theorem dL_law_34 : decode cL_law 34 = .ok (.if_icmp .ge 52, 3) := by decide +kernel
theorem dL_law_37 : decode cL_law 37 = .ok (.aload_n 1, 1) := by decide +kernel
theorem dL_law_38 : decode cL_law 38 = .ok (.iload_n 2, 1) := by decide +kernel
theorem dL_law_39 : decode cL_law 39 = .ok (.bipush 100, 2) := by decide +kernel
theorem dL_law_41 : decode cL_law 41 = .ok (.aload_n 0, 1) := by decide +kernel
theorem dL_law_42 : decode cL_law 42 = .ok (.iload_n 2, 1) := by decide +kernel
theorem dL_law_43 : decode cL_law 43 = .ok (.invokestatic 202, 3) := by decide +kernel
theorem dL_law_46 : decode cL_law 46 = .ok (.sipush 5000, 3) := by decide +kernel
theorem dL_law_49 : decode cL_law 49 = .ok (.invokestatic 206, 3) := by decide +kernel
theorem dL_law_52 : decode cL_law 52 = .ok (.iadd, 1) := by decide +kernel
theorem dL_law_53 : decode cL_law 53 = .ok (.iconst 1, 1) := by decide +kernel
theorem dL_law_54 : decode cL_law 54 = .ok (.aload_n 0, 1) := by decide +kernel
theorem dL_law_55 : decode cL_law 55 = .ok (.bipush 20, 2) := by decide +kernel
theorem dL_law_57 : decode cL_law 57 = .ok (.iload_n 2, 1) := by decide +kernel
theorem dL_law_58 : decode cL_law 58 = .ok (.iadd, 1) := by decide +kernel
theorem dL_law_59 : decode cL_law 59 = .ok (.invokestatic 202, 3) := by decide +kernel
theorem dL_law_62 : decode cL_law 62 = .ok (.sipush 500, 3) := by decide +kernel
theorem dL_law_65 : decode cL_law 65 = .ok (.invokestatic 206, 3) := by decide +kernel
theorem dL_law_68 : decode cL_law 68 = .ok (.iadd, 1) := by decide +kernel
theorem dL_law_69 : decode cL_law 69 = .ok (.invokevirtual 46, 3) := by decide +kernel
theorem dL_law_72 : decode cL_law 72 = .ok (.iload_n 2, 1) := by decide +kernel
theorem dL_law_73 : decode cL_law 73 = .ok (.iconst 1, 1) := by decide +kernel
theorem dL_law_74 : decode cL_law 74 = .ok (.iadd, 1) := by decide +kernel
theorem dL_law_75 : decode cL_law 75 = .ok (.if_icmp .eq 5, 3) := by decide +kernel
theorem dL_law_78 : decode cL_law 78 = .ok (.iconst 0, 1) := by decide +kernel
theorem dL_law_79 : decode cL_law 79 = .ok (.ireturn, 1) := by decide +kernel
theorem dL_law_80 : decode cL_law 80 = .ok (.iinc 2 1, 3) := by decide +kernel
theorem dL_law_83 : decode cL_law 83 = .ok (.goto (-52), 3) := by decide +kernel
theorem dL_law_86 : decode cL_law 86 = .ok (.iconst 0, 1) := by decide +kernel
theorem dL_law_87 : decode cL_law 87 = .ok (.istore_n 2, 1) := by decide +kernel
theorem dL_law_88 : decode cL_law 88 = .ok (.iload_n 2, 1) := by decide +kernel
theorem dL_law_89 : decode cL_law 89 = .ok (.bipush 10, 2) := by decide +kernel
theorem dL_law_91 : decode cL_law 91 = .ok (.if_icmp .ge 56, 3) := by decide +kernel
theorem dL_law_94 : decode cL_law 94 = .ok (.aload_n 1, 1) := by decide +kernel
theorem dL_law_95 : decode cL_law 95 = .ok (.sipush 500, 3) := by decide +kernel
theorem dL_law_98 : decode cL_law 98 = .ok (.iload_n 2, 1) := by decide +kernel
theorem dL_law_99 : decode cL_law 99 = .ok (.imul, 1) := by decide +kernel
theorem dL_law_100 : decode cL_law 100 = .ok (.aload_n 0, 1) := by decide +kernel
theorem dL_law_101 : decode cL_law 101 = .ok (.bipush 40, 2) := by decide +kernel
theorem dL_law_103 : decode cL_law 103 = .ok (.iload_n 2, 1) := by decide +kernel
theorem dL_law_104 : decode cL_law 104 = .ok (.iadd, 1) := by decide +kernel
theorem dL_law_105 : decode cL_law 105 = .ok (.invokestatic 202, 3) := by decide +kernel
theorem dL_law_108 : decode cL_law 108 = .ok (.sipush 5000, 3) := by decide +kernel
theorem dL_law_111 : decode cL_law 111 = .ok (.invokestatic 206, 3) := by decide +kernel
theorem dL_law_114 : decode cL_law 114 = .ok (.sipush 1000, 3) := by decide +kernel
theorem dL_law_117 : decode cL_law 117 = .ok (.aload_n 0, 1) := by decide +kernel
theorem dL_law_118 : decode cL_law 118 = .ok (.bipush 60, 2) := by decide +kernel
theorem dL_law_120 : decode cL_law 120 = .ok (.iload_n 2, 1) := by decide +kernel
theorem dL_law_121 : decode cL_law 121 = .ok (.iadd, 1) := by decide +kernel
theorem dL_law_122 : decode cL_law 122 = .ok (.invokestatic 202, 3) := by decide +kernel
theorem dL_law_125 : decode cL_law 125 = .ok (.sipush 9000, 3) := by decide +kernel
theorem dL_law_128 : decode cL_law 128 = .ok (.invokestatic 206, 3) := by decide +kernel
theorem dL_law_131 : decode cL_law 131 = .ok (.iadd, 1) := by decide +kernel
theorem dL_law_132 : decode cL_law 132 = .ok (.invokevirtual 58, 3) := by decide +kernel
theorem dL_law_135 : decode cL_law 135 = .ok (.iload_n 2, 1) := by decide +kernel
theorem dL_law_136 : decode cL_law 136 = .ok (.if_icmp .eq 5, 3) := by decide +kernel
theorem dL_law_139 : decode cL_law 139 = .ok (.iconst 0, 1) := by decide +kernel
theorem dL_law_140 : decode cL_law 140 = .ok (.ireturn, 1) := by decide +kernel
theorem dL_law_141 : decode cL_law 141 = .ok (.iinc 2 1, 3) := by decide +kernel
theorem dL_law_144 : decode cL_law 144 = .ok (.goto (-56), 3) := by decide +kernel
theorem dL_law_147 : decode cL_law 147 = .ok (.aload_n 1, 1) := by decide +kernel
theorem dL_law_148 : decode cL_law 148 = .ok (.bipush 6, 2) := by decide +kernel
theorem dL_law_150 : decode cL_law 150 = .ok (.bipush 100, 2) := by decide +kernel
theorem dL_law_152 : decode cL_law 152 = .ok (.iconst 1, 1) := by decide +kernel
theorem dL_law_153 : decode cL_law 153 = .ok (.invokevirtual 46, 3) := by decide +kernel
theorem dL_law_156 : decode cL_law 156 = .ok (.bipush (-3), 2) := by decide +kernel
theorem dL_law_158 : decode cL_law 158 = .ok (.if_icmp .ne 99, 3) := by decide +kernel
theorem dL_law_161 : decode cL_law 161 = .ok (.aload_n 1, 1) := by decide +kernel
theorem dL_law_162 : decode cL_law 162 = .ok (.bipush 6, 2) := by decide +kernel
theorem dL_law_164 : decode cL_law 164 = .ok (.bipush 99, 2) := by decide +kernel
theorem dL_law_166 : decode cL_law 166 = .ok (.iconst 1, 1) := by decide +kernel
theorem dL_law_167 : decode cL_law 167 = .ok (.invokevirtual 46, 3) := by decide +kernel
theorem dL_law_170 : decode cL_law 170 = .ok (.iconst (-1), 1) := by decide +kernel
theorem dL_law_171 : decode cL_law 171 = .ok (.if_icmp .ne 86, 3) := by decide +kernel
theorem dL_law_174 : decode cL_law 174 = .ok (.aload_n 1, 1) := by decide +kernel
theorem dL_law_175 : decode cL_law 175 = .ok (.sipush 20000, 3) := by decide +kernel
theorem dL_law_178 : decode cL_law 178 = .ok (.sipush 20000, 3) := by decide +kernel
theorem dL_law_181 : decode cL_law 181 = .ok (.sipush 1000, 3) := by decide +kernel
theorem dL_law_184 : decode cL_law 184 = .ok (.invokevirtual 58, 3) := by decide +kernel
theorem dL_law_187 : decode cL_law 187 = .ok (.bipush (-3), 2) := by decide +kernel
theorem dL_law_189 : decode cL_law 189 = .ok (.if_icmp .ne 68, 3) := by decide +kernel
theorem dL_law_192 : decode cL_law 192 = .ok (.aload_n 1, 1) := by decide +kernel
theorem dL_law_193 : decode cL_law 193 = .ok (.iconst 0, 1) := by decide +kernel
theorem dL_law_194 : decode cL_law 194 = .ok (.aload_n 1, 1) := by decide +kernel
theorem dL_law_195 : decode cL_law 195 = .ok (.iconst 0, 1) := by decide +kernel
theorem dL_law_196 : decode cL_law 196 = .ok (.iconst 1, 1) := by decide +kernel
theorem dL_law_197 : decode cL_law 197 = .ok (.invokevirtual 31, 3) := by decide +kernel
theorem dL_law_200 : decode cL_law 200 = .ok (.sipush 1000, 3) := by decide +kernel
theorem dL_law_203 : decode cL_law 203 = .ok (.invokevirtual 58, 3) := by decide +kernel
theorem dL_law_206 : decode cL_law 206 = .ok (.bipush (-2), 2) := by decide +kernel
theorem dL_law_208 : decode cL_law 208 = .ok (.if_icmp .ne 49, 3) := by decide +kernel
theorem dL_law_211 : decode cL_law 211 = .ok (.aload_n 1, 1) := by decide +kernel
theorem dL_law_212 : decode cL_law 212 = .ok (.bipush 100, 2) := by decide +kernel
theorem dL_law_214 : decode cL_law 214 = .ok (.iconst 1, 1) := by decide +kernel
theorem dL_law_215 : decode cL_law 215 = .ok (.iconst 0, 1) := by decide +kernel
theorem dL_law_216 : decode cL_law 216 = .ok (.invokevirtual 91, 3) := by decide +kernel
theorem dL_law_219 : decode cL_law 219 = .ok (.bipush (-2), 2) := by decide +kernel
theorem dL_law_221 : decode cL_law 221 = .ok (.if_icmp .ne 36, 3) := by decide +kernel
theorem dL_law_224 : decode cL_law 224 = .ok (.aload_n 1, 1) := by decide +kernel
theorem dL_law_225 : decode cL_law 225 = .ok (.sipush 3000, 3) := by decide +kernel
theorem dL_law_228 : decode cL_law 228 = .ok (.bipush 20, 2) := by decide +kernel
theorem dL_law_230 : decode cL_law 230 = .ok (.invokevirtual 94, 3) := by decide +kernel
theorem dL_law_233 : decode cL_law 233 = .ok (.bipush (-2), 2) := by decide +kernel
theorem dL_law_235 : decode cL_law 235 = .ok (.if_icmp .ne 22, 3) := by decide +kernel
theorem dL_law_238 : decode cL_law 238 = .ok (.aload_n 1, 1) := by decide +kernel
theorem dL_law_239 : decode cL_law 239 = .ok (.bipush 100, 2) := by decide +kernel
theorem dL_law_241 : decode cL_law 241 = .ok (.iconst 1, 1) := by decide +kernel
theorem dL_law_242 : decode cL_law 242 = .ok (.iconst (-1), 1) := by decide +kernel
theorem dL_law_243 : decode cL_law 243 = .ok (.invokevirtual 91, 3) := by decide +kernel
theorem dL_law_246 : decode cL_law 246 = .ok (.iconst (-1), 1) := by decide +kernel
theorem dL_law_247 : decode cL_law 247 = .ok (.if_icmp .ne 10, 3) := by decide +kernel
theorem dL_law_250 : decode cL_law 250 = .ok (.aload_n 1, 1) := by decide +kernel
theorem dL_law_251 : decode cL_law 251 = .ok (.invokestatic 191, 3) := by decide +kernel
theorem dL_law_254 : decode cL_law 254 = .ok (.ifCond .ne 5, 3) := by decide +kernel
theorem dL_law_257 : decode cL_law 257 = .ok (.iconst 0, 1) := by decide +kernel
theorem dL_law_258 : decode cL_law 258 = .ok (.ireturn, 1) := by decide +kernel
theorem dL_law_259 : decode cL_law 259 = .ok (.bipush 16, 2) := by decide +kernel
theorem dL_law_261 : decode cL_law 261 = .ok (.newarray .long, 2) := by decide +kernel
theorem dL_law_263 : decode cL_law 263 = .ok (.astore_n 2, 1) := by decide +kernel
theorem dL_law_264 : decode cL_law 264 = .ok (.iconst 0, 1) := by decide +kernel
theorem dL_law_265 : decode cL_law 265 = .ok (.istore_n 3, 1) := by decide +kernel
theorem dL_law_266 : decode cL_law 266 = .ok (.iconst 0, 1) := by decide +kernel
theorem dL_law_267 : decode cL_law 267 = .ok (.istore 4, 2) := by decide +kernel
theorem dL_law_269 : decode cL_law 269 = .ok (.iload 4, 2) := by decide +kernel
theorem dL_law_271 : decode cL_law 271 = .ok (.bipush 12, 2) := by decide +kernel
theorem dL_law_273 : decode cL_law 273 = .ok (.if_icmp .ge 278, 3) := by decide +kernel
theorem dL_law_276 : decode cL_law 276 = .ok (.aload_n 0, 1) := by decide +kernel
theorem dL_law_277 : decode cL_law 277 = .ok (.bipush 80, 2) := by decide +kernel
theorem dL_law_279 : decode cL_law 279 = .ok (.iload 4, 2) := by decide +kernel
theorem dL_law_281 : decode cL_law 281 = .ok (.iadd, 1) := by decide +kernel
theorem dL_law_282 : decode cL_law 282 = .ok (.invokestatic 202, 3) := by decide +kernel
theorem dL_law_285 : decode cL_law 285 = .ok (.istore 5, 2) := by decide +kernel
theorem dL_law_287 : decode cL_law 287 = .ok (.iload 5, 2) := by decide +kernel
theorem dL_law_289 : decode cL_law 289 = .ok (.iconst 3, 1) := by decide +kernel
theorem dL_law_290 : decode cL_law 290 = .ok (.ishr, 1) := by decide +kernel
theorem dL_law_291 : decode cL_law 291 = .ok (.bipush 10, 2) := by decide +kernel
theorem dL_law_293 : decode cL_law 293 = .ok (.invokestatic 206, 3) := by decide +kernel
theorem dL_law_296 : decode cL_law 296 = .ok (.istore 6, 2) := by decide +kernel
theorem dL_law_298 : decode cL_law 298 = .ok (.aload_n 2, 1) := by decide +kernel
theorem dL_law_299 : decode cL_law 299 = .ok (.iload_n 3, 1) := by decide +kernel
theorem dL_law_300 : decode cL_law 300 = .ok (.aload_n 1, 1) := by decide +kernel
theorem dL_law_301 : decode cL_law 301 = .ok (.invokestatic 42, 3) := by decide +kernel
theorem dL_law_304 : decode cL_law 304 = .ok (.lastore, 1) := by decide +kernel
theorem dL_law_305 : decode cL_law 305 = .ok (.iload 5, 2) := by decide +kernel
theorem dL_law_307 : decode cL_law 307 = .ok (.bipush 7, 2) := by decide +kernel
theorem dL_law_309 : decode cL_law 309 = .ok (.invokestatic 206, 3) := by decide +kernel
theorem dL_law_312 : decode cL_law 312 = .ok (.istore 7, 2) := by decide +kernel
theorem dL_law_314 : decode cL_law 314 = .ok (.iload 7, 2) := by decide +kernel
theorem dL_law_316 : decode cL_law 316 = .ok (.ifCond .ne 10, 3) := by decide +kernel
theorem dL_law_319 : decode cL_law 319 = .ok (.aload_n 1, 1) := by decide +kernel
theorem dL_law_320 : decode cL_law 320 = .ok (.invokevirtual 173, 3) := by decide +kernel
theorem dL_law_323 : decode cL_law 323 = .ok (.goto 122, 3) := by decide +kernel
theorem dL_law_326 : decode cL_law 326 = .ok (.iload 7, 2) := by decide +kernel
theorem dL_law_328 : decode cL_law 328 = .ok (.iconst 1, 1) := by decide +kernel
theorem dL_law_329 : decode cL_law 329 = .ok (.if_icmp .ne 20, 3) := by decide +kernel
theorem dL_law_332 : decode cL_law 332 = .ok (.aload_n 1, 1) := by decide +kernel
theorem dL_law_333 : decode cL_law 333 = .ok (.iconst 5, 1) := by decide +kernel
theorem dL_law_334 : decode cL_law 334 = .ok (.iload 5, 2) := by decide +kernel
theorem dL_law_336 : decode cL_law 336 = .ok (.iconst 4, 1) := by decide +kernel
theorem dL_law_337 : decode cL_law 337 = .ok (.ishr, 1) := by decide +kernel
theorem dL_law_338 : decode cL_law 338 = .ok (.bipush 51, 2) := by decide +kernel
theorem dL_law_340 : decode cL_law 340 = .ok (.invokestatic 206, 3) := by decide +kernel
theorem dL_law_343 : decode cL_law 343 = .ok (.invokevirtual 53, 3) := by decide +kernel
theorem dL_law_346 : decode cL_law 346 = .ok (.goto 99, 3) := by decide +kernel
theorem dL_law_349 : decode cL_law 349 = .ok (.iload 7, 2) := by decide +kernel
theorem dL_law_351 : decode cL_law 351 = .ok (.iconst 2, 1) := by decide +kernel
theorem dL_law_352 : decode cL_law 352 = .ok (.if_icmp .ne 24, 3) := by decide +kernel
theorem dL_law_355 : decode cL_law 355 = .ok (.aload_n 1, 1) := by decide +kernel
theorem dL_law_356 : decode cL_law 356 = .ok (.iload 6, 2) := by decide +kernel
theorem dL_law_358 : decode cL_law 358 = .ok (.iconst 1, 1) := by decide +kernel
theorem dL_law_359 : decode cL_law 359 = .ok (.iload 5, 2) := by decide +kernel
theorem dL_law_361 : decode cL_law 361 = .ok (.iconst 5, 1) := by decide +kernel
theorem dL_law_362 : decode cL_law 362 = .ok (.ishr, 1) := by decide +kernel
theorem dL_law_363 : decode cL_law 363 = .ok (.sipush 9000, 3) := by decide +kernel
theorem dL_law_366 : decode cL_law 366 = .ok (.invokestatic 206, 3) := by decide +kernel
theorem dL_law_369 : decode cL_law 369 = .ok (.iadd, 1) := by decide +kernel
theorem dL_law_370 : decode cL_law 370 = .ok (.invokevirtual 84, 3) := by decide +kernel
theorem dL_law_373 : decode cL_law 373 = .ok (.goto 72, 3) := by decide +kernel
theorem dL_law_376 : decode cL_law 376 = .ok (.iload 7, 2) := by decide +kernel
theorem dL_law_378 : decode cL_law 378 = .ok (.iconst 5, 1) := by decide +kernel
theorem dL_law_379 : decode cL_law 379 = .ok (.if_icmp .ge 25, 3) := by decide +kernel
theorem dL_law_382 : decode cL_law 382 = .ok (.aload_n 1, 1) := by decide +kernel
theorem dL_law_383 : decode cL_law 383 = .ok (.iload 6, 2) := by decide +kernel
theorem dL_law_385 : decode cL_law 385 = .ok (.bipush 100, 2) := by decide +kernel
theorem dL_law_387 : decode cL_law 387 = .ok (.iload 5, 2) := by decide +kernel
theorem dL_law_389 : decode cL_law 389 = .ok (.iconst 5, 1) := by decide +kernel
theorem dL_law_390 : decode cL_law 390 = .ok (.ishr, 1) := by decide +kernel
theorem dL_law_391 : decode cL_law 391 = .ok (.sipush 2901, 3) := by decide +kernel
theorem dL_law_394 : decode cL_law 394 = .ok (.invokestatic 206, 3) := by decide +kernel
theorem dL_law_397 : decode cL_law 397 = .ok (.iadd, 1) := by decide +kernel
theorem dL_law_398 : decode cL_law 398 = .ok (.invokevirtual 68, 3) := by decide +kernel
theorem dL_law_401 : decode cL_law 401 = .ok (.goto 44, 3) := by decide +kernel
theorem dL_law_404 : decode cL_law 404 = .ok (.aload_n 1, 1) := by decide +kernel
theorem dL_law_405 : decode cL_law 405 = .ok (.iload 6, 2) := by decide +kernel
theorem dL_law_407 : decode cL_law 407 = .ok (.bipush 100, 2) := by decide +kernel
theorem dL_law_409 : decode cL_law 409 = .ok (.iload 5, 2) := by decide +kernel
theorem dL_law_411 : decode cL_law 411 = .ok (.iconst 5, 1) := by decide +kernel
theorem dL_law_412 : decode cL_law 412 = .ok (.ishr, 1) := by decide +kernel
theorem dL_law_413 : decode cL_law 413 = .ok (.sipush 2901, 3) := by decide +kernel
theorem dL_law_416 : decode cL_law 416 = .ok (.invokestatic 206, 3) := by decide +kernel
theorem dL_law_419 : decode cL_law 419 = .ok (.iadd, 1) := by decide +kernel
theorem dL_law_420 : decode cL_law 420 = .ok (.iload 5, 2) := by decide +kernel
theorem dL_law_422 : decode cL_law 422 = .ok (.bipush 6, 2) := by decide +kernel
theorem dL_law_424 : decode cL_law 424 = .ok (.ishr, 1) := by decide +kernel
theorem dL_law_425 : decode cL_law 425 = .ok (.bipush 50, 2) := by decide +kernel
theorem dL_law_427 : decode cL_law 427 = .ok (.invokestatic 206, 3) := by decide +kernel
theorem dL_law_430 : decode cL_law 430 = .ok (.iconst 1, 1) := by decide +kernel
theorem dL_law_431 : decode cL_law 431 = .ok (.iload 5, 2) := by decide +kernel
theorem dL_law_433 : decode cL_law 433 = .ok (.bipush 7, 2) := by decide +kernel
theorem dL_law_435 : decode cL_law 435 = .ok (.ishr, 1) := by decide +kernel
theorem dL_law_436 : decode cL_law 436 = .ok (.bipush 60, 2) := by decide +kernel
theorem dL_law_438 : decode cL_law 438 = .ok (.invokestatic 206, 3) := by decide +kernel
theorem dL_law_441 : decode cL_law 441 = .ok (.iadd, 1) := by decide +kernel
theorem dL_law_442 : decode cL_law 442 = .ok (.invokevirtual 71, 3) := by decide +kernel
theorem dL_law_445 : decode cL_law 445 = .ok (.istore 8, 2) := by decide +kernel
theorem dL_law_447 : decode cL_law 447 = .ok (.iload 7, 2) := by decide +kernel
theorem dL_law_449 : decode cL_law 449 = .ok (.iconst 2, 1) := by decide +kernel
theorem dL_law_450 : decode cL_law 450 = .ok (.if_icmp .le 27, 3) := by decide +kernel
theorem dL_law_453 : decode cL_law 453 = .ok (.iload 8, 2) := by decide +kernel
theorem dL_law_455 : decode cL_law 455 = .ok (.bipush (-2), 2) := by decide +kernel
theorem dL_law_457 : decode cL_law 457 = .ok (.if_icmp .ne 20, 3) := by decide +kernel
theorem dL_law_460 : decode cL_law 460 = .ok (.aload_n 1, 1) := by decide +kernel
theorem dL_law_461 : decode cL_law 461 = .ok (.iload 6, 2) := by decide +kernel
theorem dL_law_463 : decode cL_law 463 = .ok (.iconst 3, 1) := by decide +kernel
theorem dL_law_464 : decode cL_law 464 = .ok (.invokevirtual 31, 3) := by decide +kernel
theorem dL_law_467 : decode cL_law 467 = .ok (.aload_n 1, 1) := by decide +kernel
theorem dL_law_468 : decode cL_law 468 = .ok (.iload 6, 2) := by decide +kernel
theorem dL_law_470 : decode cL_law 470 = .ok (.iconst 2, 1) := by decide +kernel
theorem dL_law_471 : decode cL_law 471 = .ok (.invokevirtual 31, 3) := by decide +kernel
theorem dL_law_474 : decode cL_law 474 = .ok (.if_icmp .ne 38, 3) := by decide +kernel
theorem dL_law_477 : decode cL_law 477 = .ok (.aload_n 1, 1) := by decide +kernel
theorem dL_law_478 : decode cL_law 478 = .ok (.iload 6, 2) := by decide +kernel
theorem dL_law_480 : decode cL_law 480 = .ok (.bipush 12, 2) := by decide +kernel
theorem dL_law_482 : decode cL_law 482 = .ok (.invokevirtual 31, 3) := by decide +kernel
theorem dL_law_485 : decode cL_law 485 = .ok (.aload_n 1, 1) := by decide +kernel
theorem dL_law_486 : decode cL_law 486 = .ok (.iload 6, 2) := by decide +kernel
theorem dL_law_488 : decode cL_law 488 = .ok (.iconst 4, 1) := by decide +kernel
theorem dL_law_489 : decode cL_law 489 = .ok (.invokevirtual 31, 3) := by decide +kernel
theorem dL_law_492 : decode cL_law 492 = .ok (.bipush 40, 2) := by decide +kernel
theorem dL_law_494 : decode cL_law 494 = .ok (.if_icmp .le 8, 3) := by decide +kernel
theorem dL_law_497 : decode cL_law 497 = .ok (.bipush 40, 2) := by decide +kernel
theorem dL_law_499 : decode cL_law 499 = .ok (.goto 10, 3) := by decide +kernel
theorem dL_law_502 : decode cL_law 502 = .ok (.aload_n 1, 1) := by decide +kernel
theorem dL_law_503 : decode cL_law 503 = .ok (.iload 6, 2) := by decide +kernel
theorem dL_law_505 : decode cL_law 505 = .ok (.iconst 4, 1) := by decide +kernel
theorem dL_law_506 : decode cL_law 506 = .ok (.invokevirtual 31, 3) := by decide +kernel
theorem dL_law_509 : decode cL_law 509 = .ok (.if_icmp .eq 5, 3) := by decide +kernel
theorem dL_law_512 : decode cL_law 512 = .ok (.iconst 0, 1) := by decide +kernel
theorem dL_law_513 : decode cL_law 513 = .ok (.ireturn, 1) := by decide +kernel
theorem dL_law_514 : decode cL_law 514 = .ok (.iload_n 3, 1) := by decide +kernel
theorem dL_law_515 : decode cL_law 515 = .ok (.iload 8, 2) := by decide +kernel
theorem dL_law_517 : decode cL_law 517 = .ok (.ifCond .lt 7, 3) := by decide +kernel
theorem dL_law_520 : decode cL_law 520 = .ok (.iconst 1, 1) := by decide +kernel
theorem dL_law_521 : decode cL_law 521 = .ok (.goto 4, 3) := by decide +kernel
theorem dL_law_524 : decode cL_law 524 = .ok (.iconst 0, 1) := by decide +kernel
theorem dL_law_525 : decode cL_law 525 = .ok (.iadd, 1) := by decide +kernel
theorem dL_law_526 : decode cL_law 526 = .ok (.istore_n 3, 1) := by decide +kernel
theorem dL_law_527 : decode cL_law 527 = .ok (.iload 8, 2) := by decide +kernel
theorem dL_law_529 : decode cL_law 529 = .ok (.ifCond .ge 16, 3) := by decide +kernel
theorem dL_law_532 : decode cL_law 532 = .ok (.aload_n 1, 1) := by decide +kernel
theorem dL_law_533 : decode cL_law 533 = .ok (.invokestatic 42, 3) := by decide +kernel
theorem dL_law_536 : decode cL_law 536 = .ok (.aload_n 2, 1) := by decide +kernel
theorem dL_law_537 : decode cL_law 537 = .ok (.iload_n 3, 1) := by decide +kernel
theorem dL_law_538 : decode cL_law 538 = .ok (.laload, 1) := by decide +kernel
theorem dL_law_539 : decode cL_law 539 = .ok (.lcmp, 1) := by decide +kernel
theorem dL_law_540 : decode cL_law 540 = .ok (.ifCond .eq 5, 3) := by decide +kernel
theorem dL_law_543 : decode cL_law 543 = .ok (.iconst 0, 1) := by decide +kernel
theorem dL_law_544 : decode cL_law 544 = .ok (.ireturn, 1) := by decide +kernel
theorem dL_law_545 : decode cL_law 545 = .ok (.iinc 4 1, 3) := by decide +kernel
theorem dL_law_548 : decode cL_law 548 = .ok (.goto (-279), 3) := by decide +kernel
theorem dL_law_551 : decode cL_law 551 = .ok (.aload_n 1, 1) := by decide +kernel
theorem dL_law_552 : decode cL_law 552 = .ok (.invokestatic 191, 3) := by decide +kernel
theorem dL_law_555 : decode cL_law 555 = .ok (.ifCond .ne 5, 3) := by decide +kernel
theorem dL_law_558 : decode cL_law 558 = .ok (.iconst 0, 1) := by decide +kernel
theorem dL_law_559 : decode cL_law 559 = .ok (.ireturn, 1) := by decide +kernel
theorem dL_law_560 : decode cL_law 560 = .ok (.iconst 1, 1) := by decide +kernel
theorem dL_law_561 : decode cL_law 561 = .ok (.istore 4, 2) := by decide +kernel
theorem dL_law_563 : decode cL_law 563 = .ok (.iload 4, 2) := by decide +kernel
theorem dL_law_565 : decode cL_law 565 = .ok (.iconst 4, 1) := by decide +kernel
theorem dL_law_566 : decode cL_law 566 = .ok (.if_icmp .gt 42, 3) := by decide +kernel
theorem dL_law_569 : decode cL_law 569 = .ok (.iload 4, 2) := by decide +kernel
theorem dL_law_571 : decode cL_law 571 = .ok (.iload_n 3, 1) := by decide +kernel
theorem dL_law_572 : decode cL_law 572 = .ok (.if_icmp .gt 36, 3) := by decide +kernel
theorem dL_law_575 : decode cL_law 575 = .ok (.aload_n 1, 1) := by decide +kernel
theorem dL_law_576 : decode cL_law 576 = .ok (.invokevirtual 170, 3) := by decide +kernel
theorem dL_law_579 : decode cL_law 579 = .ok (.iconst 4, 1) := by decide +kernel
theorem dL_law_580 : decode cL_law 580 = .ok (.iload 4, 2) := by decide +kernel
theorem dL_law_582 : decode cL_law 582 = .ok (.isub, 1) := by decide +kernel
theorem dL_law_583 : decode cL_law 583 = .ok (.if_icmp .ne 17, 3) := by decide +kernel
theorem dL_law_586 : decode cL_law 586 = .ok (.aload_n 1, 1) := by decide +kernel
theorem dL_law_587 : decode cL_law 587 = .ok (.invokestatic 42, 3) := by decide +kernel
theorem dL_law_590 : decode cL_law 590 = .ok (.aload_n 2, 1) := by decide +kernel
theorem dL_law_591 : decode cL_law 591 = .ok (.iload_n 3, 1) := by decide +kernel
theorem dL_law_592 : decode cL_law 592 = .ok (.iload 4, 2) := by decide +kernel
theorem dL_law_594 : decode cL_law 594 = .ok (.isub, 1) := by decide +kernel
theorem dL_law_595 : decode cL_law 595 = .ok (.laload, 1) := by decide +kernel
theorem dL_law_596 : decode cL_law 596 = .ok (.lcmp, 1) := by decide +kernel
theorem dL_law_597 : decode cL_law 597 = .ok (.ifCond .eq 5, 3) := by decide +kernel
theorem dL_law_600 : decode cL_law 600 = .ok (.iconst 0, 1) := by decide +kernel
theorem dL_law_601 : decode cL_law 601 = .ok (.ireturn, 1) := by decide +kernel
theorem dL_law_602 : decode cL_law 602 = .ok (.iinc 4 1, 3) := by decide +kernel
theorem dL_law_605 : decode cL_law 605 = .ok (.goto (-42), 3) := by decide +kernel
theorem dL_law_608 : decode cL_law 608 = .ok (.iload_n 3, 1) := by decide +kernel
theorem dL_law_609 : decode cL_law 609 = .ok (.iconst 4, 1) := by decide +kernel
theorem dL_law_610 : decode cL_law 610 = .ok (.if_icmp .lt 12, 3) := by decide +kernel
theorem dL_law_613 : decode cL_law 613 = .ok (.aload_n 1, 1) := by decide +kernel
theorem dL_law_614 : decode cL_law 614 = .ok (.invokevirtual 170, 3) := by decide +kernel
theorem dL_law_617 : decode cL_law 617 = .ok (.bipush (-2), 2) := by decide +kernel
theorem dL_law_619 : decode cL_law 619 = .ok (.if_icmp .ne 7, 3) := by decide +kernel
theorem dL_law_622 : decode cL_law 622 = .ok (.iconst 1, 1) := by decide +kernel
theorem dL_law_623 : decode cL_law 623 = .ok (.goto 4, 3) := by decide +kernel
theorem dL_law_626 : decode cL_law 626 = .ok (.iconst 0, 1) := by decide +kernel
theorem dL_law_627 : decode cL_law 627 = .ok (.ireturn, 1) := by decide +kernel
