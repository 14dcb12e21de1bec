theorem dX8_init_0 : decode cX8_init 0 = .ok (.aload_n 0, 1) := by decide +kernel
theorem dX8_init_1 : decode cX8_init 1 = .ok (.invokespecial 1, 3) := by decide +kernel
theorem dX8_init_4 : decode cX8_init 4 = .ok (.aload_n 0, 1) := by decide +kernel
theorem dX8_init_5 : decode cX8_init 5 = .ok (.sipush 934, 3) := by decide +kernel
theorem dX8_init_8 : decode cX8_init 8 = .ok (.newarray .int, 2) := by decide +kernel
theorem dX8_init_10 : decode cX8_init 10 = .ok (.putfield 7, 3) := by decide +kernel
theorem dX8_init_13 : decode cX8_init 13 = .ok (.aload_n 0, 1) := by decide +kernel
theorem dX8_init_14 : decode cX8_init 14 = .ok (.sipush 3736, 3) := by decide +kernel
theorem dX8_init_17 : decode cX8_init 17 = .ok (.newarray .int, 2) := by decide +kernel
theorem dX8_init_19 : decode cX8_init 19 = .ok (.putfield 13, 3) := by decide +kernel
theorem dX8_init_22 : decode cX8_init 22 = .ok (.aload_n 0, 1) := by decide +kernel
theorem dX8_init_23 : decode cX8_init 23 = .ok (.iconst 2, 1) := by decide +kernel
theorem dX8_init_24 : decode cX8_init 24 = .ok (.newarray .long, 2) := by decide +kernel
theorem dX8_init_26 : decode cX8_init 26 = .ok (.putfield 16, 3) := by decide +kernel
theorem dX8_init_29 : decode cX8_init 29 = .ok (.aload_n 0, 1) := by decide +kernel
theorem dX8_init_30 : decode cX8_init 30 = .ok (.bipush 8, 2) := by decide +kernel
theorem dX8_init_32 : decode cX8_init 32 = .ok (.newarray .long, 2) := by decide +kernel
theorem dX8_init_34 : decode cX8_init 34 = .ok (.putfield 20, 3) := by decide +kernel
theorem dX8_init_37 : decode cX8_init 37 = .ok (.aload_n 0, 1) := by decide +kernel
theorem dX8_init_38 : decode cX8_init 38 = .ok (.bipush 80, 2) := by decide +kernel
theorem dX8_init_40 : decode cX8_init 40 = .ok (.newarray .int, 2) := by decide +kernel
theorem dX8_init_42 : decode cX8_init 42 = .ok (.putfield 23, 3) := by decide +kernel
theorem dX8_init_45 : decode cX8_init 45 = .ok (.aload_n 0, 1) := by decide +kernel
theorem dX8_init_46 : decode cX8_init 46 = .ok (.bipush 40, 2) := by decide +kernel
theorem dX8_init_48 : decode cX8_init 48 = .ok (.newarray .int, 2) := by decide +kernel
theorem dX8_init_50 : decode cX8_init 50 = .ok (.putfield 26, 3) := by decide +kernel
theorem dX8_init_53 : decode cX8_init 53 = .ok (.aload_n 0, 1) := by decide +kernel
theorem dX8_init_54 : decode cX8_init 54 = .ok (.bipush 40, 2) := by decide +kernel
theorem dX8_init_56 : decode cX8_init 56 = .ok (.newarray .int, 2) := by decide +kernel
theorem dX8_init_58 : decode cX8_init 58 = .ok (.putfield 29, 3) := by decide +kernel
theorem dX8_init_61 : decode cX8_init 61 = .ok (.aload_n 0, 1) := by decide +kernel
theorem dX8_init_62 : decode cX8_init 62 = .ok (.bipush 40, 2) := by decide +kernel
theorem dX8_init_64 : decode cX8_init 64 = .ok (.newarray .int, 2) := by decide +kernel
theorem dX8_init_66 : decode cX8_init 66 = .ok (.putfield 32, 3) := by decide +kernel
theorem dX8_init_69 : decode cX8_init 69 = .ok (.aload_n 0, 1) := by decide +kernel
theorem dX8_init_70 : decode cX8_init 70 = .ok (.bipush 10, 2) := by decide +kernel
theorem dX8_init_72 : decode cX8_init 72 = .ok (.newarray .int, 2) := by decide +kernel
theorem dX8_init_74 : decode cX8_init 74 = .ok (.putfield 35, 3) := by decide +kernel
theorem dX8_init_77 : decode cX8_init 77 = .ok (.aload_n 0, 1) := by decide +kernel
theorem dX8_init_78 : decode cX8_init 78 = .ok (.bipush 10, 2) := by decide +kernel
theorem dX8_init_80 : decode cX8_init 80 = .ok (.newarray .int, 2) := by decide +kernel
theorem dX8_init_82 : decode cX8_init 82 = .ok (.putfield 38, 3) := by decide +kernel
theorem dX8_init_85 : decode cX8_init 85 = .ok (.aload_n 0, 1) := by decide +kernel
theorem dX8_init_86 : decode cX8_init 86 = .ok (.bipush 10, 2) := by decide +kernel
theorem dX8_init_88 : decode cX8_init 88 = .ok (.newarray .int, 2) := by decide +kernel
theorem dX8_init_90 : decode cX8_init 90 = .ok (.putfield 41, 3) := by decide +kernel
theorem dX8_init_93 : decode cX8_init 93 = .ok (.aload_n 0, 1) := by decide +kernel
theorem dX8_init_94 : decode cX8_init 94 = .ok (.bipush 10, 2) := by decide +kernel
theorem dX8_init_96 : decode cX8_init 96 = .ok (.newarray .int, 2) := by decide +kernel
theorem dX8_init_98 : decode cX8_init 98 = .ok (.putfield 44, 3) := by decide +kernel
theorem dX8_init_101 : decode cX8_init 101 = .ok (.aload_n 0, 1) := by decide +kernel
theorem dX8_init_102 : decode cX8_init 102 = .ok (.getfield 7, 3) := by decide +kernel
theorem dX8_init_105 : decode cX8_init 105 = .ok (.iconst 0, 1) := by decide +kernel
theorem dX8_init_106 : decode cX8_init 106 = .ok (.iconst 1, 1) := by decide +kernel
theorem dX8_init_107 : decode cX8_init 107 = .ok (.iastore, 1) := by decide +kernel
theorem dX8_init_108 : decode cX8_init 108 = .ok (.aload_n 0, 1) := by decide +kernel
theorem dX8_init_109 : decode cX8_init 109 = .ok (.getfield 7, 3) := by decide +kernel
theorem dX8_init_112 : decode cX8_init 112 = .ok (.iconst 1, 1) := by decide +kernel
theorem dX8_init_113 : decode cX8_init 113 = .ok (.sipush 10000, 3) := by decide +kernel
theorem dX8_init_116 : decode cX8_init 116 = .ok (.iastore, 1) := by decide +kernel
theorem dX8_init_117 : decode cX8_init 117 = .ok (.aload_n 0, 1) := by decide +kernel
theorem dX8_init_118 : decode cX8_init 118 = .ok (.getfield 7, 3) := by decide +kernel
theorem dX8_init_121 : decode cX8_init 121 = .ok (.bipush 7, 2) := by decide +kernel
theorem dX8_init_123 : decode cX8_init 123 = .ok (.bipush 50, 2) := by decide +kernel
theorem dX8_init_125 : decode cX8_init 125 = .ok (.iastore, 1) := by decide +kernel
theorem dX8_init_126 : decode cX8_init 126 = .ok (.aload_n 0, 1) := by decide +kernel
theorem dX8_init_127 : decode cX8_init 127 = .ok (.getfield 7, 3) := by decide +kernel
theorem dX8_init_130 : decode cX8_init 130 = .ok (.bipush 13, 2) := by decide +kernel
theorem dX8_init_132 : decode cX8_init 132 = .ok (.sipush 2000, 3) := by decide +kernel
theorem dX8_init_135 : decode cX8_init 135 = .ok (.iastore, 1) := by decide +kernel
theorem dX8_init_136 : decode cX8_init 136 = .ok (.aload_n 0, 1) := by decide +kernel
theorem dX8_init_137 : decode cX8_init 137 = .ok (.getfield 7, 3) := by decide +kernel
theorem dX8_init_140 : decode cX8_init 140 = .ok (.bipush 14, 2) := by decide +kernel
theorem dX8_init_142 : decode cX8_init 142 = .ok (.bipush 70, 2) := by decide +kernel
theorem dX8_init_144 : decode cX8_init 144 = .ok (.iastore, 1) := by decide +kernel
theorem dX8_init_145 : decode cX8_init 145 = .ok (.aload_n 0, 1) := by decide +kernel
theorem dX8_init_146 : decode cX8_init 146 = .ok (.getfield 7, 3) := by decide +kernel
theorem dX8_init_149 : decode cX8_init 149 = .ok (.bipush 15, 2) := by decide +kernel
theorem dX8_init_151 : decode cX8_init 151 = .ok (.iconst 3, 1) := by decide +kernel
theorem dX8_init_152 : decode cX8_init 152 = .ok (.iastore, 1) := by decide +kernel
theorem dX8_init_153 : decode cX8_init 153 = .ok (.aload_n 0, 1) := by decide +kernel
theorem dX8_init_154 : decode cX8_init 154 = .ok (.getfield 7, 3) := by decide +kernel
theorem dX8_init_157 : decode cX8_init 157 = .ok (.bipush 16, 2) := by decide +kernel
theorem dX8_init_159 : decode cX8_init 159 = .ok (.sipush 200, 3) := by decide +kernel
theorem dX8_init_162 : decode cX8_init 162 = .ok (.iastore, 1) := by decide +kernel
theorem dX8_init_163 : decode cX8_init 163 = .ok (.aload_n 0, 1) := by decide +kernel
theorem dX8_init_164 : decode cX8_init 164 = .ok (.getfield 7, 3) := by decide +kernel
theorem dX8_init_167 : decode cX8_init 167 = .ok (.bipush 17, 2) := by decide +kernel
theorem dX8_init_169 : decode cX8_init 169 = .ok (.sipush 3000, 3) := by decide +kernel
theorem dX8_init_172 : decode cX8_init 172 = .ok (.iastore, 1) := by decide +kernel
theorem dX8_init_173 : decode cX8_init 173 = .ok (.aload_n 0, 1) := by decide +kernel
theorem dX8_init_174 : decode cX8_init 174 = .ok (.getfield 7, 3) := by decide +kernel
theorem dX8_init_177 : decode cX8_init 177 = .ok (.bipush 18, 2) := by decide +kernel
theorem dX8_init_179 : decode cX8_init 179 = .ok (.iconst 4, 1) := by decide +kernel
theorem dX8_init_180 : decode cX8_init 180 = .ok (.iastore, 1) := by decide +kernel
theorem dX8_init_181 : decode cX8_init 181 = .ok (.return_, 1) := by decide +kernel
theorem dX8_in_0 : decode cX8_in 0 = .ok (.iload_n 0, 1) := by decide +kernel
theorem dX8_in_1 : decode cX8_in 1 = .ok (.iload_n 1, 1) := by decide +kernel
theorem dX8_in_2 : decode cX8_in 2 = .ok (.if_icmp .lt 12, 3) := by decide +kernel
theorem dX8_in_5 : decode cX8_in 5 = .ok (.iload_n 0, 1) := by decide +kernel
theorem dX8_in_6 : decode cX8_in 6 = .ok (.iload_n 2, 1) := by decide +kernel
theorem dX8_in_7 : decode cX8_in 7 = .ok (.if_icmp .gt 7, 3) := by decide +kernel
theorem dX8_in_10 : decode cX8_in 10 = .ok (.iconst 1, 1) := by decide +kernel
theorem dX8_in_11 : decode cX8_in 11 = .ok (.goto 4, 3) := by decide +kernel
theorem dX8_in_14 : decode cX8_in 14 = .ok (.iconst 0, 1) := by decide +kernel
theorem dX8_in_15 : decode cX8_in 15 = .ok (.ireturn, 1) := by decide +kernel
theorem dX8_lesser_0 : decode cX8_lesser 0 = .ok (.iload_n 0, 1) := by decide +kernel
theorem dX8_lesser_1 : decode cX8_lesser 1 = .ok (.iload_n 1, 1) := by decide +kernel
theorem dX8_lesser_2 : decode cX8_lesser 2 = .ok (.if_icmp .ge 7, 3) := by decide +kernel
theorem dX8_lesser_5 : decode cX8_lesser 5 = .ok (.iload_n 0, 1) := by decide +kernel
theorem dX8_lesser_6 : decode cX8_lesser 6 = .ok (.goto 4, 3) := by decide +kernel
theorem dX8_lesser_9 : decode cX8_lesser 9 = .ok (.iload_n 1, 1) := by decide +kernel
theorem dX8_lesser_10 : decode cX8_lesser 10 = .ok (.ireturn, 1) := by decide +kernel
theorem dX8_records_0 : decode cX8_records 0 = .ok (.aload_n 0, 1) := by decide +kernel
theorem dX8_records_1 : decode cX8_records 1 = .ok (.getfield 47, 3) := by decide +kernel
theorem dX8_records_4 : decode cX8_records 4 = .ok (.iconst 4, 1) := by decide +kernel
theorem dX8_records_5 : decode cX8_records 5 = .ok (.if_icmp .ne 72, 3) := by decide +kernel
theorem dX8_records_8 : decode cX8_records 8 = .ok (.iconst 0, 1) := by decide +kernel
theorem dX8_records_9 : decode cX8_records 9 = .ok (.istore_n 1, 1) := by decide +kernel
theorem dX8_records_10 : decode cX8_records 10 = .ok (.iload_n 1, 1) := by decide +kernel
theorem dX8_records_11 : decode cX8_records 11 = .ok (.sipush 2802, 3) := by decide +kernel
theorem dX8_records_14 : decode cX8_records 14 = .ok (.if_icmp .ge 25, 3) := by decide +kernel
theorem dX8_records_17 : decode cX8_records 17 = .ok (.aload_n 0, 1) := by decide +kernel
theorem dX8_records_18 : decode cX8_records 18 = .ok (.getfield 13, 3) := by decide +kernel
theorem dX8_records_21 : decode cX8_records 21 = .ok (.iload_n 1, 1) := by decide +kernel
theorem dX8_records_22 : decode cX8_records 22 = .ok (.aload_n 0, 1) := by decide +kernel
theorem dX8_records_23 : decode cX8_records 23 = .ok (.getfield 13, 3) := by decide +kernel
theorem dX8_records_26 : decode cX8_records 26 = .ok (.iload_n 1, 1) := by decide +kernel
theorem dX8_records_27 : decode cX8_records 27 = .ok (.sipush 934, 3) := by decide +kernel
theorem dX8_records_30 : decode cX8_records 30 = .ok (.iadd, 1) := by decide +kernel
theorem dX8_records_31 : decode cX8_records 31 = .ok (.iaload, 1) := by decide +kernel
theorem dX8_records_32 : decode cX8_records 32 = .ok (.iastore, 1) := by decide +kernel
theorem dX8_records_33 : decode cX8_records 33 = .ok (.iinc 1 1, 3) := by decide +kernel
theorem dX8_records_36 : decode cX8_records 36 = .ok (.goto (-26), 3) := by decide +kernel
theorem dX8_records_39 : decode cX8_records 39 = .ok (.iconst 0, 1) := by decide +kernel
theorem dX8_records_40 : decode cX8_records 40 = .ok (.istore_n 1, 1) := by decide +kernel
theorem dX8_records_41 : decode cX8_records 41 = .ok (.iload_n 1, 1) := by decide +kernel
theorem dX8_records_42 : decode cX8_records 42 = .ok (.bipush 6, 2) := by decide +kernel
theorem dX8_records_44 : decode cX8_records 44 = .ok (.if_icmp .ge 23, 3) := by decide +kernel
theorem dX8_records_47 : decode cX8_records 47 = .ok (.aload_n 0, 1) := by decide +kernel
theorem dX8_records_48 : decode cX8_records 48 = .ok (.getfield 20, 3) := by decide +kernel
theorem dX8_records_51 : decode cX8_records 51 = .ok (.iload_n 1, 1) := by decide +kernel
theorem dX8_records_52 : decode cX8_records 52 = .ok (.aload_n 0, 1) := by decide +kernel
theorem dX8_records_53 : decode cX8_records 53 = .ok (.getfield 20, 3) := by decide +kernel
theorem dX8_records_56 : decode cX8_records 56 = .ok (.iload_n 1, 1) := by decide +kernel
theorem dX8_records_57 : decode cX8_records 57 = .ok (.iconst 2, 1) := by decide +kernel
theorem dX8_records_58 : decode cX8_records 58 = .ok (.iadd, 1) := by decide +kernel
theorem dX8_records_59 : decode cX8_records 59 = .ok (.laload, 1) := by decide +kernel
theorem dX8_records_60 : decode cX8_records 60 = .ok (.lastore, 1) := by decide +kernel
theorem dX8_records_61 : decode cX8_records 61 = .ok (.iinc 1 1, 3) := by decide +kernel
theorem dX8_records_64 : decode cX8_records 64 = .ok (.goto (-23), 3) := by decide +kernel
theorem dX8_records_67 : decode cX8_records 67 = .ok (.aload_n 0, 1) := by decide +kernel
theorem dX8_records_68 : decode cX8_records 68 = .ok (.dup, 1) := by decide +kernel
theorem dX8_records_69 : decode cX8_records 69 = .ok (.getfield 47, 3) := by decide +kernel
theorem dX8_records_72 : decode cX8_records 72 = .ok (.iconst 1, 1) := by decide +kernel
theorem dX8_records_73 : decode cX8_records 73 = .ok (.isub, 1) := by decide +kernel
theorem dX8_records_74 : decode cX8_records 74 = .ok (.putfield 47, 3) := by decide +kernel
theorem dX8_records_77 : decode cX8_records 77 = .ok (.iconst 0, 1) := by decide +kernel
theorem dX8_records_78 : decode cX8_records 78 = .ok (.istore_n 1, 1) := by decide +kernel
theorem dX8_records_79 : decode cX8_records 79 = .ok (.iload_n 1, 1) := by decide +kernel
theorem dX8_records_80 : decode cX8_records 80 = .ok (.sipush 934, 3) := by decide +kernel
theorem dX8_records_83 : decode cX8_records 83 = .ok (.if_icmp .ge 30, 3) := by decide +kernel
theorem dX8_records_86 : decode cX8_records 86 = .ok (.aload_n 0, 1) := by decide +kernel
theorem dX8_records_87 : decode cX8_records 87 = .ok (.getfield 13, 3) := by decide +kernel
theorem dX8_records_90 : decode cX8_records 90 = .ok (.sipush 934, 3) := by decide +kernel
theorem dX8_records_93 : decode cX8_records 93 = .ok (.aload_n 0, 1) := by decide +kernel
theorem dX8_records_94 : decode cX8_records 94 = .ok (.getfield 47, 3) := by decide +kernel
theorem dX8_records_97 : decode cX8_records 97 = .ok (.imul, 1) := by decide +kernel
theorem dX8_records_98 : decode cX8_records 98 = .ok (.iload_n 1, 1) := by decide +kernel
theorem dX8_records_99 : decode cX8_records 99 = .ok (.iadd, 1) := by decide +kernel
theorem dX8_records_100 : decode cX8_records 100 = .ok (.aload_n 0, 1) := by decide +kernel
theorem dX8_records_101 : decode cX8_records 101 = .ok (.getfield 7, 3) := by decide +kernel
theorem dX8_records_104 : decode cX8_records 104 = .ok (.iload_n 1, 1) := by decide +kernel
theorem dX8_records_105 : decode cX8_records 105 = .ok (.iaload, 1) := by decide +kernel
theorem dX8_records_106 : decode cX8_records 106 = .ok (.iastore, 1) := by decide +kernel
theorem dX8_records_107 : decode cX8_records 107 = .ok (.iinc 1 1, 3) := by decide +kernel
theorem dX8_records_110 : decode cX8_records 110 = .ok (.goto (-31), 3) := by decide +kernel
theorem dX8_records_113 : decode cX8_records 113 = .ok (.aload_n 0, 1) := by decide +kernel
theorem dX8_records_114 : decode cX8_records 114 = .ok (.getfield 20, 3) := by decide +kernel
theorem dX8_records_117 : decode cX8_records 117 = .ok (.iconst 2, 1) := by decide +kernel
theorem dX8_records_118 : decode cX8_records 118 = .ok (.aload_n 0, 1) := by decide +kernel
theorem dX8_records_119 : decode cX8_records 119 = .ok (.getfield 47, 3) := by decide +kernel
theorem dX8_records_122 : decode cX8_records 122 = .ok (.imul, 1) := by decide +kernel
theorem dX8_records_123 : decode cX8_records 123 = .ok (.aload_n 0, 1) := by decide +kernel
theorem dX8_records_124 : decode cX8_records 124 = .ok (.getfield 16, 3) := by decide +kernel
theorem dX8_records_127 : decode cX8_records 127 = .ok (.iconst 0, 1) := by decide +kernel
theorem dX8_records_128 : decode cX8_records 128 = .ok (.laload, 1) := by decide +kernel
theorem dX8_records_129 : decode cX8_records 129 = .ok (.lastore, 1) := by decide +kernel
theorem dX8_records_130 : decode cX8_records 130 = .ok (.aload_n 0, 1) := by decide +kernel
theorem dX8_records_131 : decode cX8_records 131 = .ok (.getfield 20, 3) := by decide +kernel
theorem dX8_records_134 : decode cX8_records 134 = .ok (.iconst 2, 1) := by decide +kernel
theorem dX8_records_135 : decode cX8_records 135 = .ok (.aload_n 0, 1) := by decide +kernel
theorem dX8_records_136 : decode cX8_records 136 = .ok (.getfield 47, 3) := by decide +kernel
theorem dX8_records_139 : decode cX8_records 139 = .ok (.imul, 1) := by decide +kernel
theorem dX8_records_140 : decode cX8_records 140 = .ok (.iconst 1, 1) := by decide +kernel
theorem dX8_records_141 : decode cX8_records 141 = .ok (.iadd, 1) := by decide +kernel
theorem dX8_records_142 : decode cX8_records 142 = .ok (.aload_n 0, 1) := by decide +kernel
theorem dX8_records_143 : decode cX8_records 143 = .ok (.getfield 16, 3) := by decide +kernel
theorem dX8_records_146 : decode cX8_records 146 = .ok (.iconst 1, 1) := by decide +kernel
theorem dX8_records_147 : decode cX8_records 147 = .ok (.laload, 1) := by decide +kernel
theorem dX8_records_148 : decode cX8_records 148 = .ok (.lastore, 1) := by decide +kernel
theorem dX8_records_149 : decode cX8_records 149 = .ok (.aload_n 0, 1) := by decide +kernel
theorem dX8_records_150 : decode cX8_records 150 = .ok (.dup, 1) := by decide +kernel
theorem dX8_records_151 : decode cX8_records 151 = .ok (.getfield 47, 3) := by decide +kernel
theorem dX8_records_154 : decode cX8_records 154 = .ok (.iconst 1, 1) := by decide +kernel
theorem dX8_records_155 : decode cX8_records 155 = .ok (.iadd, 1) := by decide +kernel
theorem dX8_records_156 : decode cX8_records 156 = .ok (.putfield 47, 3) := by decide +kernel
theorem dX8_records_159 : decode cX8_records 159 = .ok (.return_, 1) := by decide +kernel
theorem dX8_undo_0 : decode cX8_undo 0 = .ok (.aload_n 0, 1) := by decide +kernel
theorem dX8_undo_1 : decode cX8_undo 1 = .ok (.getfield 47, 3) := by decide +kernel
theorem dX8_undo_4 : decode cX8_undo 4 = .ok (.ifCond .ne 6, 3) := by decide +kernel
theorem dX8_undo_7 : decode cX8_undo 7 = .ok (.bipush (-2), 2) := by decide +kernel
theorem dX8_undo_9 : decode cX8_undo 9 = .ok (.ireturn, 1) := by decide +kernel
theorem dX8_undo_10 : decode cX8_undo 10 = .ok (.aload_n 0, 1) := by decide +kernel
theorem dX8_undo_11 : decode cX8_undo 11 = .ok (.dup, 1) := by decide +kernel
theorem dX8_undo_12 : decode cX8_undo 12 = .ok (.getfield 47, 3) := by decide +kernel
theorem dX8_undo_15 : decode cX8_undo 15 = .ok (.iconst 1, 1) := by decide +kernel
theorem dX8_undo_16 : decode cX8_undo 16 = .ok (.isub, 1) := by decide +kernel
theorem dX8_undo_17 : decode cX8_undo 17 = .ok (.putfield 47, 3) := by decide +kernel
theorem dX8_undo_20 : decode cX8_undo 20 = .ok (.iconst 0, 1) := by decide +kernel
theorem dX8_undo_21 : decode cX8_undo 21 = .ok (.istore_n 1, 1) := by decide +kernel
theorem dX8_undo_22 : decode cX8_undo 22 = .ok (.iload_n 1, 1) := by decide +kernel
theorem dX8_undo_23 : decode cX8_undo 23 = .ok (.sipush 934, 3) := by decide +kernel
theorem dX8_undo_26 : decode cX8_undo 26 = .ok (.if_icmp .ge 30, 3) := by decide +kernel
theorem dX8_undo_29 : decode cX8_undo 29 = .ok (.aload_n 0, 1) := by decide +kernel
theorem dX8_undo_30 : decode cX8_undo 30 = .ok (.getfield 7, 3) := by decide +kernel
theorem dX8_undo_33 : decode cX8_undo 33 = .ok (.iload_n 1, 1) := by decide +kernel
theorem dX8_undo_34 : decode cX8_undo 34 = .ok (.aload_n 0, 1) := by decide +kernel
theorem dX8_undo_35 : decode cX8_undo 35 = .ok (.getfield 13, 3) := by decide +kernel
theorem dX8_undo_38 : decode cX8_undo 38 = .ok (.sipush 934, 3) := by decide +kernel
theorem dX8_undo_41 : decode cX8_undo 41 = .ok (.aload_n 0, 1) := by decide +kernel
theorem dX8_undo_42 : decode cX8_undo 42 = .ok (.getfield 47, 3) := by decide +kernel
theorem dX8_undo_45 : decode cX8_undo 45 = .ok (.imul, 1) := by decide +kernel
theorem dX8_undo_46 : decode cX8_undo 46 = .ok (.iload_n 1, 1) := by decide +kernel
theorem dX8_undo_47 : decode cX8_undo 47 = .ok (.iadd, 1) := by decide +kernel
theorem dX8_undo_48 : decode cX8_undo 48 = .ok (.iaload, 1) := by decide +kernel
theorem dX8_undo_49 : decode cX8_undo 49 = .ok (.iastore, 1) := by decide +kernel
theorem dX8_undo_50 : decode cX8_undo 50 = .ok (.iinc 1 1, 3) := by decide +kernel
theorem dX8_undo_53 : decode cX8_undo 53 = .ok (.goto (-31), 3) := by decide +kernel
theorem dX8_undo_56 : decode cX8_undo 56 = .ok (.aload_n 0, 1) := by decide +kernel
theorem dX8_undo_57 : decode cX8_undo 57 = .ok (.getfield 16, 3) := by decide +kernel
theorem dX8_undo_60 : decode cX8_undo 60 = .ok (.iconst 0, 1) := by decide +kernel
theorem dX8_undo_61 : decode cX8_undo 61 = .ok (.aload_n 0, 1) := by decide +kernel
theorem dX8_undo_62 : decode cX8_undo 62 = .ok (.getfield 20, 3) := by decide +kernel
theorem dX8_undo_65 : decode cX8_undo 65 = .ok (.iconst 2, 1) := by decide +kernel
theorem dX8_undo_66 : decode cX8_undo 66 = .ok (.aload_n 0, 1) := by decide +kernel
theorem dX8_undo_67 : decode cX8_undo 67 = .ok (.getfield 47, 3) := by decide +kernel
theorem dX8_undo_70 : decode cX8_undo 70 = .ok (.imul, 1) := by decide +kernel
theorem dX8_undo_71 : decode cX8_undo 71 = .ok (.laload, 1) := by decide +kernel
theorem dX8_undo_72 : decode cX8_undo 72 = .ok (.lastore, 1) := by decide +kernel
theorem dX8_undo_73 : decode cX8_undo 73 = .ok (.aload_n 0, 1) := by decide +kernel
theorem dX8_undo_74 : decode cX8_undo 74 = .ok (.getfield 16, 3) := by decide +kernel
theorem dX8_undo_77 : decode cX8_undo 77 = .ok (.iconst 1, 1) := by decide +kernel
theorem dX8_undo_78 : decode cX8_undo 78 = .ok (.aload_n 0, 1) := by decide +kernel
theorem dX8_undo_79 : decode cX8_undo 79 = .ok (.getfield 20, 3) := by decide +kernel
theorem dX8_undo_82 : decode cX8_undo 82 = .ok (.iconst 2, 1) := by decide +kernel
theorem dX8_undo_83 : decode cX8_undo 83 = .ok (.aload_n 0, 1) := by decide +kernel
theorem dX8_undo_84 : decode cX8_undo 84 = .ok (.getfield 47, 3) := by decide +kernel
theorem dX8_undo_87 : decode cX8_undo 87 = .ok (.imul, 1) := by decide +kernel
theorem dX8_undo_88 : decode cX8_undo 88 = .ok (.iconst 1, 1) := by decide +kernel
theorem dX8_undo_89 : decode cX8_undo 89 = .ok (.iadd, 1) := by decide +kernel
theorem dX8_undo_90 : decode cX8_undo 90 = .ok (.laload, 1) := by decide +kernel
theorem dX8_undo_91 : decode cX8_undo 91 = .ok (.lastore, 1) := by decide +kernel
theorem dX8_undo_92 : decode cX8_undo 92 = .ok (.aload_n 0, 1) := by decide +kernel
theorem dX8_undo_93 : decode cX8_undo 93 = .ok (.getfield 47, 3) := by decide +kernel
theorem dX8_undo_96 : decode cX8_undo 96 = .ok (.ireturn, 1) := by decide +kernel
theorem dX8_stratum_0 : decode cX8_stratum 0 = .ok (.iload_n 1, 1) := by decide +kernel
theorem dX8_stratum_1 : decode cX8_stratum 1 = .ok (.iconst 0, 1) := by decide +kernel
theorem dX8_stratum_2 : decode cX8_stratum 2 = .ok (.aload_n 0, 1) := by decide +kernel
theorem dX8_stratum_3 : decode cX8_stratum 3 = .ok (.getfield 7, 3) := by decide +kernel
theorem dX8_stratum_6 : decode cX8_stratum 6 = .ok (.iconst 0, 1) := by decide +kernel
theorem dX8_stratum_7 : decode cX8_stratum 7 = .ok (.iaload, 1) := by decide +kernel
theorem dX8_stratum_8 : decode cX8_stratum 8 = .ok (.invokestatic 51, 3) := by decide +kernel
theorem dX8_stratum_11 : decode cX8_stratum 11 = .ok (.ifCond .eq 26, 3) := by decide +kernel
theorem dX8_stratum_14 : decode cX8_stratum 14 = .ok (.iload_n 2, 1) := by decide +kernel
theorem dX8_stratum_15 : decode cX8_stratum 15 = .ok (.bipush 100, 2) := by decide +kernel
theorem dX8_stratum_17 : decode cX8_stratum 17 = .ok (.sipush 20000, 3) := by decide +kernel
theorem dX8_stratum_20 : decode cX8_stratum 20 = .ok (.invokestatic 51, 3) := by decide +kernel
theorem dX8_stratum_23 : decode cX8_stratum 23 = .ok (.ifCond .eq 14, 3) := by decide +kernel
theorem dX8_stratum_26 : decode cX8_stratum 26 = .ok (.iload_n 3, 1) := by decide +kernel
theorem dX8_stratum_27 : decode cX8_stratum 27 = .ok (.iconst 1, 1) := by decide +kernel
theorem dX8_stratum_28 : decode cX8_stratum 28 = .ok (.sipush 500, 3) := by decide +kernel
theorem dX8_stratum_31 : decode cX8_stratum 31 = .ok (.invokestatic 51, 3) := by decide +kernel
theorem dX8_stratum_34 : decode cX8_stratum 34 = .ok (.ifCond .ne 5, 3) := by decide +kernel
theorem dX8_stratum_37 : decode cX8_stratum 37 = .ok (.iconst (-1), 1) := by decide +kernel
theorem dX8_stratum_38 : decode cX8_stratum 38 = .ok (.ireturn, 1) := by decide +kernel
theorem dX8_stratum_39 : decode cX8_stratum 39 = .ok (.iload_n 1, 1) := by decide +kernel
theorem dX8_stratum_40 : decode cX8_stratum 40 = .ok (.bipush 6, 2) := by decide +kernel
theorem dX8_stratum_42 : decode cX8_stratum 42 = .ok (.if_icmp .ne 6, 3) := by decide +kernel
theorem dX8_stratum_45 : decode cX8_stratum 45 = .ok (.bipush (-3), 2) := by decide +kernel
theorem dX8_stratum_47 : decode cX8_stratum 47 = .ok (.ireturn, 1) := by decide +kernel
theorem dX8_stratum_48 : decode cX8_stratum 48 = .ok (.aload_n 0, 1) := by decide +kernel
theorem dX8_stratum_49 : decode cX8_stratum 49 = .ok (.invokevirtual 55, 3) := by decide +kernel
theorem dX8_stratum_52 : decode cX8_stratum 52 = .ok (.aload_n 0, 1) := by decide +kernel
theorem dX8_stratum_53 : decode cX8_stratum 53 = .ok (.getfield 7, 3) := by decide +kernel
theorem dX8_stratum_56 : decode cX8_stratum 56 = .ok (.iconst 1, 1) := by decide +kernel
theorem dX8_stratum_57 : decode cX8_stratum 57 = .ok (.iload_n 1, 1) := by decide +kernel
theorem dX8_stratum_58 : decode cX8_stratum 58 = .ok (.iadd, 1) := by decide +kernel
theorem dX8_stratum_59 : decode cX8_stratum 59 = .ok (.iload_n 2, 1) := by decide +kernel
theorem dX8_stratum_60 : decode cX8_stratum 60 = .ok (.iastore, 1) := by decide +kernel
theorem dX8_stratum_61 : decode cX8_stratum 61 = .ok (.aload_n 0, 1) := by decide +kernel
theorem dX8_stratum_62 : decode cX8_stratum 62 = .ok (.getfield 7, 3) := by decide +kernel
theorem dX8_stratum_65 : decode cX8_stratum 65 = .ok (.bipush 7, 2) := by decide +kernel
theorem dX8_stratum_67 : decode cX8_stratum 67 = .ok (.iload_n 1, 1) := by decide +kernel
theorem dX8_stratum_68 : decode cX8_stratum 68 = .ok (.iadd, 1) := by decide +kernel
theorem dX8_stratum_69 : decode cX8_stratum 69 = .ok (.iload_n 3, 1) := by decide +kernel
theorem dX8_stratum_70 : decode cX8_stratum 70 = .ok (.iastore, 1) := by decide +kernel
theorem dX8_stratum_71 : decode cX8_stratum 71 = .ok (.aload_n 0, 1) := by decide +kernel
theorem dX8_stratum_72 : decode cX8_stratum 72 = .ok (.getfield 7, 3) := by decide +kernel
theorem dX8_stratum_75 : decode cX8_stratum 75 = .ok (.iconst 0, 1) := by decide +kernel
theorem dX8_stratum_76 : decode cX8_stratum 76 = .ok (.dup2, 1) := by decide +kernel
theorem dX8_stratum_77 : decode cX8_stratum 77 = .ok (.iaload, 1) := by decide +kernel
theorem dX8_stratum_78 : decode cX8_stratum 78 = .ok (.iload_n 1, 1) := by decide +kernel
theorem dX8_stratum_79 : decode cX8_stratum 79 = .ok (.aload_n 0, 1) := by decide +kernel
theorem dX8_stratum_80 : decode cX8_stratum 80 = .ok (.getfield 7, 3) := by decide +kernel
theorem dX8_stratum_83 : decode cX8_stratum 83 = .ok (.iconst 0, 1) := by decide +kernel
theorem dX8_stratum_84 : decode cX8_stratum 84 = .ok (.iaload, 1) := by decide +kernel
theorem dX8_stratum_85 : decode cX8_stratum 85 = .ok (.if_icmp .ne 7, 3) := by decide +kernel
theorem dX8_stratum_88 : decode cX8_stratum 88 = .ok (.iconst 1, 1) := by decide +kernel
theorem dX8_stratum_89 : decode cX8_stratum 89 = .ok (.goto 4, 3) := by decide +kernel
theorem dX8_stratum_92 : decode cX8_stratum 92 = .ok (.iconst 0, 1) := by decide +kernel
theorem dX8_stratum_93 : decode cX8_stratum 93 = .ok (.iadd, 1) := by decide +kernel
theorem dX8_stratum_94 : decode cX8_stratum 94 = .ok (.iastore, 1) := by decide +kernel
theorem dX8_stratum_95 : decode cX8_stratum 95 = .ok (.aload_n 0, 1) := by decide +kernel
theorem dX8_stratum_96 : decode cX8_stratum 96 = .ok (.getfield 7, 3) := by decide +kernel
theorem dX8_stratum_99 : decode cX8_stratum 99 = .ok (.iconst 0, 1) := by decide +kernel
theorem dX8_stratum_100 : decode cX8_stratum 100 = .ok (.iaload, 1) := by decide +kernel
theorem dX8_stratum_101 : decode cX8_stratum 101 = .ok (.ireturn, 1) := by decide +kernel
theorem dX8_cut_0 : decode cX8_cut 0 = .ok (.aload_n 0, 1) := by decide +kernel
theorem dX8_cut_1 : decode cX8_cut 1 = .ok (.getfield 7, 3) := by decide +kernel
theorem dX8_cut_4 : decode cX8_cut 4 = .ok (.iconst 0, 1) := by decide +kernel
theorem dX8_cut_5 : decode cX8_cut 5 = .ok (.iaload, 1) := by decide +kernel
theorem dX8_cut_6 : decode cX8_cut 6 = .ok (.iconst 1, 1) := by decide +kernel
theorem dX8_cut_7 : decode cX8_cut 7 = .ok (.if_icmp .ne 6, 3) := by decide +kernel
theorem dX8_cut_10 : decode cX8_cut 10 = .ok (.bipush (-2), 2) := by decide +kernel
theorem dX8_cut_12 : decode cX8_cut 12 = .ok (.ireturn, 1) := by decide +kernel
theorem dX8_cut_13 : decode cX8_cut 13 = .ok (.aload_n 0, 1) := by decide +kernel
theorem dX8_cut_14 : decode cX8_cut 14 = .ok (.invokevirtual 55, 3) := by decide +kernel
theorem dX8_cut_17 : decode cX8_cut 17 = .ok (.aload_n 0, 1) := by decide +kernel
theorem dX8_cut_18 : decode cX8_cut 18 = .ok (.getfield 7, 3) := by decide +kernel
theorem dX8_cut_21 : decode cX8_cut 21 = .ok (.iconst 0, 1) := by decide +kernel
theorem dX8_cut_22 : decode cX8_cut 22 = .ok (.dup2, 1) := by decide +kernel
theorem dX8_cut_23 : decode cX8_cut 23 = .ok (.iaload, 1) := by decide +kernel
theorem dX8_cut_24 : decode cX8_cut 24 = .ok (.iconst 1, 1) := by decide +kernel
theorem dX8_cut_25 : decode cX8_cut 25 = .ok (.isub, 1) := by decide +kernel
theorem dX8_cut_26 : decode cX8_cut 26 = .ok (.iastore, 1) := by decide +kernel
theorem dX8_cut_27 : decode cX8_cut 27 = .ok (.aload_n 0, 1) := by decide +kernel
theorem dX8_cut_28 : decode cX8_cut 28 = .ok (.getfield 7, 3) := by decide +kernel
theorem dX8_cut_31 : decode cX8_cut 31 = .ok (.iconst 0, 1) := by decide +kernel
theorem dX8_cut_32 : decode cX8_cut 32 = .ok (.iaload, 1) := by decide +kernel
theorem dX8_cut_33 : decode cX8_cut 33 = .ok (.ireturn, 1) := by decide +kernel
theorem dX8_stratumAt_0 : decode cX8_stratumAt 0 = .ok (.iconst 0, 1) := by decide +kernel
theorem dX8_stratumAt_1 : decode cX8_stratumAt 1 = .ok (.istore_n 2, 1) := by decide +kernel
theorem dX8_stratumAt_2 : decode cX8_stratumAt 2 = .ok (.iconst 0, 1) := by decide +kernel
theorem dX8_stratumAt_3 : decode cX8_stratumAt 3 = .ok (.istore_n 3, 1) := by decide +kernel
theorem dX8_stratumAt_4 : decode cX8_stratumAt 4 = .ok (.iload_n 3, 1) := by decide +kernel
theorem dX8_stratumAt_5 : decode cX8_stratumAt 5 = .ok (.aload_n 0, 1) := by decide +kernel
theorem dX8_stratumAt_6 : decode cX8_stratumAt 6 = .ok (.getfield 7, 3) := by decide +kernel
theorem dX8_stratumAt_9 : decode cX8_stratumAt 9 = .ok (.iconst 0, 1) := by decide +kernel
theorem dX8_stratumAt_10 : decode cX8_stratumAt 10 = .ok (.iaload, 1) := by decide +kernel
theorem dX8_stratumAt_11 : decode cX8_stratumAt 11 = .ok (.if_icmp .ge 27, 3) := by decide +kernel
theorem dX8_stratumAt_14 : decode cX8_stratumAt 14 = .ok (.iload_n 2, 1) := by decide +kernel
theorem dX8_stratumAt_15 : decode cX8_stratumAt 15 = .ok (.aload_n 0, 1) := by decide +kernel
theorem dX8_stratumAt_16 : decode cX8_stratumAt 16 = .ok (.getfield 7, 3) := by decide +kernel
theorem dX8_stratumAt_19 : decode cX8_stratumAt 19 = .ok (.iconst 1, 1) := by decide +kernel
theorem dX8_stratumAt_20 : decode cX8_stratumAt 20 = .ok (.iload_n 3, 1) := by decide +kernel
theorem dX8_stratumAt_21 : decode cX8_stratumAt 21 = .ok (.iadd, 1) := by decide +kernel
theorem dX8_stratumAt_22 : decode cX8_stratumAt 22 = .ok (.iaload, 1) := by decide +kernel
theorem dX8_stratumAt_23 : decode cX8_stratumAt 23 = .ok (.iadd, 1) := by decide +kernel
theorem dX8_stratumAt_24 : decode cX8_stratumAt 24 = .ok (.istore_n 2, 1) := by decide +kernel
theorem dX8_stratumAt_25 : decode cX8_stratumAt 25 = .ok (.iload_n 1, 1) := by decide +kernel
theorem dX8_stratumAt_26 : decode cX8_stratumAt 26 = .ok (.iload_n 2, 1) := by decide +kernel
theorem dX8_stratumAt_27 : decode cX8_stratumAt 27 = .ok (.if_icmp .ge 5, 3) := by decide +kernel
theorem dX8_stratumAt_30 : decode cX8_stratumAt 30 = .ok (.iload_n 3, 1) := by decide +kernel
theorem dX8_stratumAt_31 : decode cX8_stratumAt 31 = .ok (.ireturn, 1) := by decide +kernel
theorem dX8_stratumAt_32 : decode cX8_stratumAt 32 = .ok (.iinc 3 1, 3) := by decide +kernel
theorem dX8_stratumAt_35 : decode cX8_stratumAt 35 = .ok (.goto (-31), 3) := by decide +kernel
theorem dX8_stratumAt_38 : decode cX8_stratumAt 38 = .ok (.bipush (-4), 2) := by decide +kernel
theorem dX8_stratumAt_40 : decode cX8_stratumAt 40 = .ok (.ireturn, 1) := by decide +kernel
theorem dX8_hardness_0 : decode cX8_hardness 0 = .ok (.aload_n 0, 1) := by decide +kernel
theorem dX8_hardness_1 : decode cX8_hardness 1 = .ok (.iload_n 1, 1) := by decide +kernel
theorem dX8_hardness_2 : decode cX8_hardness 2 = .ok (.invokevirtual 58, 3) := by decide +kernel
theorem dX8_hardness_5 : decode cX8_hardness 5 = .ok (.istore_n 2, 1) := by decide +kernel
theorem dX8_hardness_6 : decode cX8_hardness 6 = .ok (.iload_n 2, 1) := by decide +kernel
theorem dX8_hardness_7 : decode cX8_hardness 7 = .ok (.ifCond .ge 9, 3) := by decide +kernel
theorem dX8_hardness_10 : decode cX8_hardness 10 = .ok (.sipush 2000, 3) := by decide +kernel
theorem dX8_hardness_13 : decode cX8_hardness 13 = .ok (.goto 12, 3) := by decide +kernel
theorem dX8_hardness_16 : decode cX8_hardness 16 = .ok (.aload_n 0, 1) := by decide +kernel
theorem dX8_hardness_17 : decode cX8_hardness 17 = .ok (.getfield 7, 3) := by decide +kernel
theorem dX8_hardness_20 : decode cX8_hardness 20 = .ok (.bipush 7, 2) := by decide +kernel
theorem dX8_hardness_22 : decode cX8_hardness 22 = .ok (.iload_n 2, 1) := by decide +kernel
theorem dX8_hardness_23 : decode cX8_hardness 23 = .ok (.iadd, 1) := by decide +kernel
theorem dX8_hardness_24 : decode cX8_hardness 24 = .ok (.iaload, 1) := by decide +kernel
theorem dX8_hardness_25 : decode cX8_hardness 25 = .ok (.ireturn, 1) := by decide +kernel
theorem dX8_begins_0 : decode cX8_begins 0 = .ok (.iconst 0, 1) := by decide +kernel
theorem dX8_begins_1 : decode cX8_begins 1 = .ok (.istore_n 2, 1) := by decide +kernel
theorem dX8_begins_2 : decode cX8_begins 2 = .ok (.iconst 0, 1) := by decide +kernel
theorem dX8_begins_3 : decode cX8_begins 3 = .ok (.istore_n 3, 1) := by decide +kernel
theorem dX8_begins_4 : decode cX8_begins 4 = .ok (.iload_n 3, 1) := by decide +kernel
theorem dX8_begins_5 : decode cX8_begins 5 = .ok (.iload_n 1, 1) := by decide +kernel
theorem dX8_begins_6 : decode cX8_begins 6 = .ok (.if_icmp .ge 20, 3) := by decide +kernel
theorem dX8_begins_9 : decode cX8_begins 9 = .ok (.iload_n 2, 1) := by decide +kernel
theorem dX8_begins_10 : decode cX8_begins 10 = .ok (.aload_n 0, 1) := by decide +kernel
theorem dX8_begins_11 : decode cX8_begins 11 = .ok (.getfield 7, 3) := by decide +kernel
theorem dX8_begins_14 : decode cX8_begins 14 = .ok (.iconst 1, 1) := by decide +kernel
theorem dX8_begins_15 : decode cX8_begins 15 = .ok (.iload_n 3, 1) := by decide +kernel
theorem dX8_begins_16 : decode cX8_begins 16 = .ok (.iadd, 1) := by decide +kernel
theorem dX8_begins_17 : decode cX8_begins 17 = .ok (.iaload, 1) := by decide +kernel
theorem dX8_begins_18 : decode cX8_begins 18 = .ok (.iadd, 1) := by decide +kernel
theorem dX8_begins_19 : decode cX8_begins 19 = .ok (.istore_n 2, 1) := by decide +kernel
theorem dX8_begins_20 : decode cX8_begins 20 = .ok (.iinc 3 1, 3) := by decide +kernel
theorem dX8_begins_23 : decode cX8_begins 23 = .ok (.goto (-19), 3) := by decide +kernel
theorem dX8_begins_26 : decode cX8_begins 26 = .ok (.iload_n 2, 1) := by decide +kernel
theorem dX8_begins_27 : decode cX8_begins 27 = .ok (.ireturn, 1) := by decide +kernel
theorem dX8_feetIn_0 : decode cX8_feetIn 0 = .ok (.iconst 0, 1) := by decide +kernel
theorem dX8_feetIn_1 : decode cX8_feetIn 1 = .ok (.istore_n 2, 1) := by decide +kernel
theorem dX8_feetIn_2 : decode cX8_feetIn 2 = .ok (.iconst 0, 1) := by decide +kernel
theorem dX8_feetIn_3 : decode cX8_feetIn 3 = .ok (.istore_n 3, 1) := by decide +kernel
theorem dX8_feetIn_4 : decode cX8_feetIn 4 = .ok (.iload_n 3, 1) := by decide +kernel
theorem dX8_feetIn_5 : decode cX8_feetIn 5 = .ok (.aload_n 0, 1) := by decide +kernel
theorem dX8_feetIn_6 : decode cX8_feetIn 6 = .ok (.getfield 7, 3) := by decide +kernel
theorem dX8_feetIn_9 : decode cX8_feetIn 9 = .ok (.bipush 19, 2) := by decide +kernel
theorem dX8_feetIn_11 : decode cX8_feetIn 11 = .ok (.iaload, 1) := by decide +kernel
theorem dX8_feetIn_12 : decode cX8_feetIn 12 = .ok (.if_icmp .ge 31, 3) := by decide +kernel
theorem dX8_feetIn_15 : decode cX8_feetIn 15 = .ok (.iload_n 2, 1) := by decide +kernel
theorem dX8_feetIn_16 : decode cX8_feetIn 16 = .ok (.aload_n 0, 1) := by decide +kernel
theorem dX8_feetIn_17 : decode cX8_feetIn 17 = .ok (.aload_n 0, 1) := by decide +kernel
theorem dX8_feetIn_18 : decode cX8_feetIn 18 = .ok (.iload_n 3, 1) := by decide +kernel
theorem dX8_feetIn_19 : decode cX8_feetIn 19 = .ok (.iconst 3, 1) := by decide +kernel
theorem dX8_feetIn_20 : decode cX8_feetIn 20 = .ok (.invokevirtual 62, 3) := by decide +kernel
theorem dX8_feetIn_23 : decode cX8_feetIn 23 = .ok (.invokevirtual 58, 3) := by decide +kernel
theorem dX8_feetIn_26 : decode cX8_feetIn 26 = .ok (.iload_n 1, 1) := by decide +kernel
theorem dX8_feetIn_27 : decode cX8_feetIn 27 = .ok (.if_icmp .ne 7, 3) := by decide +kernel
theorem dX8_feetIn_30 : decode cX8_feetIn 30 = .ok (.iconst 1, 1) := by decide +kernel
theorem dX8_feetIn_31 : decode cX8_feetIn 31 = .ok (.goto 4, 3) := by decide +kernel
theorem dX8_feetIn_34 : decode cX8_feetIn 34 = .ok (.iconst 0, 1) := by decide +kernel
theorem dX8_feetIn_35 : decode cX8_feetIn 35 = .ok (.iadd, 1) := by decide +kernel
theorem dX8_feetIn_36 : decode cX8_feetIn 36 = .ok (.istore_n 2, 1) := by decide +kernel
theorem dX8_feetIn_37 : decode cX8_feetIn 37 = .ok (.iinc 3 1, 3) := by decide +kernel
theorem dX8_feetIn_40 : decode cX8_feetIn 40 = .ok (.goto (-36), 3) := by decide +kernel
theorem dX8_feetIn_43 : decode cX8_feetIn 43 = .ok (.iload_n 2, 1) := by decide +kernel
theorem dX8_feetIn_44 : decode cX8_feetIn 44 = .ok (.ireturn, 1) := by decide +kernel
theorem dX8_ground_0 : decode cX8_ground 0 = .ok (.iload_n 1, 1) := by decide +kernel
theorem dX8_ground_1 : decode cX8_ground 1 = .ok (.iconst 0, 1) := by decide +kernel
theorem dX8_ground_2 : decode cX8_ground 2 = .ok (.aload_n 0, 1) := by decide +kernel
theorem dX8_ground_3 : decode cX8_ground 3 = .ok (.getfield 7, 3) := by decide +kernel
theorem dX8_ground_6 : decode cX8_ground 6 = .ok (.iconst 0, 1) := by decide +kernel
theorem dX8_ground_7 : decode cX8_ground 7 = .ok (.iaload, 1) := by decide +kernel
theorem dX8_ground_8 : decode cX8_ground 8 = .ok (.iconst 1, 1) := by decide +kernel
theorem dX8_ground_9 : decode cX8_ground 9 = .ok (.isub, 1) := by decide +kernel
theorem dX8_ground_10 : decode cX8_ground 10 = .ok (.invokestatic 51, 3) := by decide +kernel
theorem dX8_ground_13 : decode cX8_ground 13 = .ok (.ifCond .eq 12, 3) := by decide +kernel
theorem dX8_ground_16 : decode cX8_ground 16 = .ok (.iload_n 2, 1) := by decide +kernel
theorem dX8_ground_17 : decode cX8_ground 17 = .ok (.iconst 0, 1) := by decide +kernel
theorem dX8_ground_18 : decode cX8_ground 18 = .ok (.iconst 3, 1) := by decide +kernel
theorem dX8_ground_19 : decode cX8_ground 19 = .ok (.invokestatic 51, 3) := by decide +kernel
theorem dX8_ground_22 : decode cX8_ground 22 = .ok (.ifCond .ne 5, 3) := by decide +kernel
theorem dX8_ground_25 : decode cX8_ground 25 = .ok (.iconst (-1), 1) := by decide +kernel
theorem dX8_ground_26 : decode cX8_ground 26 = .ok (.ireturn, 1) := by decide +kernel
theorem dX8_ground_27 : decode cX8_ground 27 = .ok (.iload_n 2, 1) := by decide +kernel
theorem dX8_ground_28 : decode cX8_ground 28 = .ok (.tableswitch 53 0 2 #[28, 37, 47], 28) := by decide +kernel
theorem dX8_ground_56 : decode cX8_ground 56 = .ok (.aload_n 0, 1) := by decide +kernel
theorem dX8_ground_57 : decode cX8_ground 57 = .ok (.getfield 7, 3) := by decide +kernel
theorem dX8_ground_60 : decode cX8_ground 60 = .ok (.iconst 1, 1) := by decide +kernel
theorem dX8_ground_61 : decode cX8_ground 61 = .ok (.iload_n 1, 1) := by decide +kernel
theorem dX8_ground_62 : decode cX8_ground 62 = .ok (.iadd, 1) := by decide +kernel
theorem dX8_ground_63 : decode cX8_ground 63 = .ok (.iaload, 1) := by decide +kernel
theorem dX8_ground_64 : decode cX8_ground 64 = .ok (.ireturn, 1) := by decide +kernel
theorem dX8_ground_65 : decode cX8_ground 65 = .ok (.aload_n 0, 1) := by decide +kernel
theorem dX8_ground_66 : decode cX8_ground 66 = .ok (.getfield 7, 3) := by decide +kernel
theorem dX8_ground_69 : decode cX8_ground 69 = .ok (.bipush 7, 2) := by decide +kernel
theorem dX8_ground_71 : decode cX8_ground 71 = .ok (.iload_n 1, 1) := by decide +kernel
theorem dX8_ground_72 : decode cX8_ground 72 = .ok (.iadd, 1) := by decide +kernel
theorem dX8_ground_73 : decode cX8_ground 73 = .ok (.iaload, 1) := by decide +kernel
theorem dX8_ground_74 : decode cX8_ground 74 = .ok (.ireturn, 1) := by decide +kernel
theorem dX8_ground_75 : decode cX8_ground 75 = .ok (.aload_n 0, 1) := by decide +kernel
theorem dX8_ground_76 : decode cX8_ground 76 = .ok (.iload_n 1, 1) := by decide +kernel
theorem dX8_ground_77 : decode cX8_ground 77 = .ok (.invokevirtual 66, 3) := by decide +kernel
theorem dX8_ground_80 : decode cX8_ground 80 = .ok (.ireturn, 1) := by decide +kernel
theorem dX8_ground_81 : decode cX8_ground 81 = .ok (.aload_n 0, 1) := by decide +kernel
theorem dX8_ground_82 : decode cX8_ground 82 = .ok (.iload_n 1, 1) := by decide +kernel
theorem dX8_ground_83 : decode cX8_ground 83 = .ok (.invokevirtual 69, 3) := by decide +kernel
theorem dX8_ground_86 : decode cX8_ground 86 = .ok (.ireturn, 1) := by decide +kernel
theorem dX8_at_0 : decode cX8_at 0 = .ok (.iload_n 1, 1) := by decide +kernel
theorem dX8_at_1 : decode cX8_at 1 = .ok (.iconst 0, 1) := by decide +kernel
theorem dX8_at_2 : decode cX8_at 2 = .ok (.ldc 72, 2) := by decide +kernel
theorem dX8_at_4 : decode cX8_at 4 = .ok (.invokestatic 51, 3) := by decide +kernel
theorem dX8_at_7 : decode cX8_at 7 = .ok (.ifCond .eq 11, 3) := by decide +kernel
theorem dX8_at_10 : decode cX8_at 10 = .ok (.aload_n 0, 1) := by decide +kernel
theorem dX8_at_11 : decode cX8_at 11 = .ok (.iload_n 1, 1) := by decide +kernel
theorem dX8_at_12 : decode cX8_at 12 = .ok (.invokevirtual 58, 3) := by decide +kernel
theorem dX8_at_15 : decode cX8_at 15 = .ok (.goto 4, 3) := by decide +kernel
theorem dX8_at_18 : decode cX8_at 18 = .ok (.iconst (-1), 1) := by decide +kernel
theorem dX8_at_19 : decode cX8_at 19 = .ok (.ireturn, 1) := by decide +kernel
theorem dX8_canBe_0 : decode cX8_canBe 0 = .ok (.iload_n 0, 1) := by decide +kernel
theorem dX8_canBe_1 : decode cX8_canBe 1 = .ok (.tableswitch 76 0 5 #[39, 49, 58, 66, 76, 58], 39) := by decide +kernel
theorem dX8_canBe_40 : decode cX8_canBe 40 = .ok (.iload_n 1, 1) := by decide +kernel
theorem dX8_canBe_41 : decode cX8_canBe 41 = .ok (.bipush 100, 2) := by decide +kernel
theorem dX8_canBe_43 : decode cX8_canBe 43 = .ok (.sipush 10000, 3) := by decide +kernel
theorem dX8_canBe_46 : decode cX8_canBe 46 = .ok (.invokestatic 51, 3) := by decide +kernel
theorem dX8_canBe_49 : decode cX8_canBe 49 = .ok (.ireturn, 1) := by decide +kernel
theorem dX8_canBe_50 : decode cX8_canBe 50 = .ok (.iload_n 1, 1) := by decide +kernel
theorem dX8_canBe_51 : decode cX8_canBe 51 = .ok (.bipush 10, 2) := by decide +kernel
theorem dX8_canBe_53 : decode cX8_canBe 53 = .ok (.bipush 100, 2) := by decide +kernel
theorem dX8_canBe_55 : decode cX8_canBe 55 = .ok (.invokestatic 51, 3) := by decide +kernel
theorem dX8_canBe_58 : decode cX8_canBe 58 = .ok (.ireturn, 1) := by decide +kernel
theorem dX8_canBe_59 : decode cX8_canBe 59 = .ok (.iload_n 1, 1) := by decide +kernel
theorem dX8_canBe_60 : decode cX8_canBe 60 = .ok (.iconst 0, 1) := by decide +kernel
theorem dX8_canBe_61 : decode cX8_canBe 61 = .ok (.bipush 50, 2) := by decide +kernel
theorem dX8_canBe_63 : decode cX8_canBe 63 = .ok (.invokestatic 51, 3) := by decide +kernel
theorem dX8_canBe_66 : decode cX8_canBe 66 = .ok (.ireturn, 1) := by decide +kernel
theorem dX8_canBe_67 : decode cX8_canBe 67 = .ok (.iload_n 1, 1) := by decide +kernel
theorem dX8_canBe_68 : decode cX8_canBe 68 = .ok (.bipush 100, 2) := by decide +kernel
theorem dX8_canBe_70 : decode cX8_canBe 70 = .ok (.sipush 500, 3) := by decide +kernel
theorem dX8_canBe_73 : decode cX8_canBe 73 = .ok (.invokestatic 51, 3) := by decide +kernel
theorem dX8_canBe_76 : decode cX8_canBe 76 = .ok (.ireturn, 1) := by decide +kernel
theorem dX8_canBe_77 : decode cX8_canBe 77 = .ok (.iload_n 0, 1) := by decide +kernel
theorem dX8_canBe_78 : decode cX8_canBe 78 = .ok (.iconst 4, 1) := by decide +kernel
theorem dX8_canBe_79 : decode cX8_canBe 79 = .ok (.if_icmp .ne 18, 3) := by decide +kernel
theorem dX8_canBe_82 : decode cX8_canBe 82 = .ok (.iload_n 1, 1) := by decide +kernel
theorem dX8_canBe_83 : decode cX8_canBe 83 = .ok (.iconst 0, 1) := by decide +kernel
theorem dX8_canBe_84 : decode cX8_canBe 84 = .ok (.sipush 10000, 3) := by decide +kernel
theorem dX8_canBe_87 : decode cX8_canBe 87 = .ok (.invokestatic 51, 3) := by decide +kernel
theorem dX8_canBe_90 : decode cX8_canBe 90 = .ok (.ifCond .eq 7, 3) := by decide +kernel
theorem dX8_canBe_93 : decode cX8_canBe 93 = .ok (.iconst 1, 1) := by decide +kernel
theorem dX8_canBe_94 : decode cX8_canBe 94 = .ok (.goto 4, 3) := by decide +kernel
theorem dX8_canBe_97 : decode cX8_canBe 97 = .ok (.iconst 0, 1) := by decide +kernel
theorem dX8_canBe_98 : decode cX8_canBe 98 = .ok (.ireturn, 1) := by decide +kernel
theorem dX8_set_0 : decode cX8_set 0 = .ok (.iload_n 1, 1) := by decide +kernel
theorem dX8_set_1 : decode cX8_set 1 = .ok (.iload_n 2, 1) := by decide +kernel
theorem dX8_set_2 : decode cX8_set 2 = .ok (.invokestatic 73, 3) := by decide +kernel
theorem dX8_set_5 : decode cX8_set 5 = .ok (.ifCond .ne 5, 3) := by decide +kernel
theorem dX8_set_8 : decode cX8_set 8 = .ok (.iconst (-1), 1) := by decide +kernel
theorem dX8_set_9 : decode cX8_set 9 = .ok (.ireturn, 1) := by decide +kernel
theorem dX8_set_10 : decode cX8_set 10 = .ok (.aload_n 0, 1) := by decide +kernel
theorem dX8_set_11 : decode cX8_set 11 = .ok (.invokevirtual 55, 3) := by decide +kernel
theorem dX8_set_14 : decode cX8_set 14 = .ok (.aload_n 0, 1) := by decide +kernel
theorem dX8_set_15 : decode cX8_set 15 = .ok (.getfield 7, 3) := by decide +kernel
theorem dX8_set_18 : decode cX8_set 18 = .ok (.bipush 13, 2) := by decide +kernel
theorem dX8_set_20 : decode cX8_set 20 = .ok (.iload_n 1, 1) := by decide +kernel
theorem dX8_set_21 : decode cX8_set 21 = .ok (.iadd, 1) := by decide +kernel
theorem dX8_set_22 : decode cX8_set 22 = .ok (.iaload, 1) := by decide +kernel
theorem dX8_set_23 : decode cX8_set 23 = .ok (.istore_n 3, 1) := by decide +kernel
theorem dX8_set_24 : decode cX8_set 24 = .ok (.aload_n 0, 1) := by decide +kernel
theorem dX8_set_25 : decode cX8_set 25 = .ok (.getfield 7, 3) := by decide +kernel
theorem dX8_set_28 : decode cX8_set 28 = .ok (.bipush 13, 2) := by decide +kernel
theorem dX8_set_30 : decode cX8_set 30 = .ok (.iload_n 1, 1) := by decide +kernel
theorem dX8_set_31 : decode cX8_set 31 = .ok (.iadd, 1) := by decide +kernel
theorem dX8_set_32 : decode cX8_set 32 = .ok (.iload_n 2, 1) := by decide +kernel
theorem dX8_set_33 : decode cX8_set 33 = .ok (.iastore, 1) := by decide +kernel
theorem dX8_set_34 : decode cX8_set 34 = .ok (.iload_n 3, 1) := by decide +kernel
theorem dX8_set_35 : decode cX8_set 35 = .ok (.ireturn, 1) := by decide +kernel
theorem dX8_feet_0 : decode cX8_feet 0 = .ok (.iconst 0, 1) := by decide +kernel
theorem dX8_feet_1 : decode cX8_feet 1 = .ok (.istore_n 1, 1) := by decide +kernel
theorem dX8_feet_2 : decode cX8_feet 2 = .ok (.iconst 0, 1) := by decide +kernel
theorem dX8_feet_3 : decode cX8_feet 3 = .ok (.istore_n 2, 1) := by decide +kernel
theorem dX8_feet_4 : decode cX8_feet 4 = .ok (.iload_n 2, 1) := by decide +kernel
theorem dX8_feet_5 : decode cX8_feet 5 = .ok (.aload_n 0, 1) := by decide +kernel
theorem dX8_feet_6 : decode cX8_feet 6 = .ok (.getfield 7, 3) := by decide +kernel
theorem dX8_feet_9 : decode cX8_feet 9 = .ok (.bipush 19, 2) := by decide +kernel
theorem dX8_feet_11 : decode cX8_feet 11 = .ok (.iaload, 1) := by decide +kernel
theorem dX8_feet_12 : decode cX8_feet 12 = .ok (.if_icmp .ge 18, 3) := by decide +kernel
theorem dX8_feet_15 : decode cX8_feet 15 = .ok (.iload_n 1, 1) := by decide +kernel
theorem dX8_feet_16 : decode cX8_feet 16 = .ok (.aload_n 0, 1) := by decide +kernel
theorem dX8_feet_17 : decode cX8_feet 17 = .ok (.iload_n 2, 1) := by decide +kernel
theorem dX8_feet_18 : decode cX8_feet 18 = .ok (.iconst 3, 1) := by decide +kernel
theorem dX8_feet_19 : decode cX8_feet 19 = .ok (.invokevirtual 62, 3) := by decide +kernel
theorem dX8_feet_22 : decode cX8_feet 22 = .ok (.iadd, 1) := by decide +kernel
theorem dX8_feet_23 : decode cX8_feet 23 = .ok (.istore_n 1, 1) := by decide +kernel
theorem dX8_feet_24 : decode cX8_feet 24 = .ok (.iinc 2 1, 3) := by decide +kernel
theorem dX8_feet_27 : decode cX8_feet 27 = .ok (.goto (-23), 3) := by decide +kernel
theorem dX8_feet_30 : decode cX8_feet 30 = .ok (.iload_n 1, 1) := by decide +kernel
theorem dX8_feet_31 : decode cX8_feet 31 = .ok (.ireturn, 1) := by decide +kernel
theorem dX8_loosePiles_0 : decode cX8_loosePiles 0 = .ok (.iconst 0, 1) := by decide +kernel
theorem dX8_loosePiles_1 : decode cX8_loosePiles 1 = .ok (.istore_n 1, 1) := by decide +kernel
theorem dX8_loosePiles_2 : decode cX8_loosePiles 2 = .ok (.iconst 0, 1) := by decide +kernel
theorem dX8_loosePiles_3 : decode cX8_loosePiles 3 = .ok (.istore_n 2, 1) := by decide +kernel
theorem dX8_loosePiles_4 : decode cX8_loosePiles 4 = .ok (.iload_n 2, 1) := by decide +kernel
theorem dX8_loosePiles_5 : decode cX8_loosePiles 5 = .ok (.aload_n 0, 1) := by decide +kernel
theorem dX8_loosePiles_6 : decode cX8_loosePiles 6 = .ok (.getfield 7, 3) := by decide +kernel
theorem dX8_loosePiles_9 : decode cX8_loosePiles 9 = .ok (.bipush 19, 2) := by decide +kernel
theorem dX8_loosePiles_11 : decode cX8_loosePiles 11 = .ok (.iaload, 1) := by decide +kernel
theorem dX8_loosePiles_12 : decode cX8_loosePiles 12 = .ok (.if_icmp .ge 19, 3) := by decide +kernel
theorem dX8_loosePiles_15 : decode cX8_loosePiles 15 = .ok (.iload_n 1, 1) := by decide +kernel
theorem dX8_loosePiles_16 : decode cX8_loosePiles 16 = .ok (.aload_n 0, 1) := by decide +kernel
theorem dX8_loosePiles_17 : decode cX8_loosePiles 17 = .ok (.iload_n 2, 1) := by decide +kernel
theorem dX8_loosePiles_18 : decode cX8_loosePiles 18 = .ok (.bipush 6, 2) := by decide +kernel
theorem dX8_loosePiles_20 : decode cX8_loosePiles 20 = .ok (.invokevirtual 62, 3) := by decide +kernel
theorem dX8_loosePiles_23 : decode cX8_loosePiles 23 = .ok (.iadd, 1) := by decide +kernel
theorem dX8_loosePiles_24 : decode cX8_loosePiles 24 = .ok (.istore_n 1, 1) := by decide +kernel
theorem dX8_loosePiles_25 : decode cX8_loosePiles 25 = .ok (.iinc 2 1, 3) := by decide +kernel
theorem dX8_loosePiles_28 : decode cX8_loosePiles 28 = .ok (.goto (-24), 3) := by decide +kernel
theorem dX8_loosePiles_31 : decode cX8_loosePiles 31 = .ok (.iload_n 1, 1) := by decide +kernel
theorem dX8_loosePiles_32 : decode cX8_loosePiles 32 = .ok (.ireturn, 1) := by decide +kernel
theorem dX8_count_0 : decode cX8_count 0 = .ok (.iload_n 1, 1) := by decide +kernel
theorem dX8_count_1 : decode cX8_count 1 = .ok (.tableswitch 189 0 24 #[115, 123, 132, 138, 147, 153, 159, 189, 189, 189, 189, 189, 189, 189, 189, 189, 189, 189, 189, 189, 165, 165, 175, 175, 175], 115) := by decide +kernel
theorem dX8_count_116 : decode cX8_count 116 = .ok (.aload_n 0, 1) := by decide +kernel
theorem dX8_count_117 : decode cX8_count 117 = .ok (.getfield 7, 3) := by decide +kernel
theorem dX8_count_120 : decode cX8_count 120 = .ok (.iconst 0, 1) := by decide +kernel
theorem dX8_count_121 : decode cX8_count 121 = .ok (.iaload, 1) := by decide +kernel
theorem dX8_count_122 : decode cX8_count 122 = .ok (.i2l, 1) := by decide +kernel
theorem dX8_count_123 : decode cX8_count 123 = .ok (.lreturn, 1) := by decide +kernel
theorem dX8_count_124 : decode cX8_count 124 = .ok (.aload_n 0, 1) := by decide +kernel
theorem dX8_count_125 : decode cX8_count 125 = .ok (.getfield 7, 3) := by decide +kernel
theorem dX8_count_128 : decode cX8_count 128 = .ok (.bipush 19, 2) := by decide +kernel
theorem dX8_count_130 : decode cX8_count 130 = .ok (.iaload, 1) := by decide +kernel
theorem dX8_count_131 : decode cX8_count 131 = .ok (.i2l, 1) := by decide +kernel
theorem dX8_count_132 : decode cX8_count 132 = .ok (.lreturn, 1) := by decide +kernel
theorem dX8_count_133 : decode cX8_count 133 = .ok (.aload_n 0, 1) := by decide +kernel
theorem dX8_count_134 : decode cX8_count 134 = .ok (.invokevirtual 77, 3) := by decide +kernel
theorem dX8_count_137 : decode cX8_count 137 = .ok (.i2l, 1) := by decide +kernel
theorem dX8_count_138 : decode cX8_count 138 = .ok (.lreturn, 1) := by decide +kernel
theorem dX8_count_139 : decode cX8_count 139 = .ok (.aload_n 0, 1) := by decide +kernel
theorem dX8_count_140 : decode cX8_count 140 = .ok (.getfield 7, 3) := by decide +kernel
theorem dX8_count_143 : decode cX8_count 143 = .ok (.bipush 20, 2) := by decide +kernel
theorem dX8_count_145 : decode cX8_count 145 = .ok (.iaload, 1) := by decide +kernel
theorem dX8_count_146 : decode cX8_count 146 = .ok (.i2l, 1) := by decide +kernel
theorem dX8_count_147 : decode cX8_count 147 = .ok (.lreturn, 1) := by decide +kernel
theorem dX8_count_148 : decode cX8_count 148 = .ok (.aload_n 0, 1) := by decide +kernel
theorem dX8_count_149 : decode cX8_count 149 = .ok (.getfield 47, 3) := by decide +kernel
theorem dX8_count_152 : decode cX8_count 152 = .ok (.i2l, 1) := by decide +kernel
theorem dX8_count_153 : decode cX8_count 153 = .ok (.lreturn, 1) := by decide +kernel
theorem dX8_count_154 : decode cX8_count 154 = .ok (.aload_n 0, 1) := by decide +kernel
theorem dX8_count_155 : decode cX8_count 155 = .ok (.getfield 81, 3) := by decide +kernel
theorem dX8_count_158 : decode cX8_count 158 = .ok (.i2l, 1) := by decide +kernel
theorem dX8_count_159 : decode cX8_count 159 = .ok (.lreturn, 1) := by decide +kernel
theorem dX8_count_160 : decode cX8_count 160 = .ok (.aload_n 0, 1) := by decide +kernel
theorem dX8_count_161 : decode cX8_count 161 = .ok (.invokevirtual 84, 3) := by decide +kernel
theorem dX8_count_164 : decode cX8_count 164 = .ok (.i2l, 1) := by decide +kernel
theorem dX8_count_165 : decode cX8_count 165 = .ok (.lreturn, 1) := by decide +kernel
theorem dX8_count_166 : decode cX8_count 166 = .ok (.aload_n 0, 1) := by decide +kernel
theorem dX8_count_167 : decode cX8_count 167 = .ok (.getfield 16, 3) := by decide +kernel
theorem dX8_count_170 : decode cX8_count 170 = .ok (.iload_n 1, 1) := by decide +kernel
theorem dX8_count_171 : decode cX8_count 171 = .ok (.bipush 20, 2) := by decide +kernel
theorem dX8_count_173 : decode cX8_count 173 = .ok (.isub, 1) := by decide +kernel
theorem dX8_count_174 : decode cX8_count 174 = .ok (.laload, 1) := by decide +kernel
theorem dX8_count_175 : decode cX8_count 175 = .ok (.lreturn, 1) := by decide +kernel
theorem dX8_count_176 : decode cX8_count 176 = .ok (.aload_n 0, 1) := by decide +kernel
theorem dX8_count_177 : decode cX8_count 177 = .ok (.getfield 7, 3) := by decide +kernel
theorem dX8_count_180 : decode cX8_count 180 = .ok (.bipush 21, 2) := by decide +kernel
theorem dX8_count_182 : decode cX8_count 182 = .ok (.iload_n 1, 1) := by decide +kernel
theorem dX8_count_183 : decode cX8_count 183 = .ok (.iadd, 1) := by decide +kernel
theorem dX8_count_184 : decode cX8_count 184 = .ok (.bipush 22, 2) := by decide +kernel
theorem dX8_count_186 : decode cX8_count 186 = .ok (.isub, 1) := by decide +kernel
theorem dX8_count_187 : decode cX8_count 187 = .ok (.iaload, 1) := by decide +kernel
theorem dX8_count_188 : decode cX8_count 188 = .ok (.i2l, 1) := by decide +kernel
theorem dX8_count_189 : decode cX8_count 189 = .ok (.lreturn, 1) := by decide +kernel
theorem dX8_count_190 : decode cX8_count 190 = .ok (.iload_n 1, 1) := by decide +kernel
theorem dX8_count_191 : decode cX8_count 191 = .ok (.bipush 10, 2) := by decide +kernel
theorem dX8_count_193 : decode cX8_count 193 = .ok (.bipush 15, 2) := by decide +kernel
theorem dX8_count_195 : decode cX8_count 195 = .ok (.invokestatic 51, 3) := by decide +kernel
theorem dX8_count_198 : decode cX8_count 198 = .ok (.ifCond .eq 19, 3) := by decide +kernel
theorem dX8_count_201 : decode cX8_count 201 = .ok (.aload_n 0, 1) := by decide +kernel
theorem dX8_count_202 : decode cX8_count 202 = .ok (.getfield 7, 3) := by decide +kernel
theorem dX8_count_205 : decode cX8_count 205 = .ok (.bipush 13, 2) := by decide +kernel
theorem dX8_count_207 : decode cX8_count 207 = .ok (.iload_n 1, 1) := by decide +kernel
theorem dX8_count_208 : decode cX8_count 208 = .ok (.iadd, 1) := by decide +kernel
theorem dX8_count_209 : decode cX8_count 209 = .ok (.bipush 10, 2) := by decide +kernel
theorem dX8_count_211 : decode cX8_count 211 = .ok (.isub, 1) := by decide +kernel
theorem dX8_count_212 : decode cX8_count 212 = .ok (.iaload, 1) := by decide +kernel
theorem dX8_count_213 : decode cX8_count 213 = .ok (.i2l, 1) := by decide +kernel
theorem dX8_count_214 : decode cX8_count 214 = .ok (.goto 6, 3) := by decide +kernel
theorem dX8_count_217 : decode cX8_count 217 = .ok (.ldc2_w 87, 3) := by decide +kernel
theorem dX8_count_220 : decode cX8_count 220 = .ok (.lreturn, 1) := by decide +kernel
theorem dX8_of_0 : decode cX8_of 0 = .ok (.aload_n 0, 1) := by decide +kernel
theorem dX8_of_1 : decode cX8_of 1 = .ok (.getfield 7, 3) := by decide +kernel
theorem dX8_of_4 : decode cX8_of 4 = .ok (.bipush 24, 2) := by decide +kernel
theorem dX8_of_6 : decode cX8_of 6 = .ok (.bipush 91, 2) := by decide +kernel
theorem dX8_of_8 : decode cX8_of 8 = .ok (.iload_n 1, 1) := by decide +kernel
theorem dX8_of_9 : decode cX8_of 9 = .ok (.imul, 1) := by decide +kernel
theorem dX8_of_10 : decode cX8_of 10 = .ok (.iadd, 1) := by decide +kernel
theorem dX8_of_11 : decode cX8_of 11 = .ok (.iload_n 2, 1) := by decide +kernel
theorem dX8_of_12 : decode cX8_of 12 = .ok (.iadd, 1) := by decide +kernel
theorem dX8_of_13 : decode cX8_of 13 = .ok (.iaload, 1) := by decide +kernel
theorem dX8_of_14 : decode cX8_of 14 = .ok (.ireturn, 1) := by decide +kernel
theorem dX8_put_0 : decode cX8_put 0 = .ok (.aload_n 0, 1) := by decide +kernel
theorem dX8_put_1 : decode cX8_put 1 = .ok (.getfield 7, 3) := by decide +kernel
theorem dX8_put_4 : decode cX8_put 4 = .ok (.bipush 24, 2) := by decide +kernel
theorem dX8_put_6 : decode cX8_put 6 = .ok (.bipush 91, 2) := by decide +kernel
theorem dX8_put_8 : decode cX8_put 8 = .ok (.iload_n 1, 1) := by decide +kernel
theorem dX8_put_9 : decode cX8_put 9 = .ok (.imul, 1) := by decide +kernel
theorem dX8_put_10 : decode cX8_put 10 = .ok (.iadd, 1) := by decide +kernel
theorem dX8_put_11 : decode cX8_put 11 = .ok (.iload_n 2, 1) := by decide +kernel
theorem dX8_put_12 : decode cX8_put 12 = .ok (.iadd, 1) := by decide +kernel
theorem dX8_put_13 : decode cX8_put 13 = .ok (.iload_n 3, 1) := by decide +kernel
theorem dX8_put_14 : decode cX8_put 14 = .ok (.iastore, 1) := by decide +kernel
theorem dX8_put_15 : decode cX8_put 15 = .ok (.return_, 1) := by decide +kernel
theorem dX8_isPile_0 : decode cX8_isPile 0 = .ok (.iload_n 1, 1) := by decide +kernel
theorem dX8_isPile_1 : decode cX8_isPile 1 = .ok (.iconst 0, 1) := by decide +kernel
theorem dX8_isPile_2 : decode cX8_isPile 2 = .ok (.aload_n 0, 1) := by decide +kernel
theorem dX8_isPile_3 : decode cX8_isPile 3 = .ok (.getfield 7, 3) := by decide +kernel
theorem dX8_isPile_6 : decode cX8_isPile 6 = .ok (.bipush 19, 2) := by decide +kernel
theorem dX8_isPile_8 : decode cX8_isPile 8 = .ok (.iaload, 1) := by decide +kernel
theorem dX8_isPile_9 : decode cX8_isPile 9 = .ok (.iconst 1, 1) := by decide +kernel
theorem dX8_isPile_10 : decode cX8_isPile 10 = .ok (.isub, 1) := by decide +kernel
theorem dX8_isPile_11 : decode cX8_isPile 11 = .ok (.invokestatic 51, 3) := by decide +kernel
theorem dX8_isPile_14 : decode cX8_isPile 14 = .ok (.ireturn, 1) := by decide +kernel
theorem dX8_isFall_0 : decode cX8_isFall 0 = .ok (.iload_n 0, 1) := by decide +kernel
theorem dX8_isFall_1 : decode cX8_isFall 1 = .ok (.bipush 100, 2) := by decide +kernel
theorem dX8_isFall_3 : decode cX8_isFall 3 = .ok (.sipush 3000, 3) := by decide +kernel
theorem dX8_isFall_6 : decode cX8_isFall 6 = .ok (.invokestatic 51, 3) := by decide +kernel
theorem dX8_isFall_9 : decode cX8_isFall 9 = .ok (.ireturn, 1) := by decide +kernel
theorem dX8_stands_0 : decode cX8_stands 0 = .ok (.iconst 0, 1) := by decide +kernel
theorem dX8_stands_1 : decode cX8_stands 1 = .ok (.istore_n 3, 1) := by decide +kernel
theorem dX8_stands_2 : decode cX8_stands 2 = .ok (.iconst 0, 1) := by decide +kernel
theorem dX8_stands_3 : decode cX8_stands 3 = .ok (.istore 4, 2) := by decide +kernel
theorem dX8_stands_5 : decode cX8_stands 5 = .ok (.iload 4, 2) := by decide +kernel
theorem dX8_stands_7 : decode cX8_stands 7 = .ok (.aload_n 0, 1) := by decide +kernel
theorem dX8_stands_8 : decode cX8_stands 8 = .ok (.getfield 7, 3) := by decide +kernel
theorem dX8_stands_11 : decode cX8_stands 11 = .ok (.bipush 19, 2) := by decide +kernel
theorem dX8_stands_13 : decode cX8_stands 13 = .ok (.iaload, 1) := by decide +kernel
theorem dX8_stands_14 : decode cX8_stands 14 = .ok (.if_icmp .ge 41, 3) := by decide +kernel
theorem dX8_stands_17 : decode cX8_stands 17 = .ok (.iload_n 3, 1) := by decide +kernel
theorem dX8_stands_18 : decode cX8_stands 18 = .ok (.ifCond .ne 25, 3) := by decide +kernel
theorem dX8_stands_21 : decode cX8_stands 21 = .ok (.aload_n 0, 1) := by decide +kernel
theorem dX8_stands_22 : decode cX8_stands 22 = .ok (.iload 4, 2) := by decide +kernel
theorem dX8_stands_24 : decode cX8_stands 24 = .ok (.iconst 0, 1) := by decide +kernel
theorem dX8_stands_25 : decode cX8_stands 25 = .ok (.invokevirtual 62, 3) := by decide +kernel
theorem dX8_stands_28 : decode cX8_stands 28 = .ok (.iload_n 1, 1) := by decide +kernel
theorem dX8_stands_29 : decode cX8_stands 29 = .ok (.if_icmp .ne 18, 3) := by decide +kernel
theorem dX8_stands_32 : decode cX8_stands 32 = .ok (.aload_n 0, 1) := by decide +kernel
theorem dX8_stands_33 : decode cX8_stands 33 = .ok (.iload 4, 2) := by decide +kernel
theorem dX8_stands_35 : decode cX8_stands 35 = .ok (.iconst 1, 1) := by decide +kernel
theorem dX8_stands_36 : decode cX8_stands 36 = .ok (.invokevirtual 62, 3) := by decide +kernel
theorem dX8_stands_39 : decode cX8_stands 39 = .ok (.iload_n 2, 1) := by decide +kernel
theorem dX8_stands_40 : decode cX8_stands 40 = .ok (.if_icmp .ne 7, 3) := by decide +kernel
theorem dX8_stands_43 : decode cX8_stands 43 = .ok (.iconst 1, 1) := by decide +kernel
theorem dX8_stands_44 : decode cX8_stands 44 = .ok (.goto 4, 3) := by decide +kernel
theorem dX8_stands_47 : decode cX8_stands 47 = .ok (.iconst 0, 1) := by decide +kernel
theorem dX8_stands_48 : decode cX8_stands 48 = .ok (.istore_n 3, 1) := by decide +kernel
theorem dX8_stands_49 : decode cX8_stands 49 = .ok (.iinc 4 1, 3) := by decide +kernel
theorem dX8_stands_52 : decode cX8_stands 52 = .ok (.goto (-47), 3) := by decide +kernel
theorem dX8_stands_55 : decode cX8_stands 55 = .ok (.iload_n 3, 1) := by decide +kernel
theorem dX8_stands_56 : decode cX8_stands 56 = .ok (.ireturn, 1) := by decide +kernel
theorem dX8_pile_0 : decode cX8_pile 0 = .ok (.iload_n 1, 1) := by decide +kernel
theorem dX8_pile_1 : decode cX8_pile 1 = .ok (.iconst 0, 1) := by decide +kernel
theorem dX8_pile_2 : decode cX8_pile 2 = .ok (.sipush 20000, 3) := by decide +kernel
theorem dX8_pile_5 : decode cX8_pile 5 = .ok (.invokestatic 51, 3) := by decide +kernel
theorem dX8_pile_8 : decode cX8_pile 8 = .ok (.ifCond .eq 26, 3) := by decide +kernel
theorem dX8_pile_11 : decode cX8_pile 11 = .ok (.iload_n 2, 1) := by decide +kernel
theorem dX8_pile_12 : decode cX8_pile 12 = .ok (.iconst 0, 1) := by decide +kernel
theorem dX8_pile_13 : decode cX8_pile 13 = .ok (.sipush 20000, 3) := by decide +kernel
theorem dX8_pile_16 : decode cX8_pile 16 = .ok (.invokestatic 51, 3) := by decide +kernel
theorem dX8_pile_19 : decode cX8_pile 19 = .ok (.ifCond .eq 15, 3) := by decide +kernel
theorem dX8_pile_22 : decode cX8_pile 22 = .ok (.iload_n 3, 1) := by decide +kernel
theorem dX8_pile_23 : decode cX8_pile 23 = .ok (.sipush 1000, 3) := by decide +kernel
theorem dX8_pile_26 : decode cX8_pile 26 = .ok (.ldc 89, 2) := by decide +kernel
theorem dX8_pile_28 : decode cX8_pile 28 = .ok (.invokestatic 51, 3) := by decide +kernel
theorem dX8_pile_31 : decode cX8_pile 31 = .ok (.ifCond .ne 5, 3) := by decide +kernel
theorem dX8_pile_34 : decode cX8_pile 34 = .ok (.iconst (-1), 1) := by decide +kernel
theorem dX8_pile_35 : decode cX8_pile 35 = .ok (.ireturn, 1) := by decide +kernel
theorem dX8_pile_36 : decode cX8_pile 36 = .ok (.aload_n 0, 1) := by decide +kernel
theorem dX8_pile_37 : decode cX8_pile 37 = .ok (.iload_n 1, 1) := by decide +kernel
theorem dX8_pile_38 : decode cX8_pile 38 = .ok (.iload_n 2, 1) := by decide +kernel
theorem dX8_pile_39 : decode cX8_pile 39 = .ok (.invokevirtual 90, 3) := by decide +kernel
theorem dX8_pile_42 : decode cX8_pile 42 = .ok (.ifCond .eq 6, 3) := by decide +kernel
theorem dX8_pile_45 : decode cX8_pile 45 = .ok (.bipush (-2), 2) := by decide +kernel
theorem dX8_pile_47 : decode cX8_pile 47 = .ok (.ireturn, 1) := by decide +kernel
theorem dX8_pile_48 : decode cX8_pile 48 = .ok (.aload_n 0, 1) := by decide +kernel
theorem dX8_pile_49 : decode cX8_pile 49 = .ok (.getfield 7, 3) := by decide +kernel
theorem dX8_pile_52 : decode cX8_pile 52 = .ok (.bipush 19, 2) := by decide +kernel
theorem dX8_pile_54 : decode cX8_pile 54 = .ok (.iaload, 1) := by decide +kernel
theorem dX8_pile_55 : decode cX8_pile 55 = .ok (.bipush 10, 2) := by decide +kernel
theorem dX8_pile_57 : decode cX8_pile 57 = .ok (.if_icmp .ne 6, 3) := by decide +kernel
theorem dX8_pile_60 : decode cX8_pile 60 = .ok (.bipush (-3), 2) := by decide +kernel
theorem dX8_pile_62 : decode cX8_pile 62 = .ok (.ireturn, 1) := by decide +kernel
theorem dX8_pile_63 : decode cX8_pile 63 = .ok (.aload_n 0, 1) := by decide +kernel
theorem dX8_pile_64 : decode cX8_pile 64 = .ok (.invokevirtual 55, 3) := by decide +kernel
theorem dX8_pile_67 : decode cX8_pile 67 = .ok (.aload_n 0, 1) := by decide +kernel
theorem dX8_pile_68 : decode cX8_pile 68 = .ok (.getfield 7, 3) := by decide +kernel
theorem dX8_pile_71 : decode cX8_pile 71 = .ok (.bipush 19, 2) := by decide +kernel
theorem dX8_pile_73 : decode cX8_pile 73 = .ok (.iaload, 1) := by decide +kernel
theorem dX8_pile_74 : decode cX8_pile 74 = .ok (.istore 4, 2) := by decide +kernel
theorem dX8_pile_76 : decode cX8_pile 76 = .ok (.iconst 0, 1) := by decide +kernel
theorem dX8_pile_77 : decode cX8_pile 77 = .ok (.istore 5, 2) := by decide +kernel
theorem dX8_pile_79 : decode cX8_pile 79 = .ok (.iload 5, 2) := by decide +kernel
theorem dX8_pile_81 : decode cX8_pile 81 = .ok (.bipush 91, 2) := by decide +kernel
theorem dX8_pile_83 : decode cX8_pile 83 = .ok (.if_icmp .ge 18, 3) := by decide +kernel
theorem dX8_pile_86 : decode cX8_pile 86 = .ok (.aload_n 0, 1) := by decide +kernel
theorem dX8_pile_87 : decode cX8_pile 87 = .ok (.iload 4, 2) := by decide +kernel
theorem dX8_pile_89 : decode cX8_pile 89 = .ok (.iload 5, 2) := by decide +kernel
theorem dX8_pile_91 : decode cX8_pile 91 = .ok (.iconst 0, 1) := by decide +kernel
theorem dX8_pile_92 : decode cX8_pile 92 = .ok (.invokevirtual 93, 3) := by decide +kernel
theorem dX8_pile_95 : decode cX8_pile 95 = .ok (.iinc 5 1, 3) := by decide +kernel
theorem dX8_pile_98 : decode cX8_pile 98 = .ok (.goto (-19), 3) := by decide +kernel
theorem dX8_pile_101 : decode cX8_pile 101 = .ok (.aload_n 0, 1) := by decide +kernel
theorem dX8_pile_102 : decode cX8_pile 102 = .ok (.iload 4, 2) := by decide +kernel
theorem dX8_pile_104 : decode cX8_pile 104 = .ok (.iconst 0, 1) := by decide +kernel
theorem dX8_pile_105 : decode cX8_pile 105 = .ok (.iload_n 1, 1) := by decide +kernel
theorem dX8_pile_106 : decode cX8_pile 106 = .ok (.invokevirtual 93, 3) := by decide +kernel
theorem dX8_pile_109 : decode cX8_pile 109 = .ok (.aload_n 0, 1) := by decide +kernel
theorem dX8_pile_110 : decode cX8_pile 110 = .ok (.iload 4, 2) := by decide +kernel
theorem dX8_pile_112 : decode cX8_pile 112 = .ok (.iconst 1, 1) := by decide +kernel
theorem dX8_pile_113 : decode cX8_pile 113 = .ok (.iload_n 2, 1) := by decide +kernel
theorem dX8_pile_114 : decode cX8_pile 114 = .ok (.invokevirtual 93, 3) := by decide +kernel
theorem dX8_pile_117 : decode cX8_pile 117 = .ok (.aload_n 0, 1) := by decide +kernel
theorem dX8_pile_118 : decode cX8_pile 118 = .ok (.iload 4, 2) := by decide +kernel
theorem dX8_pile_120 : decode cX8_pile 120 = .ok (.iconst 2, 1) := by decide +kernel
theorem dX8_pile_121 : decode cX8_pile 121 = .ok (.iload_n 3, 1) := by decide +kernel
theorem dX8_pile_122 : decode cX8_pile 122 = .ok (.invokevirtual 93, 3) := by decide +kernel
theorem dX8_pile_125 : decode cX8_pile 125 = .ok (.aload_n 0, 1) := by decide +kernel
theorem dX8_pile_126 : decode cX8_pile 126 = .ok (.getfield 7, 3) := by decide +kernel
theorem dX8_pile_129 : decode cX8_pile 129 = .ok (.bipush 19, 2) := by decide +kernel
theorem dX8_pile_131 : decode cX8_pile 131 = .ok (.dup2, 1) := by decide +kernel
theorem dX8_pile_132 : decode cX8_pile 132 = .ok (.iaload, 1) := by decide +kernel
theorem dX8_pile_133 : decode cX8_pile 133 = .ok (.iconst 1, 1) := by decide +kernel
theorem dX8_pile_134 : decode cX8_pile 134 = .ok (.iadd, 1) := by decide +kernel
theorem dX8_pile_135 : decode cX8_pile 135 = .ok (.iastore, 1) := by decide +kernel
theorem dX8_pile_136 : decode cX8_pile 136 = .ok (.iload 4, 2) := by decide +kernel
theorem dX8_pile_138 : decode cX8_pile 138 = .ok (.ireturn, 1) := by decide +kernel
theorem dX8_apart_0 : decode cX8_apart 0 = .ok (.iload_n 0, 1) := by decide +kernel
theorem dX8_apart_1 : decode cX8_apart 1 = .ok (.iload_n 1, 1) := by decide +kernel
theorem dX8_apart_2 : decode cX8_apart 2 = .ok (.if_icmp .ge 9, 3) := by decide +kernel
theorem dX8_apart_5 : decode cX8_apart 5 = .ok (.iload_n 1, 1) := by decide +kernel
theorem dX8_apart_6 : decode cX8_apart 6 = .ok (.iload_n 0, 1) := by decide +kernel
theorem dX8_apart_7 : decode cX8_apart 7 = .ok (.isub, 1) := by decide +kernel
theorem dX8_apart_8 : decode cX8_apart 8 = .ok (.goto 6, 3) := by decide +kernel
theorem dX8_apart_11 : decode cX8_apart 11 = .ok (.iload_n 0, 1) := by decide +kernel
theorem dX8_apart_12 : decode cX8_apart 12 = .ok (.iload_n 1, 1) := by decide +kernel
theorem dX8_apart_13 : decode cX8_apart 13 = .ok (.isub, 1) := by decide +kernel
theorem dX8_apart_14 : decode cX8_apart 14 = .ok (.ireturn, 1) := by decide +kernel
theorem dX8_areNear_0 : decode cX8_areNear 0 = .ok (.aload_n 0, 1) := by decide +kernel
theorem dX8_areNear_1 : decode cX8_areNear 1 = .ok (.getfield 7, 3) := by decide +kernel
theorem dX8_areNear_4 : decode cX8_areNear 4 = .ok (.bipush 17, 2) := by decide +kernel
theorem dX8_areNear_6 : decode cX8_areNear 6 = .ok (.iaload, 1) := by decide +kernel
theorem dX8_areNear_7 : decode cX8_areNear 7 = .ok (.istore_n 3, 1) := by decide +kernel
theorem dX8_areNear_8 : decode cX8_areNear 8 = .ok (.iload_n 1, 1) := by decide +kernel
theorem dX8_areNear_9 : decode cX8_areNear 9 = .ok (.iload_n 2, 1) := by decide +kernel
theorem dX8_areNear_10 : decode cX8_areNear 10 = .ok (.if_icmp .eq 45, 3) := by decide +kernel
theorem dX8_areNear_13 : decode cX8_areNear 13 = .ok (.aload_n 0, 1) := by decide +kernel
theorem dX8_areNear_14 : decode cX8_areNear 14 = .ok (.iload_n 1, 1) := by decide +kernel
theorem dX8_areNear_15 : decode cX8_areNear 15 = .ok (.iconst 0, 1) := by decide +kernel
theorem dX8_areNear_16 : decode cX8_areNear 16 = .ok (.invokevirtual 62, 3) := by decide +kernel
theorem dX8_areNear_19 : decode cX8_areNear 19 = .ok (.aload_n 0, 1) := by decide +kernel
theorem dX8_areNear_20 : decode cX8_areNear 20 = .ok (.iload_n 2, 1) := by decide +kernel
theorem dX8_areNear_21 : decode cX8_areNear 21 = .ok (.iconst 0, 1) := by decide +kernel
theorem dX8_areNear_22 : decode cX8_areNear 22 = .ok (.invokevirtual 62, 3) := by decide +kernel
theorem dX8_areNear_25 : decode cX8_areNear 25 = .ok (.invokestatic 97, 3) := by decide +kernel
theorem dX8_areNear_28 : decode cX8_areNear 28 = .ok (.iload_n 3, 1) := by decide +kernel
theorem dX8_areNear_29 : decode cX8_areNear 29 = .ok (.if_icmp .gt 26, 3) := by decide +kernel
theorem dX8_areNear_32 : decode cX8_areNear 32 = .ok (.aload_n 0, 1) := by decide +kernel
theorem dX8_areNear_33 : decode cX8_areNear 33 = .ok (.iload_n 1, 1) := by decide +kernel
theorem dX8_areNear_34 : decode cX8_areNear 34 = .ok (.iconst 1, 1) := by decide +kernel
theorem dX8_areNear_35 : decode cX8_areNear 35 = .ok (.invokevirtual 62, 3) := by decide +kernel
theorem dX8_areNear_38 : decode cX8_areNear 38 = .ok (.aload_n 0, 1) := by decide +kernel
theorem dX8_areNear_39 : decode cX8_areNear 39 = .ok (.iload_n 2, 1) := by decide +kernel
theorem dX8_areNear_40 : decode cX8_areNear 40 = .ok (.iconst 1, 1) := by decide +kernel
theorem dX8_areNear_41 : decode cX8_areNear 41 = .ok (.invokevirtual 62, 3) := by decide +kernel
theorem dX8_areNear_44 : decode cX8_areNear 44 = .ok (.invokestatic 97, 3) := by decide +kernel
theorem dX8_areNear_47 : decode cX8_areNear 47 = .ok (.iload_n 3, 1) := by decide +kernel
theorem dX8_areNear_48 : decode cX8_areNear 48 = .ok (.if_icmp .gt 7, 3) := by decide +kernel
theorem dX8_areNear_51 : decode cX8_areNear 51 = .ok (.iconst 1, 1) := by decide +kernel
theorem dX8_areNear_52 : decode cX8_areNear 52 = .ok (.goto 4, 3) := by decide +kernel
theorem dX8_areNear_55 : decode cX8_areNear 55 = .ok (.iconst 0, 1) := by decide +kernel
theorem dX8_areNear_56 : decode cX8_areNear 56 = .ok (.ireturn, 1) := by decide +kernel
theorem dX8_near_0 : decode cX8_near 0 = .ok (.iconst 0, 1) := by decide +kernel
theorem dX8_near_1 : decode cX8_near 1 = .ok (.istore_n 2, 1) := by decide +kernel
theorem dX8_near_2 : decode cX8_near 2 = .ok (.iconst 0, 1) := by decide +kernel
theorem dX8_near_3 : decode cX8_near 3 = .ok (.istore_n 3, 1) := by decide +kernel
theorem dX8_near_4 : decode cX8_near 4 = .ok (.iload_n 3, 1) := by decide +kernel
theorem dX8_near_5 : decode cX8_near 5 = .ok (.aload_n 0, 1) := by decide +kernel
theorem dX8_near_6 : decode cX8_near 6 = .ok (.getfield 7, 3) := by decide +kernel
theorem dX8_near_9 : decode cX8_near 9 = .ok (.bipush 19, 2) := by decide +kernel
theorem dX8_near_11 : decode cX8_near 11 = .ok (.iaload, 1) := by decide +kernel
theorem dX8_near_12 : decode cX8_near 12 = .ok (.if_icmp .ge 26, 3) := by decide +kernel
theorem dX8_near_15 : decode cX8_near 15 = .ok (.iload_n 2, 1) := by decide +kernel
theorem dX8_near_16 : decode cX8_near 16 = .ok (.aload_n 0, 1) := by decide +kernel
theorem dX8_near_17 : decode cX8_near 17 = .ok (.iload_n 1, 1) := by decide +kernel
theorem dX8_near_18 : decode cX8_near 18 = .ok (.iload_n 3, 1) := by decide +kernel
theorem dX8_near_19 : decode cX8_near 19 = .ok (.invokevirtual 100, 3) := by decide +kernel
theorem dX8_near_22 : decode cX8_near 22 = .ok (.ifCond .eq 7, 3) := by decide +kernel
theorem dX8_near_25 : decode cX8_near 25 = .ok (.iconst 1, 1) := by decide +kernel
theorem dX8_near_26 : decode cX8_near 26 = .ok (.goto 4, 3) := by decide +kernel
theorem dX8_near_29 : decode cX8_near 29 = .ok (.iconst 0, 1) := by decide +kernel
theorem dX8_near_30 : decode cX8_near 30 = .ok (.iadd, 1) := by decide +kernel
theorem dX8_near_31 : decode cX8_near 31 = .ok (.istore_n 2, 1) := by decide +kernel
theorem dX8_near_32 : decode cX8_near 32 = .ok (.iinc 3 1, 3) := by decide +kernel
theorem dX8_near_35 : decode cX8_near 35 = .ok (.goto (-31), 3) := by decide +kernel
theorem dX8_near_38 : decode cX8_near 38 = .ok (.iload_n 2, 1) := by decide +kernel
theorem dX8_near_39 : decode cX8_near 39 = .ok (.ireturn, 1) := by decide +kernel
theorem dX8_allowed_0 : decode cX8_allowed 0 = .ok (.aload_n 0, 1) := by decide +kernel
theorem dX8_allowed_1 : decode cX8_allowed 1 = .ok (.iload_n 1, 1) := by decide +kernel
theorem dX8_allowed_2 : decode cX8_allowed 2 = .ok (.iconst 5, 1) := by decide +kernel
theorem dX8_allowed_3 : decode cX8_allowed 3 = .ok (.invokevirtual 62, 3) := by decide +kernel
theorem dX8_allowed_6 : decode cX8_allowed 6 = .ok (.bipush 100, 2) := by decide +kernel
theorem dX8_allowed_8 : decode cX8_allowed 8 = .ok (.imul, 1) := by decide +kernel
theorem dX8_allowed_9 : decode cX8_allowed 9 = .ok (.aload_n 0, 1) := by decide +kernel
theorem dX8_allowed_10 : decode cX8_allowed 10 = .ok (.getfield 7, 3) := by decide +kernel
theorem dX8_allowed_13 : decode cX8_allowed 13 = .ok (.bipush 16, 2) := by decide +kernel
theorem dX8_allowed_15 : decode cX8_allowed 15 = .ok (.iaload, 1) := by decide +kernel
theorem dX8_allowed_16 : decode cX8_allowed 16 = .ok (.idiv, 1) := by decide +kernel
theorem dX8_allowed_17 : decode cX8_allowed 17 = .ok (.istore_n 2, 1) := by decide +kernel
theorem dX8_allowed_18 : decode cX8_allowed 18 = .ok (.aload_n 0, 1) := by decide +kernel
theorem dX8_allowed_19 : decode cX8_allowed 19 = .ok (.iload_n 1, 1) := by decide +kernel
theorem dX8_allowed_20 : decode cX8_allowed 20 = .ok (.bipush 6, 2) := by decide +kernel
theorem dX8_allowed_22 : decode cX8_allowed 22 = .ok (.invokevirtual 62, 3) := by decide +kernel
theorem dX8_allowed_25 : decode cX8_allowed 25 = .ok (.iconst 1, 1) := by decide +kernel
theorem dX8_allowed_26 : decode cX8_allowed 26 = .ok (.if_icmp .ne 9, 3) := by decide +kernel
theorem dX8_allowed_29 : decode cX8_allowed 29 = .ok (.iload_n 2, 1) := by decide +kernel
theorem dX8_allowed_30 : decode cX8_allowed 30 = .ok (.iconst 2, 1) := by decide +kernel
theorem dX8_allowed_31 : decode cX8_allowed 31 = .ok (.idiv, 1) := by decide +kernel
theorem dX8_allowed_32 : decode cX8_allowed 32 = .ok (.goto 4, 3) := by decide +kernel
theorem dX8_allowed_35 : decode cX8_allowed 35 = .ok (.iload_n 2, 1) := by decide +kernel
theorem dX8_allowed_36 : decode cX8_allowed 36 = .ok (.ireturn, 1) := by decide +kernel
theorem dX8_pileOf_0 : decode cX8_pileOf 0 = .ok (.aload_n 0, 1) := by decide +kernel
theorem dX8_pileOf_1 : decode cX8_pileOf 1 = .ok (.iload_n 1, 1) := by decide +kernel
theorem dX8_pileOf_2 : decode cX8_pileOf 2 = .ok (.invokevirtual 103, 3) := by decide +kernel
theorem dX8_pileOf_5 : decode cX8_pileOf 5 = .ok (.ifCond .eq 13, 3) := by decide +kernel
theorem dX8_pileOf_8 : decode cX8_pileOf 8 = .ok (.iload_n 2, 1) := by decide +kernel
theorem dX8_pileOf_9 : decode cX8_pileOf 9 = .ok (.iconst 0, 1) := by decide +kernel
theorem dX8_pileOf_10 : decode cX8_pileOf 10 = .ok (.bipush 12, 2) := by decide +kernel
theorem dX8_pileOf_12 : decode cX8_pileOf 12 = .ok (.invokestatic 51, 3) := by decide +kernel
theorem dX8_pileOf_15 : decode cX8_pileOf 15 = .ok (.ifCond .ne 5, 3) := by decide +kernel
theorem dX8_pileOf_18 : decode cX8_pileOf 18 = .ok (.iconst (-1), 1) := by decide +kernel
theorem dX8_pileOf_19 : decode cX8_pileOf 19 = .ok (.ireturn, 1) := by decide +kernel
theorem dX8_pileOf_20 : decode cX8_pileOf 20 = .ok (.iload_n 2, 1) := by decide +kernel
theorem dX8_pileOf_21 : decode cX8_pileOf 21 = .ok (.tableswitch 123 5 12 #[47, 68, 88, 96, 96, 96, 109, 115], 47) := by decide +kernel
theorem dX8_pileOf_68 : decode cX8_pileOf 68 = .ok (.aload_n 0, 1) := by decide +kernel
theorem dX8_pileOf_69 : decode cX8_pileOf 69 = .ok (.iload_n 1, 1) := by decide +kernel
theorem dX8_pileOf_70 : decode cX8_pileOf 70 = .ok (.iconst 4, 1) := by decide +kernel
theorem dX8_pileOf_71 : decode cX8_pileOf 71 = .ok (.invokevirtual 62, 3) := by decide +kernel
theorem dX8_pileOf_74 : decode cX8_pileOf 74 = .ok (.ifCond .ne 8, 3) := by decide +kernel
theorem dX8_pileOf_77 : decode cX8_pileOf 77 = .ok (.bipush (-4), 2) := by decide +kernel
theorem dX8_pileOf_79 : decode cX8_pileOf 79 = .ok (.goto 9, 3) := by decide +kernel
theorem dX8_pileOf_82 : decode cX8_pileOf 82 = .ok (.aload_n 0, 1) := by decide +kernel
theorem dX8_pileOf_83 : decode cX8_pileOf 83 = .ok (.iload_n 1, 1) := by decide +kernel
theorem dX8_pileOf_84 : decode cX8_pileOf 84 = .ok (.iconst 5, 1) := by decide +kernel
theorem dX8_pileOf_85 : decode cX8_pileOf 85 = .ok (.invokevirtual 62, 3) := by decide +kernel
theorem dX8_pileOf_88 : decode cX8_pileOf 88 = .ok (.ireturn, 1) := by decide +kernel
theorem dX8_pileOf_89 : decode cX8_pileOf 89 = .ok (.aload_n 0, 1) := by decide +kernel
theorem dX8_pileOf_90 : decode cX8_pileOf 90 = .ok (.iload_n 1, 1) := by decide +kernel
theorem dX8_pileOf_91 : decode cX8_pileOf 91 = .ok (.iconst 4, 1) := by decide +kernel
theorem dX8_pileOf_92 : decode cX8_pileOf 92 = .ok (.invokevirtual 62, 3) := by decide +kernel
theorem dX8_pileOf_95 : decode cX8_pileOf 95 = .ok (.ifCond .ne 8, 3) := by decide +kernel
theorem dX8_pileOf_98 : decode cX8_pileOf 98 = .ok (.bipush (-4), 2) := by decide +kernel
theorem dX8_pileOf_100 : decode cX8_pileOf 100 = .ok (.goto 8, 3) := by decide +kernel
theorem dX8_pileOf_103 : decode cX8_pileOf 103 = .ok (.aload_n 0, 1) := by decide +kernel
theorem dX8_pileOf_104 : decode cX8_pileOf 104 = .ok (.iload_n 1, 1) := by decide +kernel
theorem dX8_pileOf_105 : decode cX8_pileOf 105 = .ok (.invokevirtual 107, 3) := by decide +kernel
theorem dX8_pileOf_108 : decode cX8_pileOf 108 = .ok (.ireturn, 1) := by decide +kernel
theorem dX8_pileOf_109 : decode cX8_pileOf 109 = .ok (.aload_n 0, 1) := by decide +kernel
theorem dX8_pileOf_110 : decode cX8_pileOf 110 = .ok (.iload_n 1, 1) := by decide +kernel
theorem dX8_pileOf_111 : decode cX8_pileOf 111 = .ok (.bipush 6, 2) := by decide +kernel
theorem dX8_pileOf_113 : decode cX8_pileOf 113 = .ok (.invokevirtual 62, 3) := by decide +kernel
theorem dX8_pileOf_116 : decode cX8_pileOf 116 = .ok (.ireturn, 1) := by decide +kernel
theorem dX8_pileOf_117 : decode cX8_pileOf 117 = .ok (.aload_n 0, 1) := by decide +kernel
theorem dX8_pileOf_118 : decode cX8_pileOf 118 = .ok (.iload_n 1, 1) := by decide +kernel
theorem dX8_pileOf_119 : decode cX8_pileOf 119 = .ok (.bipush 7, 2) := by decide +kernel
theorem dX8_pileOf_121 : decode cX8_pileOf 121 = .ok (.iload_n 2, 1) := by decide +kernel
theorem dX8_pileOf_122 : decode cX8_pileOf 122 = .ok (.iadd, 1) := by decide +kernel
theorem dX8_pileOf_123 : decode cX8_pileOf 123 = .ok (.bipush 8, 2) := by decide +kernel
theorem dX8_pileOf_125 : decode cX8_pileOf 125 = .ok (.isub, 1) := by decide +kernel
theorem dX8_pileOf_126 : decode cX8_pileOf 126 = .ok (.invokevirtual 62, 3) := by decide +kernel
theorem dX8_pileOf_129 : decode cX8_pileOf 129 = .ok (.ireturn, 1) := by decide +kernel
theorem dX8_pileOf_130 : decode cX8_pileOf 130 = .ok (.aload_n 0, 1) := by decide +kernel
theorem dX8_pileOf_131 : decode cX8_pileOf 131 = .ok (.iload_n 1, 1) := by decide +kernel
theorem dX8_pileOf_132 : decode cX8_pileOf 132 = .ok (.invokevirtual 110, 3) := by decide +kernel
theorem dX8_pileOf_135 : decode cX8_pileOf 135 = .ok (.ireturn, 1) := by decide +kernel
theorem dX8_pileOf_136 : decode cX8_pileOf 136 = .ok (.aload_n 0, 1) := by decide +kernel
theorem dX8_pileOf_137 : decode cX8_pileOf 137 = .ok (.iload_n 1, 1) := by decide +kernel
theorem dX8_pileOf_138 : decode cX8_pileOf 138 = .ok (.bipush 10, 2) := by decide +kernel
theorem dX8_pileOf_140 : decode cX8_pileOf 140 = .ok (.invokevirtual 62, 3) := by decide +kernel
theorem dX8_pileOf_143 : decode cX8_pileOf 143 = .ok (.ireturn, 1) := by decide +kernel
theorem dX8_pileOf_144 : decode cX8_pileOf 144 = .ok (.aload_n 0, 1) := by decide +kernel
theorem dX8_pileOf_145 : decode cX8_pileOf 145 = .ok (.iload_n 1, 1) := by decide +kernel
theorem dX8_pileOf_146 : decode cX8_pileOf 146 = .ok (.iload_n 2, 1) := by decide +kernel
theorem dX8_pileOf_147 : decode cX8_pileOf 147 = .ok (.invokevirtual 62, 3) := by decide +kernel
theorem dX8_pileOf_150 : decode cX8_pileOf 150 = .ok (.ireturn, 1) := by decide +kernel
theorem dX8_blow_0 : decode cX8_blow 0 = .ok (.aload_n 0, 1) := by decide +kernel
theorem dX8_blow_1 : decode cX8_blow 1 = .ok (.iload_n 1, 1) := by decide +kernel
theorem dX8_blow_2 : decode cX8_blow 2 = .ok (.invokevirtual 103, 3) := by decide +kernel
theorem dX8_blow_5 : decode cX8_blow 5 = .ok (.ifCond .eq 16, 3) := by decide +kernel
theorem dX8_blow_8 : decode cX8_blow 8 = .ok (.iload_n 2, 1) := by decide +kernel
theorem dX8_blow_9 : decode cX8_blow 9 = .ok (.ifCond .lt 12, 3) := by decide +kernel
theorem dX8_blow_12 : decode cX8_blow 12 = .ok (.iload_n 3, 1) := by decide +kernel
theorem dX8_blow_13 : decode cX8_blow 13 = .ok (.iconst 0, 1) := by decide +kernel
theorem dX8_blow_14 : decode cX8_blow 14 = .ok (.iconst 1, 1) := by decide +kernel
theorem dX8_blow_15 : decode cX8_blow 15 = .ok (.invokestatic 51, 3) := by decide +kernel
theorem dX8_blow_18 : decode cX8_blow 18 = .ok (.ifCond .ne 5, 3) := by decide +kernel
theorem dX8_blow_21 : decode cX8_blow 21 = .ok (.iconst (-1), 1) := by decide +kernel
theorem dX8_blow_22 : decode cX8_blow 22 = .ok (.ireturn, 1) := by decide +kernel
theorem dX8_blow_23 : decode cX8_blow 23 = .ok (.aload_n 0, 1) := by decide +kernel
theorem dX8_blow_24 : decode cX8_blow 24 = .ok (.iload_n 1, 1) := by decide +kernel
theorem dX8_blow_25 : decode cX8_blow 25 = .ok (.bipush 10, 2) := by decide +kernel
theorem dX8_blow_27 : decode cX8_blow 27 = .ok (.invokevirtual 62, 3) := by decide +kernel
theorem dX8_blow_30 : decode cX8_blow 30 = .ok (.istore 4, 2) := by decide +kernel
theorem dX8_blow_32 : decode cX8_blow 32 = .ok (.iload_n 2, 1) := by decide +kernel
theorem dX8_blow_33 : decode cX8_blow 33 = .ok (.iload 4, 2) := by decide +kernel
theorem dX8_blow_35 : decode cX8_blow 35 = .ok (.if_icmp .lt 6, 3) := by decide +kernel
theorem dX8_blow_38 : decode cX8_blow 38 = .ok (.bipush (-4), 2) := by decide +kernel
theorem dX8_blow_40 : decode cX8_blow 40 = .ok (.ireturn, 1) := by decide +kernel
theorem dX8_blow_41 : decode cX8_blow 41 = .ok (.aload_n 0, 1) := by decide +kernel
theorem dX8_blow_42 : decode cX8_blow 42 = .ok (.iload_n 1, 1) := by decide +kernel
theorem dX8_blow_43 : decode cX8_blow 43 = .ok (.iload_n 3, 1) := by decide +kernel
theorem dX8_blow_44 : decode cX8_blow 44 = .ok (.ifCond .ne 8, 3) := by decide +kernel
theorem dX8_blow_47 : decode cX8_blow 47 = .ok (.bipush 11, 2) := by decide +kernel
theorem dX8_blow_49 : decode cX8_blow 49 = .ok (.goto 5, 3) := by decide +kernel
theorem dX8_blow_52 : decode cX8_blow 52 = .ok (.bipush 51, 2) := by decide +kernel
theorem dX8_blow_54 : decode cX8_blow 54 = .ok (.iload 4, 2) := by decide +kernel
theorem dX8_blow_56 : decode cX8_blow 56 = .ok (.iadd, 1) := by decide +kernel
theorem dX8_blow_57 : decode cX8_blow 57 = .ok (.iconst 1, 1) := by decide +kernel
theorem dX8_blow_58 : decode cX8_blow 58 = .ok (.isub, 1) := by decide +kernel
theorem dX8_blow_59 : decode cX8_blow 59 = .ok (.iload_n 2, 1) := by decide +kernel
theorem dX8_blow_60 : decode cX8_blow 60 = .ok (.isub, 1) := by decide +kernel
theorem dX8_blow_61 : decode cX8_blow 61 = .ok (.invokevirtual 62, 3) := by decide +kernel
theorem dX8_blow_64 : decode cX8_blow 64 = .ok (.ireturn, 1) := by decide +kernel
theorem dX8_energy_0 : decode cX8_energy 0 = .ok (.aload_n 0, 1) := by decide +kernel
theorem dX8_energy_1 : decode cX8_energy 1 = .ok (.getfield 7, 3) := by decide +kernel
theorem dX8_energy_4 : decode cX8_energy 4 = .ok (.bipush 13, 2) := by decide +kernel
theorem dX8_energy_6 : decode cX8_energy 6 = .ok (.iaload, 1) := by decide +kernel
theorem dX8_energy_7 : decode cX8_energy 7 = .ok (.i2l, 1) := by decide +kernel
theorem dX8_energy_8 : decode cX8_energy 8 = .ok (.iload_n 1, 1) := by decide +kernel
theorem dX8_energy_9 : decode cX8_energy 9 = .ok (.i2l, 1) := by decide +kernel
theorem dX8_energy_10 : decode cX8_energy 10 = .ok (.lmul, 1) := by decide +kernel
theorem dX8_energy_11 : decode cX8_energy 11 = .ok (.aload_n 0, 1) := by decide +kernel
theorem dX8_energy_12 : decode cX8_energy 12 = .ok (.getfield 7, 3) := by decide +kernel
theorem dX8_energy_15 : decode cX8_energy 15 = .ok (.bipush 14, 2) := by decide +kernel
theorem dX8_energy_17 : decode cX8_energy 17 = .ok (.iaload, 1) := by decide +kernel
theorem dX8_energy_18 : decode cX8_energy 18 = .ok (.i2l, 1) := by decide +kernel
theorem dX8_energy_19 : decode cX8_energy 19 = .ok (.lmul, 1) := by decide +kernel
theorem dX8_energy_20 : decode cX8_energy 20 = .ok (.ldc2_w 113, 3) := by decide +kernel
theorem dX8_energy_23 : decode cX8_energy 23 = .ok (.ldiv, 1) := by decide +kernel
theorem dX8_energy_24 : decode cX8_energy 24 = .ok (.l2i, 1) := by decide +kernel
theorem dX8_energy_25 : decode cX8_energy 25 = .ok (.ireturn, 1) := by decide +kernel
theorem dX8_setAt_0 : decode cX8_setAt 0 = .ok (.aload_n 0, 1) := by decide +kernel
theorem dX8_setAt_1 : decode cX8_setAt 1 = .ok (.iload_n 3, 1) := by decide +kernel
theorem dX8_setAt_2 : decode cX8_setAt 2 = .ok (.invokevirtual 115, 3) := by decide +kernel
theorem dX8_setAt_5 : decode cX8_setAt 5 = .ok (.aload_n 0, 1) := by decide +kernel
theorem dX8_setAt_6 : decode cX8_setAt 6 = .ok (.iload_n 2, 1) := by decide +kernel
theorem dX8_setAt_7 : decode cX8_setAt 7 = .ok (.invokevirtual 118, 3) := by decide +kernel
theorem dX8_setAt_10 : decode cX8_setAt 10 = .ok (.idiv, 1) := by decide +kernel
theorem dX8_setAt_11 : decode cX8_setAt 11 = .ok (.aload_n 0, 1) := by decide +kernel
theorem dX8_setAt_12 : decode cX8_setAt 12 = .ok (.getfield 7, 3) := by decide +kernel
theorem dX8_setAt_15 : decode cX8_setAt 15 = .ok (.bipush 15, 2) := by decide +kernel
theorem dX8_setAt_17 : decode cX8_setAt 17 = .ok (.iaload, 1) := by decide +kernel
theorem dX8_setAt_18 : decode cX8_setAt 18 = .ok (.isub, 1) := by decide +kernel
theorem dX8_setAt_19 : decode cX8_setAt 19 = .ok (.istore 4, 2) := by decide +kernel
theorem dX8_setAt_21 : decode cX8_setAt 21 = .ok (.iload 4, 2) := by decide +kernel
theorem dX8_setAt_23 : decode cX8_setAt 23 = .ok (.ifCond .ge 7, 3) := by decide +kernel
theorem dX8_setAt_26 : decode cX8_setAt 26 = .ok (.iconst 0, 1) := by decide +kernel
theorem dX8_setAt_27 : decode cX8_setAt 27 = .ok (.goto 11, 3) := by decide +kernel
theorem dX8_setAt_30 : decode cX8_setAt 30 = .ok (.iload 4, 2) := by decide +kernel
theorem dX8_setAt_32 : decode cX8_setAt 32 = .ok (.sipush 500, 3) := by decide +kernel
theorem dX8_setAt_35 : decode cX8_setAt 35 = .ok (.invokestatic 121, 3) := by decide +kernel
theorem dX8_setAt_38 : decode cX8_setAt 38 = .ok (.istore 4, 2) := by decide +kernel
theorem dX8_setAt_40 : decode cX8_setAt 40 = .ok (.iload 4, 2) := by decide +kernel
theorem dX8_setAt_42 : decode cX8_setAt 42 = .ok (.aload_n 0, 1) := by decide +kernel
theorem dX8_setAt_43 : decode cX8_setAt 43 = .ok (.iload_n 1, 1) := by decide +kernel
theorem dX8_setAt_44 : decode cX8_setAt 44 = .ok (.iconst 2, 1) := by decide +kernel
theorem dX8_setAt_45 : decode cX8_setAt 45 = .ok (.invokevirtual 62, 3) := by decide +kernel
theorem dX8_setAt_48 : decode cX8_setAt 48 = .ok (.iload_n 2, 1) := by decide +kernel
theorem dX8_setAt_49 : decode cX8_setAt 49 = .ok (.isub, 1) := by decide +kernel
theorem dX8_setAt_50 : decode cX8_setAt 50 = .ok (.invokestatic 121, 3) := by decide +kernel
theorem dX8_setAt_53 : decode cX8_setAt 53 = .ok (.ireturn, 1) := by decide +kernel
theorem dX8_isDown_0 : decode cX8_isDown 0 = .ok (.aload_n 0, 1) := by decide +kernel
theorem dX8_isDown_1 : decode cX8_isDown 1 = .ok (.iload_n 1, 1) := by decide +kernel
theorem dX8_isDown_2 : decode cX8_isDown 2 = .ok (.iconst 3, 1) := by decide +kernel
theorem dX8_isDown_3 : decode cX8_isDown 3 = .ok (.invokevirtual 62, 3) := by decide +kernel
theorem dX8_isDown_6 : decode cX8_isDown 6 = .ok (.aload_n 0, 1) := by decide +kernel
theorem dX8_isDown_7 : decode cX8_isDown 7 = .ok (.iload_n 1, 1) := by decide +kernel
theorem dX8_isDown_8 : decode cX8_isDown 8 = .ok (.iconst 2, 1) := by decide +kernel
theorem dX8_isDown_9 : decode cX8_isDown 9 = .ok (.invokevirtual 62, 3) := by decide +kernel
theorem dX8_isDown_12 : decode cX8_isDown 12 = .ok (.if_icmp .ne 7, 3) := by decide +kernel
theorem dX8_isDown_15 : decode cX8_isDown 15 = .ok (.iconst 1, 1) := by decide +kernel
theorem dX8_isDown_16 : decode cX8_isDown 16 = .ok (.goto 4, 3) := by decide +kernel
theorem dX8_isDown_19 : decode cX8_isDown 19 = .ok (.iconst 0, 1) := by decide +kernel
theorem dX8_isDown_20 : decode cX8_isDown 20 = .ok (.ireturn, 1) := by decide +kernel
theorem dX8_liftOf_0 : decode cX8_liftOf 0 = .ok (.iload_n 3, 1) := by decide +kernel
theorem dX8_liftOf_1 : decode cX8_liftOf 1 = .ok (.iload_n 2, 1) := by decide +kernel
theorem dX8_liftOf_2 : decode cX8_liftOf 2 = .ok (.if_icmp .ge 22, 3) := by decide +kernel
theorem dX8_liftOf_5 : decode cX8_liftOf 5 = .ok (.iload_n 1, 1) := by decide +kernel
theorem dX8_liftOf_6 : decode cX8_liftOf 6 = .ok (.aload_n 0, 1) := by decide +kernel
theorem dX8_liftOf_7 : decode cX8_liftOf 7 = .ok (.getfield 7, 3) := by decide +kernel
theorem dX8_liftOf_10 : decode cX8_liftOf 10 = .ok (.bipush 18, 2) := by decide +kernel
theorem dX8_liftOf_12 : decode cX8_liftOf 12 = .ok (.iaload, 1) := by decide +kernel
theorem dX8_liftOf_13 : decode cX8_liftOf 13 = .ok (.imul, 1) := by decide +kernel
theorem dX8_liftOf_14 : decode cX8_liftOf 14 = .ok (.bipush 100, 2) := by decide +kernel
theorem dX8_liftOf_16 : decode cX8_liftOf 16 = .ok (.idiv, 1) := by decide +kernel
theorem dX8_liftOf_17 : decode cX8_liftOf 17 = .ok (.iload_n 3, 1) := by decide +kernel
theorem dX8_liftOf_18 : decode cX8_liftOf 18 = .ok (.invokestatic 121, 3) := by decide +kernel
theorem dX8_liftOf_21 : decode cX8_liftOf 21 = .ok (.goto 4, 3) := by decide +kernel
theorem dX8_liftOf_24 : decode cX8_liftOf 24 = .ok (.iconst 0, 1) := by decide +kernel
theorem dX8_liftOf_25 : decode cX8_liftOf 25 = .ok (.ireturn, 1) := by decide +kernel
theorem dX8_keeps_0 : decode cX8_keeps 0 = .ok (.aload_n 0, 1) := by decide +kernel
theorem dX8_keeps_1 : decode cX8_keeps 1 = .ok (.iload_n 1, 1) := by decide +kernel
theorem dX8_keeps_2 : decode cX8_keeps 2 = .ok (.bipush 10, 2) := by decide +kernel
theorem dX8_keeps_4 : decode cX8_keeps 4 = .ok (.invokevirtual 62, 3) := by decide +kernel
theorem dX8_keeps_7 : decode cX8_keeps 7 = .ok (.bipush 40, 2) := by decide +kernel
theorem dX8_keeps_9 : decode cX8_keeps 9 = .ok (.if_icmp .ne 72, 3) := by decide +kernel
theorem dX8_keeps_12 : decode cX8_keeps 12 = .ok (.iconst 1, 1) := by decide +kernel
theorem dX8_keeps_13 : decode cX8_keeps 13 = .ok (.istore 4, 2) := by decide +kernel
theorem dX8_keeps_15 : decode cX8_keeps 15 = .ok (.iload 4, 2) := by decide +kernel
theorem dX8_keeps_17 : decode cX8_keeps 17 = .ok (.bipush 40, 2) := by decide +kernel
theorem dX8_keeps_19 : decode cX8_keeps 19 = .ok (.if_icmp .ge 53, 3) := by decide +kernel
theorem dX8_keeps_22 : decode cX8_keeps 22 = .ok (.aload_n 0, 1) := by decide +kernel
theorem dX8_keeps_23 : decode cX8_keeps 23 = .ok (.iload_n 1, 1) := by decide +kernel
theorem dX8_keeps_24 : decode cX8_keeps 24 = .ok (.bipush 11, 2) := by decide +kernel
theorem dX8_keeps_26 : decode cX8_keeps 26 = .ok (.iload 4, 2) := by decide +kernel
theorem dX8_keeps_28 : decode cX8_keeps 28 = .ok (.iadd, 1) := by decide +kernel
theorem dX8_keeps_29 : decode cX8_keeps 29 = .ok (.iconst 1, 1) := by decide +kernel
theorem dX8_keeps_30 : decode cX8_keeps 30 = .ok (.isub, 1) := by decide +kernel
theorem dX8_keeps_31 : decode cX8_keeps 31 = .ok (.aload_n 0, 1) := by decide +kernel
theorem dX8_keeps_32 : decode cX8_keeps 32 = .ok (.iload_n 1, 1) := by decide +kernel
theorem dX8_keeps_33 : decode cX8_keeps 33 = .ok (.bipush 11, 2) := by decide +kernel
theorem dX8_keeps_35 : decode cX8_keeps 35 = .ok (.iload 4, 2) := by decide +kernel
theorem dX8_keeps_37 : decode cX8_keeps 37 = .ok (.iadd, 1) := by decide +kernel
theorem dX8_keeps_38 : decode cX8_keeps 38 = .ok (.invokevirtual 62, 3) := by decide +kernel
theorem dX8_keeps_41 : decode cX8_keeps 41 = .ok (.invokevirtual 93, 3) := by decide +kernel
theorem dX8_keeps_44 : decode cX8_keeps 44 = .ok (.aload_n 0, 1) := by decide +kernel
theorem dX8_keeps_45 : decode cX8_keeps 45 = .ok (.iload_n 1, 1) := by decide +kernel
theorem dX8_keeps_46 : decode cX8_keeps 46 = .ok (.bipush 51, 2) := by decide +kernel
theorem dX8_keeps_48 : decode cX8_keeps 48 = .ok (.iload 4, 2) := by decide +kernel
theorem dX8_keeps_50 : decode cX8_keeps 50 = .ok (.iadd, 1) := by decide +kernel
theorem dX8_keeps_51 : decode cX8_keeps 51 = .ok (.iconst 1, 1) := by decide +kernel
theorem dX8_keeps_52 : decode cX8_keeps 52 = .ok (.isub, 1) := by decide +kernel
theorem dX8_keeps_53 : decode cX8_keeps 53 = .ok (.aload_n 0, 1) := by decide +kernel
theorem dX8_keeps_54 : decode cX8_keeps 54 = .ok (.iload_n 1, 1) := by decide +kernel
theorem dX8_keeps_55 : decode cX8_keeps 55 = .ok (.bipush 51, 2) := by decide +kernel
theorem dX8_keeps_57 : decode cX8_keeps 57 = .ok (.iload 4, 2) := by decide +kernel
theorem dX8_keeps_59 : decode cX8_keeps 59 = .ok (.iadd, 1) := by decide +kernel
theorem dX8_keeps_60 : decode cX8_keeps 60 = .ok (.invokevirtual 62, 3) := by decide +kernel
theorem dX8_keeps_63 : decode cX8_keeps 63 = .ok (.invokevirtual 93, 3) := by decide +kernel
theorem dX8_keeps_66 : decode cX8_keeps 66 = .ok (.iinc 4 1, 3) := by decide +kernel
theorem dX8_keeps_69 : decode cX8_keeps 69 = .ok (.goto (-54), 3) := by decide +kernel
theorem dX8_keeps_72 : decode cX8_keeps 72 = .ok (.aload_n 0, 1) := by decide +kernel
theorem dX8_keeps_73 : decode cX8_keeps 73 = .ok (.iload_n 1, 1) := by decide +kernel
theorem dX8_keeps_74 : decode cX8_keeps 74 = .ok (.bipush 10, 2) := by decide +kernel
theorem dX8_keeps_76 : decode cX8_keeps 76 = .ok (.bipush 39, 2) := by decide +kernel
theorem dX8_keeps_78 : decode cX8_keeps 78 = .ok (.invokevirtual 93, 3) := by decide +kernel
theorem dX8_keeps_81 : decode cX8_keeps 81 = .ok (.aload_n 0, 1) := by decide +kernel
theorem dX8_keeps_82 : decode cX8_keeps 82 = .ok (.iload_n 1, 1) := by decide +kernel
theorem dX8_keeps_83 : decode cX8_keeps 83 = .ok (.bipush 10, 2) := by decide +kernel
theorem dX8_keeps_85 : decode cX8_keeps 85 = .ok (.invokevirtual 62, 3) := by decide +kernel
theorem dX8_keeps_88 : decode cX8_keeps 88 = .ok (.istore 4, 2) := by decide +kernel
theorem dX8_keeps_90 : decode cX8_keeps 90 = .ok (.aload_n 0, 1) := by decide +kernel
theorem dX8_keeps_91 : decode cX8_keeps 91 = .ok (.iload_n 1, 1) := by decide +kernel
theorem dX8_keeps_92 : decode cX8_keeps 92 = .ok (.bipush 11, 2) := by decide +kernel
theorem dX8_keeps_94 : decode cX8_keeps 94 = .ok (.iload 4, 2) := by decide +kernel
theorem dX8_keeps_96 : decode cX8_keeps 96 = .ok (.iadd, 1) := by decide +kernel
theorem dX8_keeps_97 : decode cX8_keeps 97 = .ok (.iload_n 2, 1) := by decide +kernel
theorem dX8_keeps_98 : decode cX8_keeps 98 = .ok (.invokevirtual 93, 3) := by decide +kernel
theorem dX8_keeps_101 : decode cX8_keeps 101 = .ok (.aload_n 0, 1) := by decide +kernel
theorem dX8_keeps_102 : decode cX8_keeps 102 = .ok (.iload_n 1, 1) := by decide +kernel
theorem dX8_keeps_103 : decode cX8_keeps 103 = .ok (.bipush 51, 2) := by decide +kernel
theorem dX8_keeps_105 : decode cX8_keeps 105 = .ok (.iload 4, 2) := by decide +kernel
theorem dX8_keeps_107 : decode cX8_keeps 107 = .ok (.iadd, 1) := by decide +kernel
theorem dX8_keeps_108 : decode cX8_keeps 108 = .ok (.iload_n 3, 1) := by decide +kernel
theorem dX8_keeps_109 : decode cX8_keeps 109 = .ok (.invokevirtual 93, 3) := by decide +kernel
theorem dX8_keeps_112 : decode cX8_keeps 112 = .ok (.aload_n 0, 1) := by decide +kernel
theorem dX8_keeps_113 : decode cX8_keeps 113 = .ok (.iload_n 1, 1) := by decide +kernel
theorem dX8_keeps_114 : decode cX8_keeps 114 = .ok (.bipush 10, 2) := by decide +kernel
theorem dX8_keeps_116 : decode cX8_keeps 116 = .ok (.iload 4, 2) := by decide +kernel
theorem dX8_keeps_118 : decode cX8_keeps 118 = .ok (.iconst 1, 1) := by decide +kernel
theorem dX8_keeps_119 : decode cX8_keeps 119 = .ok (.iadd, 1) := by decide +kernel
theorem dX8_keeps_120 : decode cX8_keeps 120 = .ok (.invokevirtual 93, 3) := by decide +kernel
theorem dX8_keeps_123 : decode cX8_keeps 123 = .ok (.return_, 1) := by decide +kernel
theorem dX8_lifts_0 : decode cX8_lifts 0 = .ok (.iconst 0, 1) := by decide +kernel
theorem dX8_lifts_1 : decode cX8_lifts 1 = .ok (.istore_n 3, 1) := by decide +kernel
theorem dX8_lifts_2 : decode cX8_lifts 2 = .ok (.iload_n 3, 1) := by decide +kernel
theorem dX8_lifts_3 : decode cX8_lifts 3 = .ok (.aload_n 0, 1) := by decide +kernel
theorem dX8_lifts_4 : decode cX8_lifts 4 = .ok (.getfield 7, 3) := by decide +kernel
theorem dX8_lifts_7 : decode cX8_lifts 7 = .ok (.bipush 19, 2) := by decide +kernel
theorem dX8_lifts_9 : decode cX8_lifts 9 = .ok (.iaload, 1) := by decide +kernel
theorem dX8_lifts_10 : decode cX8_lifts 10 = .ok (.if_icmp .ge 98, 3) := by decide +kernel
theorem dX8_lifts_13 : decode cX8_lifts 13 = .ok (.aload_n 0, 1) := by decide +kernel
theorem dX8_lifts_14 : decode cX8_lifts 14 = .ok (.iload_n 1, 1) := by decide +kernel
theorem dX8_lifts_15 : decode cX8_lifts 15 = .ok (.iload_n 3, 1) := by decide +kernel
theorem dX8_lifts_16 : decode cX8_lifts 16 = .ok (.invokevirtual 100, 3) := by decide +kernel
theorem dX8_lifts_19 : decode cX8_lifts 19 = .ok (.ifCond .eq 23, 3) := by decide +kernel
theorem dX8_lifts_22 : decode cX8_lifts 22 = .ok (.aload_n 0, 1) := by decide +kernel
theorem dX8_lifts_23 : decode cX8_lifts 23 = .ok (.iload_n 2, 1) := by decide +kernel
theorem dX8_lifts_24 : decode cX8_lifts 24 = .ok (.aload_n 0, 1) := by decide +kernel
theorem dX8_lifts_25 : decode cX8_lifts 25 = .ok (.iload_n 1, 1) := by decide +kernel
theorem dX8_lifts_26 : decode cX8_lifts 26 = .ok (.iconst 3, 1) := by decide +kernel
theorem dX8_lifts_27 : decode cX8_lifts 27 = .ok (.invokevirtual 62, 3) := by decide +kernel
theorem dX8_lifts_30 : decode cX8_lifts 30 = .ok (.aload_n 0, 1) := by decide +kernel
theorem dX8_lifts_31 : decode cX8_lifts 31 = .ok (.iload_n 3, 1) := by decide +kernel
theorem dX8_lifts_32 : decode cX8_lifts 32 = .ok (.iconst 3, 1) := by decide +kernel
theorem dX8_lifts_33 : decode cX8_lifts 33 = .ok (.invokevirtual 62, 3) := by decide +kernel
theorem dX8_lifts_36 : decode cX8_lifts 36 = .ok (.invokevirtual 124, 3) := by decide +kernel
theorem dX8_lifts_39 : decode cX8_lifts 39 = .ok (.goto 4, 3) := by decide +kernel
theorem dX8_lifts_42 : decode cX8_lifts 42 = .ok (.iconst 0, 1) := by decide +kernel
theorem dX8_lifts_43 : decode cX8_lifts 43 = .ok (.istore 4, 2) := by decide +kernel
theorem dX8_lifts_45 : decode cX8_lifts 45 = .ok (.iload 4, 2) := by decide +kernel
theorem dX8_lifts_47 : decode cX8_lifts 47 = .ok (.ifCond .le 55, 3) := by decide +kernel
theorem dX8_lifts_50 : decode cX8_lifts 50 = .ok (.aload_n 0, 1) := by decide +kernel
theorem dX8_lifts_51 : decode cX8_lifts 51 = .ok (.iload_n 3, 1) := by decide +kernel
theorem dX8_lifts_52 : decode cX8_lifts 52 = .ok (.iconst 3, 1) := by decide +kernel
theorem dX8_lifts_53 : decode cX8_lifts 53 = .ok (.aload_n 0, 1) := by decide +kernel
theorem dX8_lifts_54 : decode cX8_lifts 54 = .ok (.iload_n 3, 1) := by decide +kernel
theorem dX8_lifts_55 : decode cX8_lifts 55 = .ok (.iconst 3, 1) := by decide +kernel
theorem dX8_lifts_56 : decode cX8_lifts 56 = .ok (.invokevirtual 62, 3) := by decide +kernel
theorem dX8_lifts_59 : decode cX8_lifts 59 = .ok (.iload 4, 2) := by decide +kernel
theorem dX8_lifts_61 : decode cX8_lifts 61 = .ok (.isub, 1) := by decide +kernel
theorem dX8_lifts_62 : decode cX8_lifts 62 = .ok (.invokevirtual 93, 3) := by decide +kernel
theorem dX8_lifts_65 : decode cX8_lifts 65 = .ok (.aload_n 0, 1) := by decide +kernel
theorem dX8_lifts_66 : decode cX8_lifts 66 = .ok (.iload_n 3, 1) := by decide +kernel
theorem dX8_lifts_67 : decode cX8_lifts 67 = .ok (.bipush 6, 2) := by decide +kernel
theorem dX8_lifts_69 : decode cX8_lifts 69 = .ok (.iconst 1, 1) := by decide +kernel
theorem dX8_lifts_70 : decode cX8_lifts 70 = .ok (.invokevirtual 93, 3) := by decide +kernel
theorem dX8_lifts_73 : decode cX8_lifts 73 = .ok (.aload_n 0, 1) := by decide +kernel
theorem dX8_lifts_74 : decode cX8_lifts 74 = .ok (.iload_n 3, 1) := by decide +kernel
theorem dX8_lifts_75 : decode cX8_lifts 75 = .ok (.bipush 8, 2) := by decide +kernel
theorem dX8_lifts_77 : decode cX8_lifts 77 = .ok (.aload_n 0, 1) := by decide +kernel
theorem dX8_lifts_78 : decode cX8_lifts 78 = .ok (.iload_n 3, 1) := by decide +kernel
theorem dX8_lifts_79 : decode cX8_lifts 79 = .ok (.bipush 8, 2) := by decide +kernel
theorem dX8_lifts_81 : decode cX8_lifts 81 = .ok (.invokevirtual 62, 3) := by decide +kernel
theorem dX8_lifts_84 : decode cX8_lifts 84 = .ok (.iload 4, 2) := by decide +kernel
theorem dX8_lifts_86 : decode cX8_lifts 86 = .ok (.iadd, 1) := by decide +kernel
theorem dX8_lifts_87 : decode cX8_lifts 87 = .ok (.invokevirtual 93, 3) := by decide +kernel
theorem dX8_lifts_90 : decode cX8_lifts 90 = .ok (.aload_n 0, 1) := by decide +kernel
theorem dX8_lifts_91 : decode cX8_lifts 91 = .ok (.getfield 7, 3) := by decide +kernel
theorem dX8_lifts_94 : decode cX8_lifts 94 = .ok (.bipush 22, 2) := by decide +kernel
theorem dX8_lifts_96 : decode cX8_lifts 96 = .ok (.dup2, 1) := by decide +kernel
theorem dX8_lifts_97 : decode cX8_lifts 97 = .ok (.iaload, 1) := by decide +kernel
theorem dX8_lifts_98 : decode cX8_lifts 98 = .ok (.iload 4, 2) := by decide +kernel
theorem dX8_lifts_100 : decode cX8_lifts 100 = .ok (.iadd, 1) := by decide +kernel
theorem dX8_lifts_101 : decode cX8_lifts 101 = .ok (.iastore, 1) := by decide +kernel
theorem dX8_lifts_102 : decode cX8_lifts 102 = .ok (.iinc 3 1, 3) := by decide +kernel
theorem dX8_lifts_105 : decode cX8_lifts 105 = .ok (.goto (-103), 3) := by decide +kernel
theorem dX8_lifts_108 : decode cX8_lifts 108 = .ok (.return_, 1) := by decide +kernel
theorem dX8_strikes_0 : decode cX8_strikes 0 = .ok (.aload_n 0, 1) := by decide +kernel
theorem dX8_strikes_1 : decode cX8_strikes 1 = .ok (.aload_n 0, 1) := by decide +kernel
theorem dX8_strikes_2 : decode cX8_strikes 2 = .ok (.iload_n 1, 1) := by decide +kernel
theorem dX8_strikes_3 : decode cX8_strikes 3 = .ok (.iconst 3, 1) := by decide +kernel
theorem dX8_strikes_4 : decode cX8_strikes 4 = .ok (.invokevirtual 62, 3) := by decide +kernel
theorem dX8_strikes_7 : decode cX8_strikes 7 = .ok (.invokevirtual 118, 3) := by decide +kernel
theorem dX8_strikes_10 : decode cX8_strikes 10 = .ok (.istore_n 3, 1) := by decide +kernel
theorem dX8_strikes_11 : decode cX8_strikes 11 = .ok (.aload_n 0, 1) := by decide +kernel
theorem dX8_strikes_12 : decode cX8_strikes 12 = .ok (.iload_n 2, 1) := by decide +kernel
theorem dX8_strikes_13 : decode cX8_strikes 13 = .ok (.invokevirtual 115, 3) := by decide +kernel
theorem dX8_strikes_16 : decode cX8_strikes 16 = .ok (.istore 4, 2) := by decide +kernel
theorem dX8_strikes_18 : decode cX8_strikes 18 = .ok (.aload_n 0, 1) := by decide +kernel
theorem dX8_strikes_19 : decode cX8_strikes 19 = .ok (.iload_n 1, 1) := by decide +kernel
theorem dX8_strikes_20 : decode cX8_strikes 20 = .ok (.aload_n 0, 1) := by decide +kernel
theorem dX8_strikes_21 : decode cX8_strikes 21 = .ok (.iload_n 1, 1) := by decide +kernel
theorem dX8_strikes_22 : decode cX8_strikes 22 = .ok (.iconst 3, 1) := by decide +kernel
theorem dX8_strikes_23 : decode cX8_strikes 23 = .ok (.invokevirtual 62, 3) := by decide +kernel
theorem dX8_strikes_26 : decode cX8_strikes 26 = .ok (.iload_n 2, 1) := by decide +kernel
theorem dX8_strikes_27 : decode cX8_strikes 27 = .ok (.invokevirtual 128, 3) := by decide +kernel
theorem dX8_strikes_30 : decode cX8_strikes 30 = .ok (.istore 5, 2) := by decide +kernel
theorem dX8_strikes_32 : decode cX8_strikes 32 = .ok (.iload 5, 2) := by decide +kernel
theorem dX8_strikes_34 : decode cX8_strikes 34 = .ok (.aload_n 0, 1) := by decide +kernel
theorem dX8_strikes_35 : decode cX8_strikes 35 = .ok (.getfield 7, 3) := by decide +kernel
theorem dX8_strikes_38 : decode cX8_strikes 38 = .ok (.bipush 15, 2) := by decide +kernel
theorem dX8_strikes_40 : decode cX8_strikes 40 = .ok (.iaload, 1) := by decide +kernel
theorem dX8_strikes_41 : decode cX8_strikes 41 = .ok (.iadd, 1) := by decide +kernel
theorem dX8_strikes_42 : decode cX8_strikes 42 = .ok (.istore 6, 2) := by decide +kernel
theorem dX8_strikes_44 : decode cX8_strikes 44 = .ok (.iload 6, 2) := by decide +kernel
theorem dX8_strikes_46 : decode cX8_strikes 46 = .ok (.ifCond .ne 8, 3) := by decide +kernel
theorem dX8_strikes_49 : decode cX8_strikes 49 = .ok (.ldc 131, 2) := by decide +kernel
theorem dX8_strikes_51 : decode cX8_strikes 51 = .ok (.goto 13, 3) := by decide +kernel
theorem dX8_strikes_54 : decode cX8_strikes 54 = .ok (.iload 4, 2) := by decide +kernel
theorem dX8_strikes_56 : decode cX8_strikes 56 = .ok (.iload 6, 2) := by decide +kernel
theorem dX8_strikes_58 : decode cX8_strikes 58 = .ok (.idiv, 1) := by decide +kernel
theorem dX8_strikes_59 : decode cX8_strikes 59 = .ok (.ldc 131, 2) := by decide +kernel
theorem dX8_strikes_61 : decode cX8_strikes 61 = .ok (.invokestatic 121, 3) := by decide +kernel
theorem dX8_strikes_64 : decode cX8_strikes 64 = .ok (.istore 7, 2) := by decide +kernel
theorem dX8_strikes_66 : decode cX8_strikes 66 = .ok (.aload_n 0, 1) := by decide +kernel
theorem dX8_strikes_67 : decode cX8_strikes 67 = .ok (.iload_n 1, 1) := by decide +kernel
theorem dX8_strikes_68 : decode cX8_strikes 68 = .ok (.iconst 3, 1) := by decide +kernel
theorem dX8_strikes_69 : decode cX8_strikes 69 = .ok (.aload_n 0, 1) := by decide +kernel
theorem dX8_strikes_70 : decode cX8_strikes 70 = .ok (.iload_n 1, 1) := by decide +kernel
theorem dX8_strikes_71 : decode cX8_strikes 71 = .ok (.iconst 3, 1) := by decide +kernel
theorem dX8_strikes_72 : decode cX8_strikes 72 = .ok (.invokevirtual 62, 3) := by decide +kernel
theorem dX8_strikes_75 : decode cX8_strikes 75 = .ok (.iload 5, 2) := by decide +kernel
theorem dX8_strikes_77 : decode cX8_strikes 77 = .ok (.iadd, 1) := by decide +kernel
theorem dX8_strikes_78 : decode cX8_strikes 78 = .ok (.invokevirtual 93, 3) := by decide +kernel
theorem dX8_strikes_81 : decode cX8_strikes 81 = .ok (.aload_n 0, 1) := by decide +kernel
theorem dX8_strikes_82 : decode cX8_strikes 82 = .ok (.iload_n 1, 1) := by decide +kernel
theorem dX8_strikes_83 : decode cX8_strikes 83 = .ok (.iconst 4, 1) := by decide +kernel
theorem dX8_strikes_84 : decode cX8_strikes 84 = .ok (.aload_n 0, 1) := by decide +kernel
theorem dX8_strikes_85 : decode cX8_strikes 85 = .ok (.iload_n 1, 1) := by decide +kernel
theorem dX8_strikes_86 : decode cX8_strikes 86 = .ok (.iconst 4, 1) := by decide +kernel
theorem dX8_strikes_87 : decode cX8_strikes 87 = .ok (.invokevirtual 62, 3) := by decide +kernel
theorem dX8_strikes_90 : decode cX8_strikes 90 = .ok (.iconst 1, 1) := by decide +kernel
theorem dX8_strikes_91 : decode cX8_strikes 91 = .ok (.iadd, 1) := by decide +kernel
theorem dX8_strikes_92 : decode cX8_strikes 92 = .ok (.invokevirtual 93, 3) := by decide +kernel
theorem dX8_strikes_95 : decode cX8_strikes 95 = .ok (.aload_n 0, 1) := by decide +kernel
theorem dX8_strikes_96 : decode cX8_strikes 96 = .ok (.iload_n 1, 1) := by decide +kernel
theorem dX8_strikes_97 : decode cX8_strikes 97 = .ok (.iconst 5, 1) := by decide +kernel
theorem dX8_strikes_98 : decode cX8_strikes 98 = .ok (.iload 7, 2) := by decide +kernel
theorem dX8_strikes_100 : decode cX8_strikes 100 = .ok (.invokevirtual 93, 3) := by decide +kernel
theorem dX8_strikes_103 : decode cX8_strikes 103 = .ok (.aload_n 0, 1) := by decide +kernel
theorem dX8_strikes_104 : decode cX8_strikes 104 = .ok (.iload_n 1, 1) := by decide +kernel
theorem dX8_strikes_105 : decode cX8_strikes 105 = .ok (.bipush 6, 2) := by decide +kernel
theorem dX8_strikes_107 : decode cX8_strikes 107 = .ok (.iconst 0, 1) := by decide +kernel
theorem dX8_strikes_108 : decode cX8_strikes 108 = .ok (.invokevirtual 93, 3) := by decide +kernel
theorem dX8_strikes_111 : decode cX8_strikes 111 = .ok (.aload_n 0, 1) := by decide +kernel
theorem dX8_strikes_112 : decode cX8_strikes 112 = .ok (.iload_n 1, 1) := by decide +kernel
theorem dX8_strikes_113 : decode cX8_strikes 113 = .ok (.bipush 7, 2) := by decide +kernel
theorem dX8_strikes_115 : decode cX8_strikes 115 = .ok (.aload_n 0, 1) := by decide +kernel
theorem dX8_strikes_116 : decode cX8_strikes 116 = .ok (.iload_n 1, 1) := by decide +kernel
theorem dX8_strikes_117 : decode cX8_strikes 117 = .ok (.bipush 7, 2) := by decide +kernel
theorem dX8_strikes_119 : decode cX8_strikes 119 = .ok (.invokevirtual 62, 3) := by decide +kernel
theorem dX8_strikes_122 : decode cX8_strikes 122 = .ok (.iload 5, 2) := by decide +kernel
theorem dX8_strikes_124 : decode cX8_strikes 124 = .ok (.iadd, 1) := by decide +kernel
theorem dX8_strikes_125 : decode cX8_strikes 125 = .ok (.invokevirtual 93, 3) := by decide +kernel
theorem dX8_strikes_128 : decode cX8_strikes 128 = .ok (.aload_n 0, 1) := by decide +kernel
theorem dX8_strikes_129 : decode cX8_strikes 129 = .ok (.iload_n 1, 1) := by decide +kernel
theorem dX8_strikes_130 : decode cX8_strikes 130 = .ok (.iload 5, 2) := by decide +kernel
theorem dX8_strikes_132 : decode cX8_strikes 132 = .ok (.iload 7, 2) := by decide +kernel
theorem dX8_strikes_134 : decode cX8_strikes 134 = .ok (.invokevirtual 132, 3) := by decide +kernel
theorem dX8_strikes_137 : decode cX8_strikes 137 = .ok (.aload_n 0, 1) := by decide +kernel
theorem dX8_strikes_138 : decode cX8_strikes 138 = .ok (.getfield 7, 3) := by decide +kernel
theorem dX8_strikes_141 : decode cX8_strikes 141 = .ok (.bipush 20, 2) := by decide +kernel
theorem dX8_strikes_143 : decode cX8_strikes 143 = .ok (.dup2, 1) := by decide +kernel
theorem dX8_strikes_144 : decode cX8_strikes 144 = .ok (.iaload, 1) := by decide +kernel
theorem dX8_strikes_145 : decode cX8_strikes 145 = .ok (.iconst 1, 1) := by decide +kernel
theorem dX8_strikes_146 : decode cX8_strikes 146 = .ok (.iadd, 1) := by decide +kernel
theorem dX8_strikes_147 : decode cX8_strikes 147 = .ok (.iastore, 1) := by decide +kernel
theorem dX8_strikes_148 : decode cX8_strikes 148 = .ok (.aload_n 0, 1) := by decide +kernel
theorem dX8_strikes_149 : decode cX8_strikes 149 = .ok (.getfield 7, 3) := by decide +kernel
theorem dX8_strikes_152 : decode cX8_strikes 152 = .ok (.bipush 21, 2) := by decide +kernel
theorem dX8_strikes_154 : decode cX8_strikes 154 = .ok (.dup2, 1) := by decide +kernel
theorem dX8_strikes_155 : decode cX8_strikes 155 = .ok (.iaload, 1) := by decide +kernel
theorem dX8_strikes_156 : decode cX8_strikes 156 = .ok (.iload 5, 2) := by decide +kernel
theorem dX8_strikes_158 : decode cX8_strikes 158 = .ok (.iadd, 1) := by decide +kernel
theorem dX8_strikes_159 : decode cX8_strikes 159 = .ok (.iastore, 1) := by decide +kernel
theorem dX8_strikes_160 : decode cX8_strikes 160 = .ok (.aload_n 0, 1) := by decide +kernel
theorem dX8_strikes_161 : decode cX8_strikes 161 = .ok (.getfield 16, 3) := by decide +kernel
theorem dX8_strikes_164 : decode cX8_strikes 164 = .ok (.iconst 0, 1) := by decide +kernel
theorem dX8_strikes_165 : decode cX8_strikes 165 = .ok (.dup2, 1) := by decide +kernel
theorem dX8_strikes_166 : decode cX8_strikes 166 = .ok (.laload, 1) := by decide +kernel
theorem dX8_strikes_167 : decode cX8_strikes 167 = .ok (.iload 4, 2) := by decide +kernel
theorem dX8_strikes_169 : decode cX8_strikes 169 = .ok (.i2l, 1) := by decide +kernel
theorem dX8_strikes_170 : decode cX8_strikes 170 = .ok (.ladd, 1) := by decide +kernel
theorem dX8_strikes_171 : decode cX8_strikes 171 = .ok (.lastore, 1) := by decide +kernel
theorem dX8_strikes_172 : decode cX8_strikes 172 = .ok (.aload_n 0, 1) := by decide +kernel
theorem dX8_strikes_173 : decode cX8_strikes 173 = .ok (.getfield 16, 3) := by decide +kernel
theorem dX8_strikes_176 : decode cX8_strikes 176 = .ok (.iconst 1, 1) := by decide +kernel
theorem dX8_strikes_177 : decode cX8_strikes 177 = .ok (.dup2, 1) := by decide +kernel
theorem dX8_strikes_178 : decode cX8_strikes 178 = .ok (.laload, 1) := by decide +kernel
theorem dX8_strikes_179 : decode cX8_strikes 179 = .ok (.iload 5, 2) := by decide +kernel
theorem dX8_strikes_181 : decode cX8_strikes 181 = .ok (.i2l, 1) := by decide +kernel
theorem dX8_strikes_182 : decode cX8_strikes 182 = .ok (.iload_n 3, 1) := by decide +kernel
theorem dX8_strikes_183 : decode cX8_strikes 183 = .ok (.i2l, 1) := by decide +kernel
theorem dX8_strikes_184 : decode cX8_strikes 184 = .ok (.lmul, 1) := by decide +kernel
theorem dX8_strikes_185 : decode cX8_strikes 185 = .ok (.ladd, 1) := by decide +kernel
theorem dX8_strikes_186 : decode cX8_strikes 186 = .ok (.lastore, 1) := by decide +kernel
theorem dX8_strikes_187 : decode cX8_strikes 187 = .ok (.aload_n 0, 1) := by decide +kernel
theorem dX8_strikes_188 : decode cX8_strikes 188 = .ok (.iload_n 1, 1) := by decide +kernel
theorem dX8_strikes_189 : decode cX8_strikes 189 = .ok (.iload 5, 2) := by decide +kernel
theorem dX8_strikes_191 : decode cX8_strikes 191 = .ok (.invokevirtual 135, 3) := by decide +kernel
theorem dX8_strikes_194 : decode cX8_strikes 194 = .ok (.iload 5, 2) := by decide +kernel
theorem dX8_strikes_196 : decode cX8_strikes 196 = .ok (.ireturn, 1) := by decide +kernel
theorem dX8_strike_0 : decode cX8_strike 0 = .ok (.aload_n 0, 1) := by decide +kernel
theorem dX8_strike_1 : decode cX8_strike 1 = .ok (.iload_n 1, 1) := by decide +kernel
theorem dX8_strike_2 : decode cX8_strike 2 = .ok (.invokevirtual 103, 3) := by decide +kernel
theorem dX8_strike_5 : decode cX8_strike 5 = .ok (.ifCond .eq 10, 3) := by decide +kernel
theorem dX8_strike_8 : decode cX8_strike 8 = .ok (.iload_n 2, 1) := by decide +kernel
theorem dX8_strike_9 : decode cX8_strike 9 = .ok (.invokestatic 139, 3) := by decide +kernel
theorem dX8_strike_12 : decode cX8_strike 12 = .ok (.ifCond .ne 5, 3) := by decide +kernel
theorem dX8_strike_15 : decode cX8_strike 15 = .ok (.iconst (-1), 1) := by decide +kernel
theorem dX8_strike_16 : decode cX8_strike 16 = .ok (.ireturn, 1) := by decide +kernel
theorem dX8_strike_17 : decode cX8_strike 17 = .ok (.aload_n 0, 1) := by decide +kernel
theorem dX8_strike_18 : decode cX8_strike 18 = .ok (.iload_n 1, 1) := by decide +kernel
theorem dX8_strike_19 : decode cX8_strike 19 = .ok (.invokevirtual 142, 3) := by decide +kernel
theorem dX8_strike_22 : decode cX8_strike 22 = .ok (.ifCond .eq 6, 3) := by decide +kernel
theorem dX8_strike_25 : decode cX8_strike 25 = .ok (.bipush (-2), 2) := by decide +kernel
theorem dX8_strike_27 : decode cX8_strike 27 = .ok (.ireturn, 1) := by decide +kernel
theorem dX8_strike_28 : decode cX8_strike 28 = .ok (.aload_n 0, 1) := by decide +kernel
theorem dX8_strike_29 : decode cX8_strike 29 = .ok (.invokevirtual 55, 3) := by decide +kernel
theorem dX8_strike_32 : decode cX8_strike 32 = .ok (.aload_n 0, 1) := by decide +kernel
theorem dX8_strike_33 : decode cX8_strike 33 = .ok (.iload_n 1, 1) := by decide +kernel
theorem dX8_strike_34 : decode cX8_strike 34 = .ok (.iload_n 2, 1) := by decide +kernel
theorem dX8_strike_35 : decode cX8_strike 35 = .ok (.invokevirtual 145, 3) := by decide +kernel
theorem dX8_strike_38 : decode cX8_strike 38 = .ok (.ireturn, 1) := by decide +kernel
theorem dX8_drive_0 : decode cX8_drive 0 = .ok (.aload_n 0, 1) := by decide +kernel
theorem dX8_drive_1 : decode cX8_drive 1 = .ok (.iload_n 1, 1) := by decide +kernel
theorem dX8_drive_2 : decode cX8_drive 2 = .ok (.invokevirtual 103, 3) := by decide +kernel
theorem dX8_drive_5 : decode cX8_drive 5 = .ok (.ifCond .eq 32, 3) := by decide +kernel
theorem dX8_drive_8 : decode cX8_drive 8 = .ok (.iload_n 2, 1) := by decide +kernel
theorem dX8_drive_9 : decode cX8_drive 9 = .ok (.invokestatic 139, 3) := by decide +kernel
theorem dX8_drive_12 : decode cX8_drive 12 = .ok (.ifCond .eq 25, 3) := by decide +kernel
theorem dX8_drive_15 : decode cX8_drive 15 = .ok (.iload_n 3, 1) := by decide +kernel
theorem dX8_drive_16 : decode cX8_drive 16 = .ok (.iconst 0, 1) := by decide +kernel
theorem dX8_drive_17 : decode cX8_drive 17 = .ok (.sipush 500, 3) := by decide +kernel
theorem dX8_drive_20 : decode cX8_drive 20 = .ok (.invokestatic 51, 3) := by decide +kernel
theorem dX8_drive_23 : decode cX8_drive 23 = .ok (.ifCond .eq 14, 3) := by decide +kernel
theorem dX8_drive_26 : decode cX8_drive 26 = .ok (.iload 4, 2) := by decide +kernel
theorem dX8_drive_28 : decode cX8_drive 28 = .ok (.iconst 1, 1) := by decide +kernel
theorem dX8_drive_29 : decode cX8_drive 29 = .ok (.bipush 100, 2) := by decide +kernel
theorem dX8_drive_31 : decode cX8_drive 31 = .ok (.invokestatic 51, 3) := by decide +kernel
theorem dX8_drive_34 : decode cX8_drive 34 = .ok (.ifCond .ne 5, 3) := by decide +kernel
theorem dX8_drive_37 : decode cX8_drive 37 = .ok (.iconst (-1), 1) := by decide +kernel
theorem dX8_drive_38 : decode cX8_drive 38 = .ok (.ireturn, 1) := by decide +kernel
theorem dX8_drive_39 : decode cX8_drive 39 = .ok (.aload_n 0, 1) := by decide +kernel
theorem dX8_drive_40 : decode cX8_drive 40 = .ok (.iload_n 1, 1) := by decide +kernel
theorem dX8_drive_41 : decode cX8_drive 41 = .ok (.invokevirtual 142, 3) := by decide +kernel
theorem dX8_drive_44 : decode cX8_drive 44 = .ok (.ifCond .eq 6, 3) := by decide +kernel
theorem dX8_drive_47 : decode cX8_drive 47 = .ok (.bipush (-2), 2) := by decide +kernel
theorem dX8_drive_49 : decode cX8_drive 49 = .ok (.ireturn, 1) := by decide +kernel
theorem dX8_drive_50 : decode cX8_drive 50 = .ok (.aload_n 0, 1) := by decide +kernel
theorem dX8_drive_51 : decode cX8_drive 51 = .ok (.invokevirtual 55, 3) := by decide +kernel
theorem dX8_drive_54 : decode cX8_drive 54 = .ok (.iconst 0, 1) := by decide +kernel
theorem dX8_drive_55 : decode cX8_drive 55 = .ok (.istore 5, 2) := by decide +kernel
theorem dX8_drive_57 : decode cX8_drive 57 = .ok (.iconst 1, 1) := by decide +kernel
theorem dX8_drive_58 : decode cX8_drive 58 = .ok (.istore 6, 2) := by decide +kernel
theorem dX8_drive_60 : decode cX8_drive 60 = .ok (.iload 6, 2) := by decide +kernel
theorem dX8_drive_62 : decode cX8_drive 62 = .ok (.ifCond .eq 45, 3) := by decide +kernel
theorem dX8_drive_65 : decode cX8_drive 65 = .ok (.aload_n 0, 1) := by decide +kernel
theorem dX8_drive_66 : decode cX8_drive 66 = .ok (.iload_n 1, 1) := by decide +kernel
theorem dX8_drive_67 : decode cX8_drive 67 = .ok (.iload_n 2, 1) := by decide +kernel
theorem dX8_drive_68 : decode cX8_drive 68 = .ok (.invokevirtual 145, 3) := by decide +kernel
theorem dX8_drive_71 : decode cX8_drive 71 = .ok (.istore 7, 2) := by decide +kernel
theorem dX8_drive_73 : decode cX8_drive 73 = .ok (.iinc 5 1, 3) := by decide +kernel
theorem dX8_drive_76 : decode cX8_drive 76 = .ok (.iload 7, 2) := by decide +kernel
theorem dX8_drive_78 : decode cX8_drive 78 = .ok (.iload_n 3, 1) := by decide +kernel
theorem dX8_drive_79 : decode cX8_drive 79 = .ok (.if_icmp .le 22, 3) := by decide +kernel
theorem dX8_drive_82 : decode cX8_drive 82 = .ok (.aload_n 0, 1) := by decide +kernel
theorem dX8_drive_83 : decode cX8_drive 83 = .ok (.iload_n 1, 1) := by decide +kernel
theorem dX8_drive_84 : decode cX8_drive 84 = .ok (.invokevirtual 142, 3) := by decide +kernel
theorem dX8_drive_87 : decode cX8_drive 87 = .ok (.ifCond .ne 14, 3) := by decide +kernel
theorem dX8_drive_90 : decode cX8_drive 90 = .ok (.iload 5, 2) := by decide +kernel
theorem dX8_drive_92 : decode cX8_drive 92 = .ok (.iload 4, 2) := by decide +kernel
theorem dX8_drive_94 : decode cX8_drive 94 = .ok (.if_icmp .ge 7, 3) := by decide +kernel
theorem dX8_drive_97 : decode cX8_drive 97 = .ok (.iconst 1, 1) := by decide +kernel
theorem dX8_drive_98 : decode cX8_drive 98 = .ok (.goto 4, 3) := by decide +kernel
theorem dX8_drive_101 : decode cX8_drive 101 = .ok (.iconst 0, 1) := by decide +kernel
theorem dX8_drive_102 : decode cX8_drive 102 = .ok (.istore 6, 2) := by decide +kernel
theorem dX8_drive_104 : decode cX8_drive 104 = .ok (.goto (-44), 3) := by decide +kernel
theorem dX8_drive_107 : decode cX8_drive 107 = .ok (.iload 5, 2) := by decide +kernel
theorem dX8_drive_109 : decode cX8_drive 109 = .ok (.ireturn, 1) := by decide +kernel
theorem dX8_would_0 : decode cX8_would 0 = .ok (.aload_n 0, 1) := by decide +kernel
theorem dX8_would_1 : decode cX8_would 1 = .ok (.iload_n 1, 1) := by decide +kernel
theorem dX8_would_2 : decode cX8_would 2 = .ok (.invokevirtual 103, 3) := by decide +kernel
theorem dX8_would_5 : decode cX8_would 5 = .ok (.ifCond .eq 10, 3) := by decide +kernel
theorem dX8_would_8 : decode cX8_would 8 = .ok (.iload_n 2, 1) := by decide +kernel
theorem dX8_would_9 : decode cX8_would 9 = .ok (.invokestatic 139, 3) := by decide +kernel
theorem dX8_would_12 : decode cX8_would 12 = .ok (.ifCond .ne 5, 3) := by decide +kernel
theorem dX8_would_15 : decode cX8_would 15 = .ok (.iconst (-1), 1) := by decide +kernel
theorem dX8_would_16 : decode cX8_would 16 = .ok (.ireturn, 1) := by decide +kernel
theorem dX8_would_17 : decode cX8_would 17 = .ok (.aload_n 0, 1) := by decide +kernel
theorem dX8_would_18 : decode cX8_would 18 = .ok (.iload_n 1, 1) := by decide +kernel
theorem dX8_would_19 : decode cX8_would 19 = .ok (.invokevirtual 142, 3) := by decide +kernel
theorem dX8_would_22 : decode cX8_would 22 = .ok (.ifCond .eq 8, 3) := by decide +kernel
theorem dX8_would_25 : decode cX8_would 25 = .ok (.bipush (-2), 2) := by decide +kernel
theorem dX8_would_27 : decode cX8_would 27 = .ok (.goto 15, 3) := by decide +kernel
theorem dX8_would_30 : decode cX8_would 30 = .ok (.aload_n 0, 1) := by decide +kernel
theorem dX8_would_31 : decode cX8_would 31 = .ok (.iload_n 1, 1) := by decide +kernel
theorem dX8_would_32 : decode cX8_would 32 = .ok (.aload_n 0, 1) := by decide +kernel
theorem dX8_would_33 : decode cX8_would 33 = .ok (.iload_n 1, 1) := by decide +kernel
theorem dX8_would_34 : decode cX8_would 34 = .ok (.iconst 3, 1) := by decide +kernel
theorem dX8_would_35 : decode cX8_would 35 = .ok (.invokevirtual 62, 3) := by decide +kernel
theorem dX8_would_38 : decode cX8_would 38 = .ok (.iload_n 2, 1) := by decide +kernel
theorem dX8_would_39 : decode cX8_would 39 = .ok (.invokevirtual 128, 3) := by decide +kernel
theorem dX8_would_42 : decode cX8_would 42 = .ok (.ireturn, 1) := by decide +kernel
theorem dX8_fallFor_0 : decode cX8_fallFor 0 = .ok (.aload_n 0, 1) := by decide +kernel
theorem dX8_fallFor_1 : decode cX8_fallFor 1 = .ok (.iload_n 1, 1) := by decide +kernel
theorem dX8_fallFor_2 : decode cX8_fallFor 2 = .ok (.invokevirtual 103, 3) := by decide +kernel
theorem dX8_fallFor_5 : decode cX8_fallFor 5 = .ok (.ifCond .eq 14, 3) := by decide +kernel
theorem dX8_fallFor_8 : decode cX8_fallFor 8 = .ok (.iload_n 2, 1) := by decide +kernel
theorem dX8_fallFor_9 : decode cX8_fallFor 9 = .ok (.iconst 0, 1) := by decide +kernel
theorem dX8_fallFor_10 : decode cX8_fallFor 10 = .ok (.sipush 500, 3) := by decide +kernel
theorem dX8_fallFor_13 : decode cX8_fallFor 13 = .ok (.invokestatic 51, 3) := by decide +kernel
theorem dX8_fallFor_16 : decode cX8_fallFor 16 = .ok (.ifCond .ne 5, 3) := by decide +kernel
theorem dX8_fallFor_19 : decode cX8_fallFor 19 = .ok (.iconst (-1), 1) := by decide +kernel
theorem dX8_fallFor_20 : decode cX8_fallFor 20 = .ok (.ireturn, 1) := by decide +kernel
theorem dX8_fallFor_21 : decode cX8_fallFor 21 = .ok (.aload_n 0, 1) := by decide +kernel
theorem dX8_fallFor_22 : decode cX8_fallFor 22 = .ok (.iload_n 1, 1) := by decide +kernel
theorem dX8_fallFor_23 : decode cX8_fallFor 23 = .ok (.invokevirtual 142, 3) := by decide +kernel
theorem dX8_fallFor_26 : decode cX8_fallFor 26 = .ok (.ifCond .eq 6, 3) := by decide +kernel
theorem dX8_fallFor_29 : decode cX8_fallFor 29 = .ok (.bipush (-2), 2) := by decide +kernel
theorem dX8_fallFor_31 : decode cX8_fallFor 31 = .ok (.ireturn, 1) := by decide +kernel
theorem dX8_fallFor_32 : decode cX8_fallFor 32 = .ok (.bipush 100, 2) := by decide +kernel
theorem dX8_fallFor_34 : decode cX8_fallFor 34 = .ok (.istore_n 3, 1) := by decide +kernel
theorem dX8_fallFor_35 : decode cX8_fallFor 35 = .ok (.iload_n 3, 1) := by decide +kernel
theorem dX8_fallFor_36 : decode cX8_fallFor 36 = .ok (.sipush 3000, 3) := by decide +kernel
theorem dX8_fallFor_39 : decode cX8_fallFor 39 = .ok (.if_icmp .gt 27, 3) := by decide +kernel
theorem dX8_fallFor_42 : decode cX8_fallFor 42 = .ok (.aload_n 0, 1) := by decide +kernel
theorem dX8_fallFor_43 : decode cX8_fallFor 43 = .ok (.iload_n 1, 1) := by decide +kernel
theorem dX8_fallFor_44 : decode cX8_fallFor 44 = .ok (.aload_n 0, 1) := by decide +kernel
theorem dX8_fallFor_45 : decode cX8_fallFor 45 = .ok (.iload_n 1, 1) := by decide +kernel
theorem dX8_fallFor_46 : decode cX8_fallFor 46 = .ok (.iconst 3, 1) := by decide +kernel
theorem dX8_fallFor_47 : decode cX8_fallFor 47 = .ok (.invokevirtual 62, 3) := by decide +kernel
theorem dX8_fallFor_50 : decode cX8_fallFor 50 = .ok (.iload_n 3, 1) := by decide +kernel
theorem dX8_fallFor_51 : decode cX8_fallFor 51 = .ok (.invokevirtual 128, 3) := by decide +kernel
theorem dX8_fallFor_54 : decode cX8_fallFor 54 = .ok (.iload_n 2, 1) := by decide +kernel
theorem dX8_fallFor_55 : decode cX8_fallFor 55 = .ok (.if_icmp .lt 5, 3) := by decide +kernel
theorem dX8_fallFor_58 : decode cX8_fallFor 58 = .ok (.iload_n 3, 1) := by decide +kernel
theorem dX8_fallFor_59 : decode cX8_fallFor 59 = .ok (.ireturn, 1) := by decide +kernel
theorem dX8_fallFor_60 : decode cX8_fallFor 60 = .ok (.iinc 3 1, 3) := by decide +kernel
theorem dX8_fallFor_63 : decode cX8_fallFor 63 = .ok (.goto (-28), 3) := by decide +kernel
theorem dX8_fallFor_66 : decode cX8_fallFor 66 = .ok (.bipush (-4), 2) := by decide +kernel
theorem dX8_fallFor_68 : decode cX8_fallFor 68 = .ok (.ireturn, 1) := by decide +kernel
theorem dX8_blowsTo_0 : decode cX8_blowsTo 0 = .ok (.aload_n 0, 1) := by decide +kernel
theorem dX8_blowsTo_1 : decode cX8_blowsTo 1 = .ok (.iload_n 1, 1) := by decide +kernel
theorem dX8_blowsTo_2 : decode cX8_blowsTo 2 = .ok (.invokevirtual 103, 3) := by decide +kernel
theorem dX8_blowsTo_5 : decode cX8_blowsTo 5 = .ok (.ifCond .eq 20, 3) := by decide +kernel
theorem dX8_blowsTo_8 : decode cX8_blowsTo 8 = .ok (.iload_n 2, 1) := by decide +kernel
theorem dX8_blowsTo_9 : decode cX8_blowsTo 9 = .ok (.invokestatic 139, 3) := by decide +kernel
theorem dX8_blowsTo_12 : decode cX8_blowsTo 12 = .ok (.ifCond .eq 13, 3) := by decide +kernel
theorem dX8_blowsTo_15 : decode cX8_blowsTo 15 = .ok (.iload_n 3, 1) := by decide +kernel
theorem dX8_blowsTo_16 : decode cX8_blowsTo 16 = .ok (.iconst 0, 1) := by decide +kernel
theorem dX8_blowsTo_17 : decode cX8_blowsTo 17 = .ok (.ldc 89, 2) := by decide +kernel
theorem dX8_blowsTo_19 : decode cX8_blowsTo 19 = .ok (.invokestatic 51, 3) := by decide +kernel
theorem dX8_blowsTo_22 : decode cX8_blowsTo 22 = .ok (.ifCond .ne 5, 3) := by decide +kernel
theorem dX8_blowsTo_25 : decode cX8_blowsTo 25 = .ok (.iconst (-1), 1) := by decide +kernel
theorem dX8_blowsTo_26 : decode cX8_blowsTo 26 = .ok (.ireturn, 1) := by decide +kernel
theorem dX8_blowsTo_27 : decode cX8_blowsTo 27 = .ok (.aload_n 0, 1) := by decide +kernel
theorem dX8_blowsTo_28 : decode cX8_blowsTo 28 = .ok (.iload_n 1, 1) := by decide +kernel
theorem dX8_blowsTo_29 : decode cX8_blowsTo 29 = .ok (.iconst 3, 1) := by decide +kernel
theorem dX8_blowsTo_30 : decode cX8_blowsTo 30 = .ok (.invokevirtual 62, 3) := by decide +kernel
theorem dX8_blowsTo_33 : decode cX8_blowsTo 33 = .ok (.istore 4, 2) := by decide +kernel
theorem dX8_blowsTo_35 : decode cX8_blowsTo 35 = .ok (.iconst 0, 1) := by decide +kernel
theorem dX8_blowsTo_36 : decode cX8_blowsTo 36 = .ok (.istore 5, 2) := by decide +kernel
theorem dX8_blowsTo_38 : decode cX8_blowsTo 38 = .ok (.iload 4, 2) := by decide +kernel
theorem dX8_blowsTo_40 : decode cX8_blowsTo 40 = .ok (.iload_n 3, 1) := by decide +kernel
theorem dX8_blowsTo_41 : decode cX8_blowsTo 41 = .ok (.if_icmp .ge 34, 3) := by decide +kernel
theorem dX8_blowsTo_44 : decode cX8_blowsTo 44 = .ok (.aload_n 0, 1) := by decide +kernel
theorem dX8_blowsTo_45 : decode cX8_blowsTo 45 = .ok (.iload_n 1, 1) := by decide +kernel
theorem dX8_blowsTo_46 : decode cX8_blowsTo 46 = .ok (.iload 4, 2) := by decide +kernel
theorem dX8_blowsTo_48 : decode cX8_blowsTo 48 = .ok (.iload_n 2, 1) := by decide +kernel
theorem dX8_blowsTo_49 : decode cX8_blowsTo 49 = .ok (.invokevirtual 128, 3) := by decide +kernel
theorem dX8_blowsTo_52 : decode cX8_blowsTo 52 = .ok (.istore 6, 2) := by decide +kernel
theorem dX8_blowsTo_54 : decode cX8_blowsTo 54 = .ok (.iload 6, 2) := by decide +kernel
theorem dX8_blowsTo_56 : decode cX8_blowsTo 56 = .ok (.ifCond .ne 6, 3) := by decide +kernel
theorem dX8_blowsTo_59 : decode cX8_blowsTo 59 = .ok (.bipush (-4), 2) := by decide +kernel
theorem dX8_blowsTo_61 : decode cX8_blowsTo 61 = .ok (.ireturn, 1) := by decide +kernel
theorem dX8_blowsTo_62 : decode cX8_blowsTo 62 = .ok (.iload 4, 2) := by decide +kernel
theorem dX8_blowsTo_64 : decode cX8_blowsTo 64 = .ok (.iload 6, 2) := by decide +kernel
theorem dX8_blowsTo_66 : decode cX8_blowsTo 66 = .ok (.iadd, 1) := by decide +kernel
theorem dX8_blowsTo_67 : decode cX8_blowsTo 67 = .ok (.istore 4, 2) := by decide +kernel
theorem dX8_blowsTo_69 : decode cX8_blowsTo 69 = .ok (.iinc 5 1, 3) := by decide +kernel
theorem dX8_blowsTo_72 : decode cX8_blowsTo 72 = .ok (.goto (-34), 3) := by decide +kernel
theorem dX8_blowsTo_75 : decode cX8_blowsTo 75 = .ok (.iload 5, 2) := by decide +kernel
theorem dX8_blowsTo_77 : decode cX8_blowsTo 77 = .ok (.ireturn, 1) := by decide +kernel
theorem dX8_test_0 : decode cX8_test 0 = .ok (.aload_n 0, 1) := by decide +kernel
theorem dX8_test_1 : decode cX8_test 1 = .ok (.iload_n 1, 1) := by decide +kernel
theorem dX8_test_2 : decode cX8_test 2 = .ok (.invokevirtual 103, 3) := by decide +kernel
theorem dX8_test_5 : decode cX8_test 5 = .ok (.ifCond .eq 13, 3) := by decide +kernel
theorem dX8_test_8 : decode cX8_test 8 = .ok (.iload_n 2, 1) := by decide +kernel
theorem dX8_test_9 : decode cX8_test 9 = .ok (.iconst 1, 1) := by decide +kernel
theorem dX8_test_10 : decode cX8_test 10 = .ok (.ldc 131, 2) := by decide +kernel
theorem dX8_test_12 : decode cX8_test 12 = .ok (.invokestatic 51, 3) := by decide +kernel
theorem dX8_test_15 : decode cX8_test 15 = .ok (.ifCond .ne 5, 3) := by decide +kernel
theorem dX8_test_18 : decode cX8_test 18 = .ok (.iconst (-1), 1) := by decide +kernel
theorem dX8_test_19 : decode cX8_test 19 = .ok (.ireturn, 1) := by decide +kernel
theorem dX8_test_20 : decode cX8_test 20 = .ok (.aload_n 0, 1) := by decide +kernel
theorem dX8_test_21 : decode cX8_test 21 = .ok (.invokevirtual 55, 3) := by decide +kernel
theorem dX8_test_24 : decode cX8_test 24 = .ok (.aload_n 0, 1) := by decide +kernel
theorem dX8_test_25 : decode cX8_test 25 = .ok (.iload_n 1, 1) := by decide +kernel
theorem dX8_test_26 : decode cX8_test 26 = .ok (.iconst 3, 1) := by decide +kernel
theorem dX8_test_27 : decode cX8_test 27 = .ok (.invokevirtual 62, 3) := by decide +kernel
theorem dX8_test_30 : decode cX8_test 30 = .ok (.istore_n 3, 1) := by decide +kernel
theorem dX8_test_31 : decode cX8_test 31 = .ok (.aload_n 0, 1) := by decide +kernel
theorem dX8_test_32 : decode cX8_test 32 = .ok (.iload_n 3, 1) := by decide +kernel
theorem dX8_test_33 : decode cX8_test 33 = .ok (.invokevirtual 118, 3) := by decide +kernel
theorem dX8_test_36 : decode cX8_test 36 = .ok (.bipush 10, 2) := by decide +kernel
theorem dX8_test_38 : decode cX8_test 38 = .ok (.imul, 1) := by decide +kernel
theorem dX8_test_39 : decode cX8_test 39 = .ok (.iload_n 3, 1) := by decide +kernel
theorem dX8_test_40 : decode cX8_test 40 = .ok (.bipush 100, 2) := by decide +kernel
theorem dX8_test_42 : decode cX8_test 42 = .ok (.idiv, 1) := by decide +kernel
theorem dX8_test_43 : decode cX8_test 43 = .ok (.iadd, 1) := by decide +kernel
theorem dX8_test_44 : decode cX8_test 44 = .ok (.istore 4, 2) := by decide +kernel
theorem dX8_test_46 : decode cX8_test 46 = .ok (.iload_n 2, 1) := by decide +kernel
theorem dX8_test_47 : decode cX8_test 47 = .ok (.iload 4, 2) := by decide +kernel
theorem dX8_test_49 : decode cX8_test 49 = .ok (.if_icmp .gt 5, 3) := by decide +kernel
theorem dX8_test_52 : decode cX8_test 52 = .ok (.iconst 0, 1) := by decide +kernel
theorem dX8_test_53 : decode cX8_test 53 = .ok (.ireturn, 1) := by decide +kernel
theorem dX8_test_54 : decode cX8_test 54 = .ok (.iload_n 2, 1) := by decide +kernel
theorem dX8_test_55 : decode cX8_test 55 = .ok (.iload 4, 2) := by decide +kernel
theorem dX8_test_57 : decode cX8_test 57 = .ok (.isub, 1) := by decide +kernel
theorem dX8_test_58 : decode cX8_test 58 = .ok (.bipush 10, 2) := by decide +kernel
theorem dX8_test_60 : decode cX8_test 60 = .ok (.idiv, 1) := by decide +kernel
theorem dX8_test_61 : decode cX8_test 61 = .ok (.iconst 1, 1) := by decide +kernel
theorem dX8_test_62 : decode cX8_test 62 = .ok (.iadd, 1) := by decide +kernel
theorem dX8_test_63 : decode cX8_test 63 = .ok (.aload_n 0, 1) := by decide +kernel
theorem dX8_test_64 : decode cX8_test 64 = .ok (.iload_n 1, 1) := by decide +kernel
theorem dX8_test_65 : decode cX8_test 65 = .ok (.iconst 2, 1) := by decide +kernel
theorem dX8_test_66 : decode cX8_test 66 = .ok (.invokevirtual 62, 3) := by decide +kernel
theorem dX8_test_69 : decode cX8_test 69 = .ok (.iload_n 3, 1) := by decide +kernel
theorem dX8_test_70 : decode cX8_test 70 = .ok (.isub, 1) := by decide +kernel
theorem dX8_test_71 : decode cX8_test 71 = .ok (.invokestatic 121, 3) := by decide +kernel
theorem dX8_test_74 : decode cX8_test 74 = .ok (.istore 5, 2) := by decide +kernel
theorem dX8_test_76 : decode cX8_test 76 = .ok (.aload_n 0, 1) := by decide +kernel
theorem dX8_test_77 : decode cX8_test 77 = .ok (.iload_n 1, 1) := by decide +kernel
theorem dX8_test_78 : decode cX8_test 78 = .ok (.iconst 3, 1) := by decide +kernel
theorem dX8_test_79 : decode cX8_test 79 = .ok (.iload_n 3, 1) := by decide +kernel
theorem dX8_test_80 : decode cX8_test 80 = .ok (.iload 5, 2) := by decide +kernel
theorem dX8_test_82 : decode cX8_test 82 = .ok (.iadd, 1) := by decide +kernel
theorem dX8_test_83 : decode cX8_test 83 = .ok (.invokevirtual 93, 3) := by decide +kernel
theorem dX8_test_86 : decode cX8_test 86 = .ok (.aload_n 0, 1) := by decide +kernel
theorem dX8_test_87 : decode cX8_test 87 = .ok (.iload_n 1, 1) := by decide +kernel
theorem dX8_test_88 : decode cX8_test 88 = .ok (.bipush 6, 2) := by decide +kernel
theorem dX8_test_90 : decode cX8_test 90 = .ok (.iconst 0, 1) := by decide +kernel
theorem dX8_test_91 : decode cX8_test 91 = .ok (.invokevirtual 93, 3) := by decide +kernel
theorem dX8_test_94 : decode cX8_test 94 = .ok (.aload_n 0, 1) := by decide +kernel
theorem dX8_test_95 : decode cX8_test 95 = .ok (.iload_n 1, 1) := by decide +kernel
theorem dX8_test_96 : decode cX8_test 96 = .ok (.bipush 9, 2) := by decide +kernel
theorem dX8_test_98 : decode cX8_test 98 = .ok (.aload_n 0, 1) := by decide +kernel
theorem dX8_test_99 : decode cX8_test 99 = .ok (.iload_n 1, 1) := by decide +kernel
theorem dX8_test_100 : decode cX8_test 100 = .ok (.bipush 9, 2) := by decide +kernel
theorem dX8_test_102 : decode cX8_test 102 = .ok (.invokevirtual 62, 3) := by decide +kernel
theorem dX8_test_105 : decode cX8_test 105 = .ok (.iload 5, 2) := by decide +kernel
theorem dX8_test_107 : decode cX8_test 107 = .ok (.iadd, 1) := by decide +kernel
theorem dX8_test_108 : decode cX8_test 108 = .ok (.invokevirtual 93, 3) := by decide +kernel
theorem dX8_test_111 : decode cX8_test 111 = .ok (.aload_n 0, 1) := by decide +kernel
theorem dX8_test_112 : decode cX8_test 112 = .ok (.getfield 7, 3) := by decide +kernel
theorem dX8_test_115 : decode cX8_test 115 = .ok (.bipush 23, 2) := by decide +kernel
theorem dX8_test_117 : decode cX8_test 117 = .ok (.dup2, 1) := by decide +kernel
theorem dX8_test_118 : decode cX8_test 118 = .ok (.iaload, 1) := by decide +kernel
theorem dX8_test_119 : decode cX8_test 119 = .ok (.iload 5, 2) := by decide +kernel
theorem dX8_test_121 : decode cX8_test 121 = .ok (.iadd, 1) := by decide +kernel
theorem dX8_test_122 : decode cX8_test 122 = .ok (.iastore, 1) := by decide +kernel
theorem dX8_test_123 : decode cX8_test 123 = .ok (.iload 5, 2) := by decide +kernel
theorem dX8_test_125 : decode cX8_test 125 = .ok (.ireturn, 1) := by decide +kernel
theorem dX8_endsRun_0 : decode cX8_endsRun 0 = .ok (.iload_n 2, 1) := by decide +kernel
theorem dX8_endsRun_1 : decode cX8_endsRun 1 = .ok (.iconst 2, 1) := by decide +kernel
theorem dX8_endsRun_2 : decode cX8_endsRun 2 = .ok (.if_icmp .le 43, 3) := by decide +kernel
theorem dX8_endsRun_5 : decode cX8_endsRun 5 = .ok (.aload_n 0, 1) := by decide +kernel
theorem dX8_endsRun_6 : decode cX8_endsRun 6 = .ok (.getfield 26, 3) := by decide +kernel
theorem dX8_endsRun_9 : decode cX8_endsRun 9 = .ok (.aload_n 0, 1) := by decide +kernel
theorem dX8_endsRun_10 : decode cX8_endsRun 10 = .ok (.getfield 148, 3) := by decide +kernel
theorem dX8_endsRun_13 : decode cX8_endsRun 13 = .ok (.iload_n 1, 1) := by decide +kernel
theorem dX8_endsRun_14 : decode cX8_endsRun 14 = .ok (.iastore, 1) := by decide +kernel
theorem dX8_endsRun_15 : decode cX8_endsRun 15 = .ok (.aload_n 0, 1) := by decide +kernel
theorem dX8_endsRun_16 : decode cX8_endsRun 16 = .ok (.getfield 29, 3) := by decide +kernel
theorem dX8_endsRun_19 : decode cX8_endsRun 19 = .ok (.aload_n 0, 1) := by decide +kernel
theorem dX8_endsRun_20 : decode cX8_endsRun 20 = .ok (.getfield 148, 3) := by decide +kernel
theorem dX8_endsRun_23 : decode cX8_endsRun 23 = .ok (.iload_n 2, 1) := by decide +kernel
theorem dX8_endsRun_24 : decode cX8_endsRun 24 = .ok (.iastore, 1) := by decide +kernel
theorem dX8_endsRun_25 : decode cX8_endsRun 25 = .ok (.aload_n 0, 1) := by decide +kernel
theorem dX8_endsRun_26 : decode cX8_endsRun 26 = .ok (.getfield 32, 3) := by decide +kernel
theorem dX8_endsRun_29 : decode cX8_endsRun 29 = .ok (.aload_n 0, 1) := by decide +kernel
theorem dX8_endsRun_30 : decode cX8_endsRun 30 = .ok (.getfield 148, 3) := by decide +kernel
theorem dX8_endsRun_33 : decode cX8_endsRun 33 = .ok (.iload_n 3, 1) := by decide +kernel
theorem dX8_endsRun_34 : decode cX8_endsRun 34 = .ok (.iastore, 1) := by decide +kernel
theorem dX8_endsRun_35 : decode cX8_endsRun 35 = .ok (.aload_n 0, 1) := by decide +kernel
theorem dX8_endsRun_36 : decode cX8_endsRun 36 = .ok (.dup, 1) := by decide +kernel
theorem dX8_endsRun_37 : decode cX8_endsRun 37 = .ok (.getfield 148, 3) := by decide +kernel
theorem dX8_endsRun_40 : decode cX8_endsRun 40 = .ok (.iconst 1, 1) := by decide +kernel
theorem dX8_endsRun_41 : decode cX8_endsRun 41 = .ok (.iadd, 1) := by decide +kernel
theorem dX8_endsRun_42 : decode cX8_endsRun 42 = .ok (.putfield 148, 3) := by decide +kernel
theorem dX8_endsRun_45 : decode cX8_endsRun 45 = .ok (.return_, 1) := by decide +kernel
theorem dX8_findRuns_0 : decode cX8_findRuns 0 = .ok (.aload_n 0, 1) := by decide +kernel
theorem dX8_findRuns_1 : decode cX8_findRuns 1 = .ok (.iconst 0, 1) := by decide +kernel
theorem dX8_findRuns_2 : decode cX8_findRuns 2 = .ok (.putfield 148, 3) := by decide +kernel
theorem dX8_findRuns_5 : decode cX8_findRuns 5 = .ok (.iconst 0, 1) := by decide +kernel
theorem dX8_findRuns_6 : decode cX8_findRuns 6 = .ok (.istore_n 2, 1) := by decide +kernel
theorem dX8_findRuns_7 : decode cX8_findRuns 7 = .ok (.iconst 0, 1) := by decide +kernel
theorem dX8_findRuns_8 : decode cX8_findRuns 8 = .ok (.istore_n 3, 1) := by decide +kernel
theorem dX8_findRuns_9 : decode cX8_findRuns 9 = .ok (.iconst 0, 1) := by decide +kernel
theorem dX8_findRuns_10 : decode cX8_findRuns 10 = .ok (.istore 4, 2) := by decide +kernel
theorem dX8_findRuns_12 : decode cX8_findRuns 12 = .ok (.iconst 0, 1) := by decide +kernel
theorem dX8_findRuns_13 : decode cX8_findRuns 13 = .ok (.istore 5, 2) := by decide +kernel
theorem dX8_findRuns_15 : decode cX8_findRuns 15 = .ok (.iload 5, 2) := by decide +kernel
theorem dX8_findRuns_17 : decode cX8_findRuns 17 = .ok (.aload_n 0, 1) := by decide +kernel
theorem dX8_findRuns_18 : decode cX8_findRuns 18 = .ok (.iload_n 1, 1) := by decide +kernel
theorem dX8_findRuns_19 : decode cX8_findRuns 19 = .ok (.bipush 10, 2) := by decide +kernel
theorem dX8_findRuns_21 : decode cX8_findRuns 21 = .ok (.invokevirtual 62, 3) := by decide +kernel
theorem dX8_findRuns_24 : decode cX8_findRuns 24 = .ok (.if_icmp .ge 86, 3) := by decide +kernel
theorem dX8_findRuns_27 : decode cX8_findRuns 27 = .ok (.aload_n 0, 1) := by decide +kernel
theorem dX8_findRuns_28 : decode cX8_findRuns 28 = .ok (.iload_n 1, 1) := by decide +kernel
theorem dX8_findRuns_29 : decode cX8_findRuns 29 = .ok (.bipush 11, 2) := by decide +kernel
theorem dX8_findRuns_31 : decode cX8_findRuns 31 = .ok (.iload 5, 2) := by decide +kernel
theorem dX8_findRuns_33 : decode cX8_findRuns 33 = .ok (.iadd, 1) := by decide +kernel
theorem dX8_findRuns_34 : decode cX8_findRuns 34 = .ok (.invokevirtual 62, 3) := by decide +kernel
theorem dX8_findRuns_37 : decode cX8_findRuns 37 = .ok (.istore 6, 2) := by decide +kernel
theorem dX8_findRuns_39 : decode cX8_findRuns 39 = .ok (.iload 6, 2) := by decide +kernel
theorem dX8_findRuns_41 : decode cX8_findRuns 41 = .ok (.ifCond .le 63, 3) := by decide +kernel
theorem dX8_findRuns_44 : decode cX8_findRuns 44 = .ok (.iload_n 3, 1) := by decide +kernel
theorem dX8_findRuns_45 : decode cX8_findRuns 45 = .ok (.ifCond .le 25, 3) := by decide +kernel
theorem dX8_findRuns_48 : decode cX8_findRuns 48 = .ok (.iload 6, 2) := by decide +kernel
theorem dX8_findRuns_50 : decode cX8_findRuns 50 = .ok (.aload_n 0, 1) := by decide +kernel
theorem dX8_findRuns_51 : decode cX8_findRuns 51 = .ok (.iload_n 1, 1) := by decide +kernel
theorem dX8_findRuns_52 : decode cX8_findRuns 52 = .ok (.bipush 11, 2) := by decide +kernel
theorem dX8_findRuns_54 : decode cX8_findRuns 54 = .ok (.iload_n 2, 1) := by decide +kernel
theorem dX8_findRuns_55 : decode cX8_findRuns 55 = .ok (.iadd, 1) := by decide +kernel
theorem dX8_findRuns_56 : decode cX8_findRuns 56 = .ok (.invokevirtual 62, 3) := by decide +kernel
theorem dX8_findRuns_59 : decode cX8_findRuns 59 = .ok (.invokestatic 97, 3) := by decide +kernel
theorem dX8_findRuns_62 : decode cX8_findRuns 62 = .ok (.iconst 1, 1) := by decide +kernel
theorem dX8_findRuns_63 : decode cX8_findRuns 63 = .ok (.if_icmp .gt 7, 3) := by decide +kernel
theorem dX8_findRuns_66 : decode cX8_findRuns 66 = .ok (.iconst 1, 1) := by decide +kernel
theorem dX8_findRuns_67 : decode cX8_findRuns 67 = .ok (.goto 4, 3) := by decide +kernel
theorem dX8_findRuns_70 : decode cX8_findRuns 70 = .ok (.iconst 0, 1) := by decide +kernel
theorem dX8_findRuns_71 : decode cX8_findRuns 71 = .ok (.istore 7, 2) := by decide +kernel
theorem dX8_findRuns_73 : decode cX8_findRuns 73 = .ok (.iload 7, 2) := by decide +kernel
theorem dX8_findRuns_75 : decode cX8_findRuns 75 = .ok (.ifCond .ne 19, 3) := by decide +kernel
theorem dX8_findRuns_78 : decode cX8_findRuns 78 = .ok (.aload_n 0, 1) := by decide +kernel
theorem dX8_findRuns_79 : decode cX8_findRuns 79 = .ok (.iload_n 2, 1) := by decide +kernel
theorem dX8_findRuns_80 : decode cX8_findRuns 80 = .ok (.iload_n 3, 1) := by decide +kernel
theorem dX8_findRuns_81 : decode cX8_findRuns 81 = .ok (.iload 4, 2) := by decide +kernel
theorem dX8_findRuns_83 : decode cX8_findRuns 83 = .ok (.invokevirtual 151, 3) := by decide +kernel
theorem dX8_findRuns_86 : decode cX8_findRuns 86 = .ok (.iload 5, 2) := by decide +kernel
theorem dX8_findRuns_88 : decode cX8_findRuns 88 = .ok (.istore_n 2, 1) := by decide +kernel
theorem dX8_findRuns_89 : decode cX8_findRuns 89 = .ok (.iconst 0, 1) := by decide +kernel
theorem dX8_findRuns_90 : decode cX8_findRuns 90 = .ok (.istore_n 3, 1) := by decide +kernel
theorem dX8_findRuns_91 : decode cX8_findRuns 91 = .ok (.iconst 0, 1) := by decide +kernel
theorem dX8_findRuns_92 : decode cX8_findRuns 92 = .ok (.istore 4, 2) := by decide +kernel
theorem dX8_findRuns_94 : decode cX8_findRuns 94 = .ok (.iinc 3 1, 3) := by decide +kernel
theorem dX8_findRuns_97 : decode cX8_findRuns 97 = .ok (.iload 4, 2) := by decide +kernel
theorem dX8_findRuns_99 : decode cX8_findRuns 99 = .ok (.iload 6, 2) := by decide +kernel
theorem dX8_findRuns_101 : decode cX8_findRuns 101 = .ok (.iadd, 1) := by decide +kernel
theorem dX8_findRuns_102 : decode cX8_findRuns 102 = .ok (.istore 4, 2) := by decide +kernel
theorem dX8_findRuns_104 : decode cX8_findRuns 104 = .ok (.iinc 5 1, 3) := by decide +kernel
theorem dX8_findRuns_107 : decode cX8_findRuns 107 = .ok (.goto (-92), 3) := by decide +kernel
theorem dX8_findRuns_110 : decode cX8_findRuns 110 = .ok (.aload_n 0, 1) := by decide +kernel
theorem dX8_findRuns_111 : decode cX8_findRuns 111 = .ok (.iload_n 2, 1) := by decide +kernel
theorem dX8_findRuns_112 : decode cX8_findRuns 112 = .ok (.iload_n 3, 1) := by decide +kernel
theorem dX8_findRuns_113 : decode cX8_findRuns 113 = .ok (.iload 4, 2) := by decide +kernel
theorem dX8_findRuns_115 : decode cX8_findRuns 115 = .ok (.invokevirtual 151, 3) := by decide +kernel
theorem dX8_findRuns_118 : decode cX8_findRuns 118 = .ok (.return_, 1) := by decide +kernel
theorem dX8_runs_0 : decode cX8_runs 0 = .ok (.aload_n 0, 1) := by decide +kernel
theorem dX8_runs_1 : decode cX8_runs 1 = .ok (.iload_n 1, 1) := by decide +kernel
theorem dX8_runs_2 : decode cX8_runs 2 = .ok (.invokevirtual 103, 3) := by decide +kernel
theorem dX8_runs_5 : decode cX8_runs 5 = .ok (.ifCond .ne 5, 3) := by decide +kernel
theorem dX8_runs_8 : decode cX8_runs 8 = .ok (.iconst (-1), 1) := by decide +kernel
theorem dX8_runs_9 : decode cX8_runs 9 = .ok (.ireturn, 1) := by decide +kernel
theorem dX8_runs_10 : decode cX8_runs 10 = .ok (.aload_n 0, 1) := by decide +kernel
theorem dX8_runs_11 : decode cX8_runs 11 = .ok (.iload_n 1, 1) := by decide +kernel
theorem dX8_runs_12 : decode cX8_runs 12 = .ok (.invokevirtual 154, 3) := by decide +kernel
theorem dX8_runs_15 : decode cX8_runs 15 = .ok (.aload_n 0, 1) := by decide +kernel
theorem dX8_runs_16 : decode cX8_runs 16 = .ok (.getfield 148, 3) := by decide +kernel
theorem dX8_runs_19 : decode cX8_runs 19 = .ok (.ireturn, 1) := by decide +kernel
theorem dX8_run_0 : decode cX8_run 0 = .ok (.aload_n 0, 1) := by decide +kernel
theorem dX8_run_1 : decode cX8_run 1 = .ok (.iload_n 1, 1) := by decide +kernel
theorem dX8_run_2 : decode cX8_run 2 = .ok (.invokevirtual 103, 3) := by decide +kernel
theorem dX8_run_5 : decode cX8_run 5 = .ok (.ifCond .eq 16, 3) := by decide +kernel
theorem dX8_run_8 : decode cX8_run 8 = .ok (.iload_n 2, 1) := by decide +kernel
theorem dX8_run_9 : decode cX8_run 9 = .ok (.ifCond .lt 12, 3) := by decide +kernel
theorem dX8_run_12 : decode cX8_run 12 = .ok (.iload_n 3, 1) := by decide +kernel
theorem dX8_run_13 : decode cX8_run 13 = .ok (.iconst 0, 1) := by decide +kernel
theorem dX8_run_14 : decode cX8_run 14 = .ok (.iconst 3, 1) := by decide +kernel
theorem dX8_run_15 : decode cX8_run 15 = .ok (.invokestatic 51, 3) := by decide +kernel
theorem dX8_run_18 : decode cX8_run 18 = .ok (.ifCond .ne 5, 3) := by decide +kernel
theorem dX8_run_21 : decode cX8_run 21 = .ok (.iconst (-1), 1) := by decide +kernel
theorem dX8_run_22 : decode cX8_run 22 = .ok (.ireturn, 1) := by decide +kernel
theorem dX8_run_23 : decode cX8_run 23 = .ok (.aload_n 0, 1) := by decide +kernel
theorem dX8_run_24 : decode cX8_run 24 = .ok (.iload_n 1, 1) := by decide +kernel
theorem dX8_run_25 : decode cX8_run 25 = .ok (.invokevirtual 154, 3) := by decide +kernel
theorem dX8_run_28 : decode cX8_run 28 = .ok (.iload_n 2, 1) := by decide +kernel
theorem dX8_run_29 : decode cX8_run 29 = .ok (.aload_n 0, 1) := by decide +kernel
theorem dX8_run_30 : decode cX8_run 30 = .ok (.getfield 148, 3) := by decide +kernel
theorem dX8_run_33 : decode cX8_run 33 = .ok (.if_icmp .lt 6, 3) := by decide +kernel
theorem dX8_run_36 : decode cX8_run 36 = .ok (.bipush (-4), 2) := by decide +kernel
theorem dX8_run_38 : decode cX8_run 38 = .ok (.ireturn, 1) := by decide +kernel
theorem dX8_run_39 : decode cX8_run 39 = .ok (.iload_n 3, 1) := by decide +kernel
theorem dX8_run_40 : decode cX8_run 40 = .ok (.tableswitch 65 0 2 #[28, 43, 50], 28) := by decide +kernel
theorem dX8_run_68 : decode cX8_run 68 = .ok (.aload_n 0, 1) := by decide +kernel
theorem dX8_run_69 : decode cX8_run 69 = .ok (.iload_n 1, 1) := by decide +kernel
theorem dX8_run_70 : decode cX8_run 70 = .ok (.bipush 11, 2) := by decide +kernel
theorem dX8_run_72 : decode cX8_run 72 = .ok (.aload_n 0, 1) := by decide +kernel
theorem dX8_run_73 : decode cX8_run 73 = .ok (.getfield 26, 3) := by decide +kernel
theorem dX8_run_76 : decode cX8_run 76 = .ok (.iload_n 2, 1) := by decide +kernel
theorem dX8_run_77 : decode cX8_run 77 = .ok (.iaload, 1) := by decide +kernel
theorem dX8_run_78 : decode cX8_run 78 = .ok (.iadd, 1) := by decide +kernel
theorem dX8_run_79 : decode cX8_run 79 = .ok (.invokevirtual 62, 3) := by decide +kernel
theorem dX8_run_82 : decode cX8_run 82 = .ok (.ireturn, 1) := by decide +kernel
theorem dX8_run_83 : decode cX8_run 83 = .ok (.aload_n 0, 1) := by decide +kernel
theorem dX8_run_84 : decode cX8_run 84 = .ok (.getfield 29, 3) := by decide +kernel
theorem dX8_run_87 : decode cX8_run 87 = .ok (.iload_n 2, 1) := by decide +kernel
theorem dX8_run_88 : decode cX8_run 88 = .ok (.iaload, 1) := by decide +kernel
theorem dX8_run_89 : decode cX8_run 89 = .ok (.ireturn, 1) := by decide +kernel
theorem dX8_run_90 : decode cX8_run 90 = .ok (.aload_n 0, 1) := by decide +kernel
theorem dX8_run_91 : decode cX8_run 91 = .ok (.iload_n 1, 1) := by decide +kernel
theorem dX8_run_92 : decode cX8_run 92 = .ok (.bipush 51, 2) := by decide +kernel
theorem dX8_run_94 : decode cX8_run 94 = .ok (.aload_n 0, 1) := by decide +kernel
theorem dX8_run_95 : decode cX8_run 95 = .ok (.getfield 26, 3) := by decide +kernel
theorem dX8_run_98 : decode cX8_run 98 = .ok (.iload_n 2, 1) := by decide +kernel
theorem dX8_run_99 : decode cX8_run 99 = .ok (.iaload, 1) := by decide +kernel
theorem dX8_run_100 : decode cX8_run 100 = .ok (.iadd, 1) := by decide +kernel
theorem dX8_run_101 : decode cX8_run 101 = .ok (.invokevirtual 62, 3) := by decide +kernel
theorem dX8_run_104 : decode cX8_run 104 = .ok (.ireturn, 1) := by decide +kernel
theorem dX8_run_105 : decode cX8_run 105 = .ok (.aload_n 0, 1) := by decide +kernel
theorem dX8_run_106 : decode cX8_run 106 = .ok (.getfield 32, 3) := by decide +kernel
theorem dX8_run_109 : decode cX8_run 109 = .ok (.iload_n 2, 1) := by decide +kernel
theorem dX8_run_110 : decode cX8_run 110 = .ok (.iaload, 1) := by decide +kernel
theorem dX8_run_111 : decode cX8_run 111 = .ok (.ireturn, 1) := by decide +kernel
theorem dX8_findFresh_0 : decode cX8_findFresh 0 = .ok (.aload_n 0, 1) := by decide +kernel
theorem dX8_findFresh_1 : decode cX8_findFresh 1 = .ok (.iconst 0, 1) := by decide +kernel
theorem dX8_findFresh_2 : decode cX8_findFresh 2 = .ok (.putfield 158, 3) := by decide +kernel
theorem dX8_findFresh_5 : decode cX8_findFresh 5 = .ok (.iconst 0, 1) := by decide +kernel
theorem dX8_findFresh_6 : decode cX8_findFresh 6 = .ok (.istore_n 1, 1) := by decide +kernel
theorem dX8_findFresh_7 : decode cX8_findFresh 7 = .ok (.iload_n 1, 1) := by decide +kernel
theorem dX8_findFresh_8 : decode cX8_findFresh 8 = .ok (.aload_n 0, 1) := by decide +kernel
theorem dX8_findFresh_9 : decode cX8_findFresh 9 = .ok (.getfield 7, 3) := by decide +kernel
theorem dX8_findFresh_12 : decode cX8_findFresh 12 = .ok (.bipush 19, 2) := by decide +kernel
theorem dX8_findFresh_14 : decode cX8_findFresh 14 = .ok (.iaload, 1) := by decide +kernel
theorem dX8_findFresh_15 : decode cX8_findFresh 15 = .ok (.if_icmp .ge 38, 3) := by decide +kernel
theorem dX8_findFresh_18 : decode cX8_findFresh 18 = .ok (.aload_n 0, 1) := by decide +kernel
theorem dX8_findFresh_19 : decode cX8_findFresh 19 = .ok (.iload_n 1, 1) := by decide +kernel
theorem dX8_findFresh_20 : decode cX8_findFresh 20 = .ok (.iconst 4, 1) := by decide +kernel
theorem dX8_findFresh_21 : decode cX8_findFresh 21 = .ok (.invokevirtual 62, 3) := by decide +kernel
theorem dX8_findFresh_24 : decode cX8_findFresh 24 = .ok (.ifCond .ne 23, 3) := by decide +kernel
theorem dX8_findFresh_27 : decode cX8_findFresh 27 = .ok (.aload_n 0, 1) := by decide +kernel
theorem dX8_findFresh_28 : decode cX8_findFresh 28 = .ok (.getfield 35, 3) := by decide +kernel
theorem dX8_findFresh_31 : decode cX8_findFresh 31 = .ok (.aload_n 0, 1) := by decide +kernel
theorem dX8_findFresh_32 : decode cX8_findFresh 32 = .ok (.getfield 158, 3) := by decide +kernel
theorem dX8_findFresh_35 : decode cX8_findFresh 35 = .ok (.iload_n 1, 1) := by decide +kernel
theorem dX8_findFresh_36 : decode cX8_findFresh 36 = .ok (.iastore, 1) := by decide +kernel
theorem dX8_findFresh_37 : decode cX8_findFresh 37 = .ok (.aload_n 0, 1) := by decide +kernel
theorem dX8_findFresh_38 : decode cX8_findFresh 38 = .ok (.dup, 1) := by decide +kernel
theorem dX8_findFresh_39 : decode cX8_findFresh 39 = .ok (.getfield 158, 3) := by decide +kernel
theorem dX8_findFresh_42 : decode cX8_findFresh 42 = .ok (.iconst 1, 1) := by decide +kernel
theorem dX8_findFresh_43 : decode cX8_findFresh 43 = .ok (.iadd, 1) := by decide +kernel
theorem dX8_findFresh_44 : decode cX8_findFresh 44 = .ok (.putfield 158, 3) := by decide +kernel
theorem dX8_findFresh_47 : decode cX8_findFresh 47 = .ok (.iinc 1 1, 3) := by decide +kernel
theorem dX8_findFresh_50 : decode cX8_findFresh 50 = .ok (.goto (-43), 3) := by decide +kernel
theorem dX8_findFresh_53 : decode cX8_findFresh 53 = .ok (.return_, 1) := by decide +kernel
theorem dX8_layRow_0 : decode cX8_layRow 0 = .ok (.iconst 0, 1) := by decide +kernel
theorem dX8_layRow_1 : decode cX8_layRow 1 = .ok (.istore_n 3, 1) := by decide +kernel
theorem dX8_layRow_2 : decode cX8_layRow 2 = .ok (.iload_n 1, 1) := by decide +kernel
theorem dX8_layRow_3 : decode cX8_layRow 3 = .ok (.istore 4, 2) := by decide +kernel
theorem dX8_layRow_5 : decode cX8_layRow 5 = .ok (.iload_n 2, 1) := by decide +kernel
theorem dX8_layRow_6 : decode cX8_layRow 6 = .ok (.istore 5, 2) := by decide +kernel
theorem dX8_layRow_8 : decode cX8_layRow 8 = .ok (.iconst 0, 1) := by decide +kernel
theorem dX8_layRow_9 : decode cX8_layRow 9 = .ok (.istore 6, 2) := by decide +kernel
theorem dX8_layRow_11 : decode cX8_layRow 11 = .ok (.iload 6, 2) := by decide +kernel
theorem dX8_layRow_13 : decode cX8_layRow 13 = .ok (.aload_n 0, 1) := by decide +kernel
theorem dX8_layRow_14 : decode cX8_layRow 14 = .ok (.getfield 158, 3) := by decide +kernel
theorem dX8_layRow_17 : decode cX8_layRow 17 = .ok (.if_icmp .ge 100, 3) := by decide +kernel
theorem dX8_layRow_20 : decode cX8_layRow 20 = .ok (.iload 5, 2) := by decide +kernel
theorem dX8_layRow_22 : decode cX8_layRow 22 = .ok (.aload_n 0, 1) := by decide +kernel
theorem dX8_layRow_23 : decode cX8_layRow 23 = .ok (.getfield 158, 3) := by decide +kernel
theorem dX8_layRow_26 : decode cX8_layRow 26 = .ok (.iload 6, 2) := by decide +kernel
theorem dX8_layRow_28 : decode cX8_layRow 28 = .ok (.isub, 1) := by decide +kernel
theorem dX8_layRow_29 : decode cX8_layRow 29 = .ok (.idiv, 1) := by decide +kernel
theorem dX8_layRow_30 : decode cX8_layRow 30 = .ok (.istore 5, 2) := by decide +kernel
theorem dX8_layRow_32 : decode cX8_layRow 32 = .ok (.iload 4, 2) := by decide +kernel
theorem dX8_layRow_34 : decode cX8_layRow 34 = .ok (.iload 5, 2) := by decide +kernel
theorem dX8_layRow_36 : decode cX8_layRow 36 = .ok (.idiv, 1) := by decide +kernel
theorem dX8_layRow_37 : decode cX8_layRow 37 = .ok (.istore 7, 2) := by decide +kernel
theorem dX8_layRow_39 : decode cX8_layRow 39 = .ok (.iload 4, 2) := by decide +kernel
theorem dX8_layRow_41 : decode cX8_layRow 41 = .ok (.iload 5, 2) := by decide +kernel
theorem dX8_layRow_43 : decode cX8_layRow 43 = .ok (.irem, 1) := by decide +kernel
theorem dX8_layRow_44 : decode cX8_layRow 44 = .ok (.istore 4, 2) := by decide +kernel
theorem dX8_layRow_46 : decode cX8_layRow 46 = .ok (.iconst 0, 1) := by decide +kernel
theorem dX8_layRow_47 : decode cX8_layRow 47 = .ok (.istore 8, 2) := by decide +kernel
theorem dX8_layRow_49 : decode cX8_layRow 49 = .ok (.iload_n 3, 1) := by decide +kernel
theorem dX8_layRow_50 : decode cX8_layRow 50 = .ok (.iload 8, 2) := by decide +kernel
theorem dX8_layRow_52 : decode cX8_layRow 52 = .ok (.ishr, 1) := by decide +kernel
theorem dX8_layRow_53 : decode cX8_layRow 53 = .ok (.iconst 1, 1) := by decide +kernel
theorem dX8_layRow_54 : decode cX8_layRow 54 = .ok (.iand, 1) := by decide +kernel
theorem dX8_layRow_55 : decode cX8_layRow 55 = .ok (.iconst 1, 1) := by decide +kernel
theorem dX8_layRow_56 : decode cX8_layRow 56 = .ok (.if_icmp .eq 8, 3) := by decide +kernel
theorem dX8_layRow_59 : decode cX8_layRow 59 = .ok (.iload 7, 2) := by decide +kernel
theorem dX8_layRow_61 : decode cX8_layRow 61 = .ok (.ifCond .le 29, 3) := by decide +kernel
theorem dX8_layRow_64 : decode cX8_layRow 64 = .ok (.iload 7, 2) := by decide +kernel
theorem dX8_layRow_66 : decode cX8_layRow 66 = .ok (.iload_n 3, 1) := by decide +kernel
theorem dX8_layRow_67 : decode cX8_layRow 67 = .ok (.iload 8, 2) := by decide +kernel
theorem dX8_layRow_69 : decode cX8_layRow 69 = .ok (.ishr, 1) := by decide +kernel
theorem dX8_layRow_70 : decode cX8_layRow 70 = .ok (.iconst 1, 1) := by decide +kernel
theorem dX8_layRow_71 : decode cX8_layRow 71 = .ok (.iand, 1) := by decide +kernel
theorem dX8_layRow_72 : decode cX8_layRow 72 = .ok (.iconst 1, 1) := by decide +kernel
theorem dX8_layRow_73 : decode cX8_layRow 73 = .ok (.if_icmp .ne 7, 3) := by decide +kernel
theorem dX8_layRow_76 : decode cX8_layRow 76 = .ok (.iconst 0, 1) := by decide +kernel
theorem dX8_layRow_77 : decode cX8_layRow 77 = .ok (.goto 4, 3) := by decide +kernel
theorem dX8_layRow_80 : decode cX8_layRow 80 = .ok (.iconst 1, 1) := by decide +kernel
theorem dX8_layRow_81 : decode cX8_layRow 81 = .ok (.isub, 1) := by decide +kernel
theorem dX8_layRow_82 : decode cX8_layRow 82 = .ok (.istore 7, 2) := by decide +kernel
theorem dX8_layRow_84 : decode cX8_layRow 84 = .ok (.iinc 8 1, 3) := by decide +kernel
theorem dX8_layRow_87 : decode cX8_layRow 87 = .ok (.goto (-38), 3) := by decide +kernel
theorem dX8_layRow_90 : decode cX8_layRow 90 = .ok (.iload_n 3, 1) := by decide +kernel
theorem dX8_layRow_91 : decode cX8_layRow 91 = .ok (.iconst 1, 1) := by decide +kernel
theorem dX8_layRow_92 : decode cX8_layRow 92 = .ok (.iload 8, 2) := by decide +kernel
theorem dX8_layRow_94 : decode cX8_layRow 94 = .ok (.ishl, 1) := by decide +kernel
theorem dX8_layRow_95 : decode cX8_layRow 95 = .ok (.ior, 1) := by decide +kernel
theorem dX8_layRow_96 : decode cX8_layRow 96 = .ok (.istore_n 3, 1) := by decide +kernel
theorem dX8_layRow_97 : decode cX8_layRow 97 = .ok (.aload_n 0, 1) := by decide +kernel
theorem dX8_layRow_98 : decode cX8_layRow 98 = .ok (.getfield 38, 3) := by decide +kernel
theorem dX8_layRow_101 : decode cX8_layRow 101 = .ok (.iload 6, 2) := by decide +kernel
theorem dX8_layRow_103 : decode cX8_layRow 103 = .ok (.aload_n 0, 1) := by decide +kernel
theorem dX8_layRow_104 : decode cX8_layRow 104 = .ok (.getfield 35, 3) := by decide +kernel
theorem dX8_layRow_107 : decode cX8_layRow 107 = .ok (.iload 8, 2) := by decide +kernel
theorem dX8_layRow_109 : decode cX8_layRow 109 = .ok (.iaload, 1) := by decide +kernel
theorem dX8_layRow_110 : decode cX8_layRow 110 = .ok (.iastore, 1) := by decide +kernel
theorem dX8_layRow_111 : decode cX8_layRow 111 = .ok (.iinc 6 1, 3) := by decide +kernel
theorem dX8_layRow_114 : decode cX8_layRow 114 = .ok (.goto (-103), 3) := by decide +kernel
theorem dX8_layRow_117 : decode cX8_layRow 117 = .ok (.return_, 1) := by decide +kernel
theorem dX8_tries_0 : decode cX8_tries 0 = .ok (.iconst 0, 1) := by decide +kernel
theorem dX8_tries_1 : decode cX8_tries 1 = .ok (.istore 4, 2) := by decide +kernel
theorem dX8_tries_3 : decode cX8_tries 3 = .ok (.iconst 0, 1) := by decide +kernel
theorem dX8_tries_4 : decode cX8_tries 4 = .ok (.istore 5, 2) := by decide +kernel
theorem dX8_tries_6 : decode cX8_tries 6 = .ok (.iload 5, 2) := by decide +kernel
theorem dX8_tries_8 : decode cX8_tries 8 = .ok (.iload_n 3, 1) := by decide +kernel
theorem dX8_tries_9 : decode cX8_tries 9 = .ok (.if_icmp .ge 124, 3) := by decide +kernel
theorem dX8_tries_12 : decode cX8_tries 12 = .ok (.aload_n 0, 1) := by decide +kernel
theorem dX8_tries_13 : decode cX8_tries 13 = .ok (.getfield 44, 3) := by decide +kernel
theorem dX8_tries_16 : decode cX8_tries 16 = .ok (.iload_n 1, 1) := by decide +kernel
theorem dX8_tries_17 : decode cX8_tries 17 = .ok (.iaload, 1) := by decide +kernel
theorem dX8_tries_18 : decode cX8_tries 18 = .ok (.aload_n 0, 1) := by decide +kernel
theorem dX8_tries_19 : decode cX8_tries 19 = .ok (.iload_n 1, 1) := by decide +kernel
theorem dX8_tries_20 : decode cX8_tries 20 = .ok (.iconst 2, 1) := by decide +kernel
theorem dX8_tries_21 : decode cX8_tries 21 = .ok (.invokevirtual 62, 3) := by decide +kernel
theorem dX8_tries_24 : decode cX8_tries 24 = .ok (.if_icmp .ge 109, 3) := by decide +kernel
theorem dX8_tries_27 : decode cX8_tries 27 = .ok (.aload_n 0, 1) := by decide +kernel
theorem dX8_tries_28 : decode cX8_tries 28 = .ok (.iload_n 1, 1) := by decide +kernel
theorem dX8_tries_29 : decode cX8_tries 29 = .ok (.aload_n 0, 1) := by decide +kernel
theorem dX8_tries_30 : decode cX8_tries 30 = .ok (.getfield 44, 3) := by decide +kernel
theorem dX8_tries_33 : decode cX8_tries 33 = .ok (.iload_n 1, 1) := by decide +kernel
theorem dX8_tries_34 : decode cX8_tries 34 = .ok (.iaload, 1) := by decide +kernel
theorem dX8_tries_35 : decode cX8_tries 35 = .ok (.iload_n 2, 1) := by decide +kernel
theorem dX8_tries_36 : decode cX8_tries 36 = .ok (.invokevirtual 128, 3) := by decide +kernel
theorem dX8_tries_39 : decode cX8_tries 39 = .ok (.istore 6, 2) := by decide +kernel
theorem dX8_tries_41 : decode cX8_tries 41 = .ok (.aload_n 0, 1) := by decide +kernel
theorem dX8_tries_42 : decode cX8_tries 42 = .ok (.getfield 44, 3) := by decide +kernel
theorem dX8_tries_45 : decode cX8_tries 45 = .ok (.iload_n 1, 1) := by decide +kernel
theorem dX8_tries_46 : decode cX8_tries 46 = .ok (.dup2, 1) := by decide +kernel
theorem dX8_tries_47 : decode cX8_tries 47 = .ok (.iaload, 1) := by decide +kernel
theorem dX8_tries_48 : decode cX8_tries 48 = .ok (.iload 6, 2) := by decide +kernel
theorem dX8_tries_50 : decode cX8_tries 50 = .ok (.iadd, 1) := by decide +kernel
theorem dX8_tries_51 : decode cX8_tries 51 = .ok (.iastore, 1) := by decide +kernel
theorem dX8_tries_52 : decode cX8_tries 52 = .ok (.iconst 0, 1) := by decide +kernel
theorem dX8_tries_53 : decode cX8_tries 53 = .ok (.istore 7, 2) := by decide +kernel
theorem dX8_tries_55 : decode cX8_tries 55 = .ok (.iload 7, 2) := by decide +kernel
theorem dX8_tries_57 : decode cX8_tries 57 = .ok (.aload_n 0, 1) := by decide +kernel
theorem dX8_tries_58 : decode cX8_tries 58 = .ok (.getfield 7, 3) := by decide +kernel
theorem dX8_tries_61 : decode cX8_tries 61 = .ok (.bipush 19, 2) := by decide +kernel
theorem dX8_tries_63 : decode cX8_tries 63 = .ok (.iaload, 1) := by decide +kernel
theorem dX8_tries_64 : decode cX8_tries 64 = .ok (.if_icmp .ge 63, 3) := by decide +kernel
theorem dX8_tries_67 : decode cX8_tries 67 = .ok (.aload_n 0, 1) := by decide +kernel
theorem dX8_tries_68 : decode cX8_tries 68 = .ok (.iload_n 1, 1) := by decide +kernel
theorem dX8_tries_69 : decode cX8_tries 69 = .ok (.iload 7, 2) := by decide +kernel
theorem dX8_tries_71 : decode cX8_tries 71 = .ok (.invokevirtual 100, 3) := by decide +kernel
theorem dX8_tries_74 : decode cX8_tries 74 = .ok (.ifCond .eq 25, 3) := by decide +kernel
theorem dX8_tries_77 : decode cX8_tries 77 = .ok (.aload_n 0, 1) := by decide +kernel
theorem dX8_tries_78 : decode cX8_tries 78 = .ok (.iload 6, 2) := by decide +kernel
theorem dX8_tries_80 : decode cX8_tries 80 = .ok (.aload_n 0, 1) := by decide +kernel
theorem dX8_tries_81 : decode cX8_tries 81 = .ok (.getfield 44, 3) := by decide +kernel
theorem dX8_tries_84 : decode cX8_tries 84 = .ok (.iload_n 1, 1) := by decide +kernel
theorem dX8_tries_85 : decode cX8_tries 85 = .ok (.iaload, 1) := by decide +kernel
theorem dX8_tries_86 : decode cX8_tries 86 = .ok (.aload_n 0, 1) := by decide +kernel
theorem dX8_tries_87 : decode cX8_tries 87 = .ok (.getfield 44, 3) := by decide +kernel
theorem dX8_tries_90 : decode cX8_tries 90 = .ok (.iload 7, 2) := by decide +kernel
theorem dX8_tries_92 : decode cX8_tries 92 = .ok (.iaload, 1) := by decide +kernel
theorem dX8_tries_93 : decode cX8_tries 93 = .ok (.invokevirtual 124, 3) := by decide +kernel
theorem dX8_tries_96 : decode cX8_tries 96 = .ok (.goto 4, 3) := by decide +kernel
theorem dX8_tries_99 : decode cX8_tries 99 = .ok (.iconst 0, 1) := by decide +kernel
theorem dX8_tries_100 : decode cX8_tries 100 = .ok (.istore 8, 2) := by decide +kernel
theorem dX8_tries_102 : decode cX8_tries 102 = .ok (.aload_n 0, 1) := by decide +kernel
theorem dX8_tries_103 : decode cX8_tries 103 = .ok (.getfield 44, 3) := by decide +kernel
theorem dX8_tries_106 : decode cX8_tries 106 = .ok (.iload 7, 2) := by decide +kernel
theorem dX8_tries_108 : decode cX8_tries 108 = .ok (.dup2, 1) := by decide +kernel
theorem dX8_tries_109 : decode cX8_tries 109 = .ok (.iaload, 1) := by decide +kernel
theorem dX8_tries_110 : decode cX8_tries 110 = .ok (.iload 8, 2) := by decide +kernel
theorem dX8_tries_112 : decode cX8_tries 112 = .ok (.isub, 1) := by decide +kernel
theorem dX8_tries_113 : decode cX8_tries 113 = .ok (.iastore, 1) := by decide +kernel
theorem dX8_tries_114 : decode cX8_tries 114 = .ok (.iload 4, 2) := by decide +kernel
theorem dX8_tries_116 : decode cX8_tries 116 = .ok (.iload 8, 2) := by decide +kernel
theorem dX8_tries_118 : decode cX8_tries 118 = .ok (.iadd, 1) := by decide +kernel
theorem dX8_tries_119 : decode cX8_tries 119 = .ok (.istore 4, 2) := by decide +kernel
theorem dX8_tries_121 : decode cX8_tries 121 = .ok (.iinc 7 1, 3) := by decide +kernel
theorem dX8_tries_124 : decode cX8_tries 124 = .ok (.goto (-69), 3) := by decide +kernel
theorem dX8_tries_127 : decode cX8_tries 127 = .ok (.iinc 5 1, 3) := by decide +kernel
theorem dX8_tries_130 : decode cX8_tries 130 = .ok (.goto (-124), 3) := by decide +kernel
theorem dX8_tries_133 : decode cX8_tries 133 = .ok (.iload 4, 2) := by decide +kernel
theorem dX8_tries_135 : decode cX8_tries 135 = .ok (.ireturn, 1) := by decide +kernel
theorem dX8_findOrder_0 : decode cX8_findOrder 0 = .ok (.iconst 1, 1) := by decide +kernel
theorem dX8_findOrder_1 : decode cX8_findOrder 1 = .ok (.istore_n 3, 1) := by decide +kernel
theorem dX8_findOrder_2 : decode cX8_findOrder 2 = .ok (.iconst 2, 1) := by decide +kernel
theorem dX8_findOrder_3 : decode cX8_findOrder 3 = .ok (.istore 4, 2) := by decide +kernel
theorem dX8_findOrder_5 : decode cX8_findOrder 5 = .ok (.iload 4, 2) := by decide +kernel
theorem dX8_findOrder_7 : decode cX8_findOrder 7 = .ok (.aload_n 0, 1) := by decide +kernel
theorem dX8_findOrder_8 : decode cX8_findOrder 8 = .ok (.getfield 158, 3) := by decide +kernel
theorem dX8_findOrder_11 : decode cX8_findOrder 11 = .ok (.if_icmp .gt 14, 3) := by decide +kernel
theorem dX8_findOrder_14 : decode cX8_findOrder 14 = .ok (.iload_n 3, 1) := by decide +kernel
theorem dX8_findOrder_15 : decode cX8_findOrder 15 = .ok (.iload 4, 2) := by decide +kernel
theorem dX8_findOrder_17 : decode cX8_findOrder 17 = .ok (.imul, 1) := by decide +kernel
theorem dX8_findOrder_18 : decode cX8_findOrder 18 = .ok (.istore_n 3, 1) := by decide +kernel
theorem dX8_findOrder_19 : decode cX8_findOrder 19 = .ok (.iinc 4 1, 3) := by decide +kernel
theorem dX8_findOrder_22 : decode cX8_findOrder 22 = .ok (.goto (-17), 3) := by decide +kernel
theorem dX8_findOrder_25 : decode cX8_findOrder 25 = .ok (.iconst 0, 1) := by decide +kernel
theorem dX8_findOrder_26 : decode cX8_findOrder 26 = .ok (.istore 4, 2) := by decide +kernel
theorem dX8_findOrder_28 : decode cX8_findOrder 28 = .ok (.iload 4, 2) := by decide +kernel
theorem dX8_findOrder_30 : decode cX8_findOrder 30 = .ok (.iload_n 3, 1) := by decide +kernel
theorem dX8_findOrder_31 : decode cX8_findOrder 31 = .ok (.if_icmp .ge 142, 3) := by decide +kernel
theorem dX8_findOrder_34 : decode cX8_findOrder 34 = .ok (.aload_n 0, 1) := by decide +kernel
theorem dX8_findOrder_35 : decode cX8_findOrder 35 = .ok (.iload 4, 2) := by decide +kernel
theorem dX8_findOrder_37 : decode cX8_findOrder 37 = .ok (.iload_n 3, 1) := by decide +kernel
theorem dX8_findOrder_38 : decode cX8_findOrder 38 = .ok (.invokevirtual 161, 3) := by decide +kernel
theorem dX8_findOrder_41 : decode cX8_findOrder 41 = .ok (.iconst 0, 1) := by decide +kernel
theorem dX8_findOrder_42 : decode cX8_findOrder 42 = .ok (.istore 5, 2) := by decide +kernel
theorem dX8_findOrder_44 : decode cX8_findOrder 44 = .ok (.iload 5, 2) := by decide +kernel
theorem dX8_findOrder_46 : decode cX8_findOrder 46 = .ok (.aload_n 0, 1) := by decide +kernel
theorem dX8_findOrder_47 : decode cX8_findOrder 47 = .ok (.getfield 7, 3) := by decide +kernel
theorem dX8_findOrder_50 : decode cX8_findOrder 50 = .ok (.bipush 19, 2) := by decide +kernel
theorem dX8_findOrder_52 : decode cX8_findOrder 52 = .ok (.iaload, 1) := by decide +kernel
theorem dX8_findOrder_53 : decode cX8_findOrder 53 = .ok (.if_icmp .ge 23, 3) := by decide +kernel
theorem dX8_findOrder_56 : decode cX8_findOrder 56 = .ok (.aload_n 0, 1) := by decide +kernel
theorem dX8_findOrder_57 : decode cX8_findOrder 57 = .ok (.getfield 44, 3) := by decide +kernel
theorem dX8_findOrder_60 : decode cX8_findOrder 60 = .ok (.iload 5, 2) := by decide +kernel
theorem dX8_findOrder_62 : decode cX8_findOrder 62 = .ok (.aload_n 0, 1) := by decide +kernel
theorem dX8_findOrder_63 : decode cX8_findOrder 63 = .ok (.iload 5, 2) := by decide +kernel
theorem dX8_findOrder_65 : decode cX8_findOrder 65 = .ok (.iconst 3, 1) := by decide +kernel
theorem dX8_findOrder_66 : decode cX8_findOrder 66 = .ok (.invokevirtual 62, 3) := by decide +kernel
theorem dX8_findOrder_69 : decode cX8_findOrder 69 = .ok (.iastore, 1) := by decide +kernel
theorem dX8_findOrder_70 : decode cX8_findOrder 70 = .ok (.iinc 5 1, 3) := by decide +kernel
theorem dX8_findOrder_73 : decode cX8_findOrder 73 = .ok (.goto (-29), 3) := by decide +kernel
theorem dX8_findOrder_76 : decode cX8_findOrder 76 = .ok (.iconst 0, 1) := by decide +kernel
theorem dX8_findOrder_77 : decode cX8_findOrder 77 = .ok (.istore 5, 2) := by decide +kernel
theorem dX8_findOrder_79 : decode cX8_findOrder 79 = .ok (.iconst 0, 1) := by decide +kernel
theorem dX8_findOrder_80 : decode cX8_findOrder 80 = .ok (.istore 6, 2) := by decide +kernel
theorem dX8_findOrder_82 : decode cX8_findOrder 82 = .ok (.iload 6, 2) := by decide +kernel
theorem dX8_findOrder_84 : decode cX8_findOrder 84 = .ok (.aload_n 0, 1) := by decide +kernel
theorem dX8_findOrder_85 : decode cX8_findOrder 85 = .ok (.getfield 158, 3) := by decide +kernel
theorem dX8_findOrder_88 : decode cX8_findOrder 88 = .ok (.if_icmp .ge 27, 3) := by decide +kernel
theorem dX8_findOrder_91 : decode cX8_findOrder 91 = .ok (.iload 5, 2) := by decide +kernel
theorem dX8_findOrder_93 : decode cX8_findOrder 93 = .ok (.aload_n 0, 1) := by decide +kernel
theorem dX8_findOrder_94 : decode cX8_findOrder 94 = .ok (.aload_n 0, 1) := by decide +kernel
theorem dX8_findOrder_95 : decode cX8_findOrder 95 = .ok (.getfield 38, 3) := by decide +kernel
theorem dX8_findOrder_98 : decode cX8_findOrder 98 = .ok (.iload 6, 2) := by decide +kernel
theorem dX8_findOrder_100 : decode cX8_findOrder 100 = .ok (.iaload, 1) := by decide +kernel
theorem dX8_findOrder_101 : decode cX8_findOrder 101 = .ok (.iload_n 1, 1) := by decide +kernel
theorem dX8_findOrder_102 : decode cX8_findOrder 102 = .ok (.iload_n 2, 1) := by decide +kernel
theorem dX8_findOrder_103 : decode cX8_findOrder 103 = .ok (.invokevirtual 164, 3) := by decide +kernel
theorem dX8_findOrder_106 : decode cX8_findOrder 106 = .ok (.iadd, 1) := by decide +kernel
theorem dX8_findOrder_107 : decode cX8_findOrder 107 = .ok (.istore 5, 2) := by decide +kernel
theorem dX8_findOrder_109 : decode cX8_findOrder 109 = .ok (.iinc 6 1, 3) := by decide +kernel
theorem dX8_findOrder_112 : decode cX8_findOrder 112 = .ok (.goto (-30), 3) := by decide +kernel
theorem dX8_findOrder_115 : decode cX8_findOrder 115 = .ok (.iload 4, 2) := by decide +kernel
theorem dX8_findOrder_117 : decode cX8_findOrder 117 = .ok (.ifCond .eq 12, 3) := by decide +kernel
theorem dX8_findOrder_120 : decode cX8_findOrder 120 = .ok (.iload 5, 2) := by decide +kernel
theorem dX8_findOrder_122 : decode cX8_findOrder 122 = .ok (.aload_n 0, 1) := by decide +kernel
theorem dX8_findOrder_123 : decode cX8_findOrder 123 = .ok (.getfield 167, 3) := by decide +kernel
theorem dX8_findOrder_126 : decode cX8_findOrder 126 = .ok (.if_icmp .ge 41, 3) := by decide +kernel
theorem dX8_findOrder_129 : decode cX8_findOrder 129 = .ok (.aload_n 0, 1) := by decide +kernel
theorem dX8_findOrder_130 : decode cX8_findOrder 130 = .ok (.iload 5, 2) := by decide +kernel
theorem dX8_findOrder_132 : decode cX8_findOrder 132 = .ok (.putfield 167, 3) := by decide +kernel
theorem dX8_findOrder_135 : decode cX8_findOrder 135 = .ok (.iconst 0, 1) := by decide +kernel
theorem dX8_findOrder_136 : decode cX8_findOrder 136 = .ok (.istore 6, 2) := by decide +kernel
theorem dX8_findOrder_138 : decode cX8_findOrder 138 = .ok (.iload 6, 2) := by decide +kernel
theorem dX8_findOrder_140 : decode cX8_findOrder 140 = .ok (.aload_n 0, 1) := by decide +kernel
theorem dX8_findOrder_141 : decode cX8_findOrder 141 = .ok (.getfield 158, 3) := by decide +kernel
theorem dX8_findOrder_144 : decode cX8_findOrder 144 = .ok (.if_icmp .ge 23, 3) := by decide +kernel
theorem dX8_findOrder_147 : decode cX8_findOrder 147 = .ok (.aload_n 0, 1) := by decide +kernel
theorem dX8_findOrder_148 : decode cX8_findOrder 148 = .ok (.getfield 41, 3) := by decide +kernel
theorem dX8_findOrder_151 : decode cX8_findOrder 151 = .ok (.iload 6, 2) := by decide +kernel
theorem dX8_findOrder_153 : decode cX8_findOrder 153 = .ok (.aload_n 0, 1) := by decide +kernel
theorem dX8_findOrder_154 : decode cX8_findOrder 154 = .ok (.getfield 38, 3) := by decide +kernel
theorem dX8_findOrder_157 : decode cX8_findOrder 157 = .ok (.iload 6, 2) := by decide +kernel
theorem dX8_findOrder_159 : decode cX8_findOrder 159 = .ok (.iaload, 1) := by decide +kernel
theorem dX8_findOrder_160 : decode cX8_findOrder 160 = .ok (.iastore, 1) := by decide +kernel
theorem dX8_findOrder_161 : decode cX8_findOrder 161 = .ok (.iinc 6 1, 3) := by decide +kernel
theorem dX8_findOrder_164 : decode cX8_findOrder 164 = .ok (.goto (-26), 3) := by decide +kernel
theorem dX8_findOrder_167 : decode cX8_findOrder 167 = .ok (.iinc 4 1, 3) := by decide +kernel
theorem dX8_findOrder_170 : decode cX8_findOrder 170 = .ok (.goto (-142), 3) := by decide +kernel
theorem dX8_findOrder_173 : decode cX8_findOrder 173 = .ok (.return_, 1) := by decide +kernel
theorem dX8_order_0 : decode cX8_order 0 = .ok (.iload_n 1, 1) := by decide +kernel
theorem dX8_order_1 : decode cX8_order 1 = .ok (.invokestatic 139, 3) := by decide +kernel
theorem dX8_order_4 : decode cX8_order 4 = .ok (.ifCond .eq 17, 3) := by decide +kernel
theorem dX8_order_7 : decode cX8_order 7 = .ok (.iload_n 2, 1) := by decide +kernel
theorem dX8_order_8 : decode cX8_order 8 = .ok (.iconst 1, 1) := by decide +kernel
theorem dX8_order_9 : decode cX8_order 9 = .ok (.bipush 20, 2) := by decide +kernel
theorem dX8_order_11 : decode cX8_order 11 = .ok (.invokestatic 51, 3) := by decide +kernel
theorem dX8_order_14 : decode cX8_order 14 = .ok (.ifCond .eq 7, 3) := by decide +kernel
theorem dX8_order_17 : decode cX8_order 17 = .ok (.iload_n 3, 1) := by decide +kernel
theorem dX8_order_18 : decode cX8_order 18 = .ok (.ifCond .ge 5, 3) := by decide +kernel
theorem dX8_order_21 : decode cX8_order 21 = .ok (.iconst (-1), 1) := by decide +kernel
theorem dX8_order_22 : decode cX8_order 22 = .ok (.ireturn, 1) := by decide +kernel
theorem dX8_order_23 : decode cX8_order 23 = .ok (.aload_n 0, 1) := by decide +kernel
theorem dX8_order_24 : decode cX8_order 24 = .ok (.invokevirtual 170, 3) := by decide +kernel
theorem dX8_order_27 : decode cX8_order 27 = .ok (.aload_n 0, 1) := by decide +kernel
theorem dX8_order_28 : decode cX8_order 28 = .ok (.getfield 158, 3) := by decide +kernel
theorem dX8_order_31 : decode cX8_order 31 = .ok (.iconst 5, 1) := by decide +kernel
theorem dX8_order_32 : decode cX8_order 32 = .ok (.if_icmp .le 6, 3) := by decide +kernel
theorem dX8_order_35 : decode cX8_order 35 = .ok (.bipush (-2), 2) := by decide +kernel
theorem dX8_order_37 : decode cX8_order 37 = .ok (.ireturn, 1) := by decide +kernel
theorem dX8_order_38 : decode cX8_order 38 = .ok (.iload_n 3, 1) := by decide +kernel
theorem dX8_order_39 : decode cX8_order 39 = .ok (.aload_n 0, 1) := by decide +kernel
theorem dX8_order_40 : decode cX8_order 40 = .ok (.getfield 158, 3) := by decide +kernel
theorem dX8_order_43 : decode cX8_order 43 = .ok (.if_icmp .lt 6, 3) := by decide +kernel
theorem dX8_order_46 : decode cX8_order 46 = .ok (.bipush (-4), 2) := by decide +kernel
theorem dX8_order_48 : decode cX8_order 48 = .ok (.ireturn, 1) := by decide +kernel
theorem dX8_order_49 : decode cX8_order 49 = .ok (.aload_n 0, 1) := by decide +kernel
theorem dX8_order_50 : decode cX8_order 50 = .ok (.iload_n 1, 1) := by decide +kernel
theorem dX8_order_51 : decode cX8_order 51 = .ok (.iload_n 2, 1) := by decide +kernel
theorem dX8_order_52 : decode cX8_order 52 = .ok (.invokevirtual 173, 3) := by decide +kernel
theorem dX8_order_55 : decode cX8_order 55 = .ok (.aload_n 0, 1) := by decide +kernel
theorem dX8_order_56 : decode cX8_order 56 = .ok (.getfield 41, 3) := by decide +kernel
theorem dX8_order_59 : decode cX8_order 59 = .ok (.iload_n 3, 1) := by decide +kernel
theorem dX8_order_60 : decode cX8_order 60 = .ok (.iaload, 1) := by decide +kernel
theorem dX8_order_61 : decode cX8_order 61 = .ok (.ireturn, 1) := by decide +kernel
theorem dX8_leastLift_0 : decode cX8_leastLift 0 = .ok (.iload_n 1, 1) := by decide +kernel
theorem dX8_leastLift_1 : decode cX8_leastLift 1 = .ok (.invokestatic 139, 3) := by decide +kernel
theorem dX8_leastLift_4 : decode cX8_leastLift 4 = .ok (.ifCond .eq 13, 3) := by decide +kernel
theorem dX8_leastLift_7 : decode cX8_leastLift 7 = .ok (.iload_n 2, 1) := by decide +kernel
theorem dX8_leastLift_8 : decode cX8_leastLift 8 = .ok (.iconst 1, 1) := by decide +kernel
theorem dX8_leastLift_9 : decode cX8_leastLift 9 = .ok (.bipush 20, 2) := by decide +kernel
theorem dX8_leastLift_11 : decode cX8_leastLift 11 = .ok (.invokestatic 51, 3) := by decide +kernel
theorem dX8_leastLift_14 : decode cX8_leastLift 14 = .ok (.ifCond .ne 5, 3) := by decide +kernel
theorem dX8_leastLift_17 : decode cX8_leastLift 17 = .ok (.iconst (-1), 1) := by decide +kernel
theorem dX8_leastLift_18 : decode cX8_leastLift 18 = .ok (.ireturn, 1) := by decide +kernel
theorem dX8_leastLift_19 : decode cX8_leastLift 19 = .ok (.aload_n 0, 1) := by decide +kernel
theorem dX8_leastLift_20 : decode cX8_leastLift 20 = .ok (.invokevirtual 170, 3) := by decide +kernel
theorem dX8_leastLift_23 : decode cX8_leastLift 23 = .ok (.aload_n 0, 1) := by decide +kernel
theorem dX8_leastLift_24 : decode cX8_leastLift 24 = .ok (.getfield 158, 3) := by decide +kernel
theorem dX8_leastLift_27 : decode cX8_leastLift 27 = .ok (.iconst 5, 1) := by decide +kernel
theorem dX8_leastLift_28 : decode cX8_leastLift 28 = .ok (.if_icmp .le 6, 3) := by decide +kernel
theorem dX8_leastLift_31 : decode cX8_leastLift 31 = .ok (.bipush (-2), 2) := by decide +kernel
theorem dX8_leastLift_33 : decode cX8_leastLift 33 = .ok (.ireturn, 1) := by decide +kernel
theorem dX8_leastLift_34 : decode cX8_leastLift 34 = .ok (.aload_n 0, 1) := by decide +kernel
theorem dX8_leastLift_35 : decode cX8_leastLift 35 = .ok (.iload_n 1, 1) := by decide +kernel
theorem dX8_leastLift_36 : decode cX8_leastLift 36 = .ok (.iload_n 2, 1) := by decide +kernel
theorem dX8_leastLift_37 : decode cX8_leastLift 37 = .ok (.invokevirtual 173, 3) := by decide +kernel
theorem dX8_leastLift_40 : decode cX8_leastLift 40 = .ok (.aload_n 0, 1) := by decide +kernel
theorem dX8_leastLift_41 : decode cX8_leastLift 41 = .ok (.getfield 167, 3) := by decide +kernel
theorem dX8_leastLift_44 : decode cX8_leastLift 44 = .ok (.ireturn, 1) := by decide +kernel
theorem dX8_type_0 : decode cX8_type 0 = .ok (.iload_n 1, 1) := by decide +kernel
theorem dX8_type_1 : decode cX8_type 1 = .ok (.bipush 32, 2) := by decide +kernel
theorem dX8_type_3 : decode cX8_type 3 = .ok (.bipush 126, 2) := by decide +kernel
theorem dX8_type_5 : decode cX8_type 5 = .ok (.invokestatic 51, 3) := by decide +kernel
theorem dX8_type_8 : decode cX8_type 8 = .ok (.ifCond .ne 5, 3) := by decide +kernel
theorem dX8_type_11 : decode cX8_type 11 = .ok (.iconst (-1), 1) := by decide +kernel
theorem dX8_type_12 : decode cX8_type 12 = .ok (.ireturn, 1) := by decide +kernel
theorem dX8_type_13 : decode cX8_type 13 = .ok (.aload_n 0, 1) := by decide +kernel
theorem dX8_type_14 : decode cX8_type 14 = .ok (.getfield 81, 3) := by decide +kernel
theorem dX8_type_17 : decode cX8_type 17 = .ok (.bipush 80, 2) := by decide +kernel
theorem dX8_type_19 : decode cX8_type 19 = .ok (.if_icmp .ne 6, 3) := by decide +kernel
theorem dX8_type_22 : decode cX8_type 22 = .ok (.bipush (-3), 2) := by decide +kernel
theorem dX8_type_24 : decode cX8_type 24 = .ok (.ireturn, 1) := by decide +kernel
theorem dX8_type_25 : decode cX8_type 25 = .ok (.aload_n 0, 1) := by decide +kernel
theorem dX8_type_26 : decode cX8_type 26 = .ok (.getfield 23, 3) := by decide +kernel
theorem dX8_type_29 : decode cX8_type 29 = .ok (.aload_n 0, 1) := by decide +kernel
theorem dX8_type_30 : decode cX8_type 30 = .ok (.getfield 81, 3) := by decide +kernel
theorem dX8_type_33 : decode cX8_type 33 = .ok (.iload_n 1, 1) := by decide +kernel
theorem dX8_type_34 : decode cX8_type 34 = .ok (.iastore, 1) := by decide +kernel
theorem dX8_type_35 : decode cX8_type 35 = .ok (.aload_n 0, 1) := by decide +kernel
theorem dX8_type_36 : decode cX8_type 36 = .ok (.dup, 1) := by decide +kernel
theorem dX8_type_37 : decode cX8_type 37 = .ok (.getfield 81, 3) := by decide +kernel
theorem dX8_type_40 : decode cX8_type 40 = .ok (.iconst 1, 1) := by decide +kernel
theorem dX8_type_41 : decode cX8_type 41 = .ok (.iadd, 1) := by decide +kernel
theorem dX8_type_42 : decode cX8_type 42 = .ok (.putfield 81, 3) := by decide +kernel
theorem dX8_type_45 : decode cX8_type 45 = .ok (.aload_n 0, 1) := by decide +kernel
theorem dX8_type_46 : decode cX8_type 46 = .ok (.getfield 81, 3) := by decide +kernel
theorem dX8_type_49 : decode cX8_type 49 = .ok (.ireturn, 1) := by decide +kernel
theorem dX8_clearText_0 : decode cX8_clearText 0 = .ok (.aload_n 0, 1) := by decide +kernel
theorem dX8_clearText_1 : decode cX8_clearText 1 = .ok (.getfield 81, 3) := by decide +kernel
theorem dX8_clearText_4 : decode cX8_clearText 4 = .ok (.istore_n 1, 1) := by decide +kernel
theorem dX8_clearText_5 : decode cX8_clearText 5 = .ok (.aload_n 0, 1) := by decide +kernel
theorem dX8_clearText_6 : decode cX8_clearText 6 = .ok (.iconst 0, 1) := by decide +kernel
theorem dX8_clearText_7 : decode cX8_clearText 7 = .ok (.putfield 81, 3) := by decide +kernel
theorem dX8_clearText_10 : decode cX8_clearText 10 = .ok (.iload_n 1, 1) := by decide +kernel
theorem dX8_clearText_11 : decode cX8_clearText 11 = .ok (.ireturn, 1) := by decide +kernel
theorem dX8_isDigit_0 : decode cX8_isDigit 0 = .ok (.aload_n 0, 1) := by decide +kernel
theorem dX8_isDigit_1 : decode cX8_isDigit 1 = .ok (.getfield 176, 3) := by decide +kernel
theorem dX8_isDigit_4 : decode cX8_isDigit 4 = .ok (.aload_n 0, 1) := by decide +kernel
theorem dX8_isDigit_5 : decode cX8_isDigit 5 = .ok (.getfield 81, 3) := by decide +kernel
theorem dX8_isDigit_8 : decode cX8_isDigit 8 = .ok (.if_icmp .ge 26, 3) := by decide +kernel
theorem dX8_isDigit_11 : decode cX8_isDigit 11 = .ok (.aload_n 0, 1) := by decide +kernel
theorem dX8_isDigit_12 : decode cX8_isDigit 12 = .ok (.getfield 23, 3) := by decide +kernel
theorem dX8_isDigit_15 : decode cX8_isDigit 15 = .ok (.aload_n 0, 1) := by decide +kernel
theorem dX8_isDigit_16 : decode cX8_isDigit 16 = .ok (.getfield 176, 3) := by decide +kernel
theorem dX8_isDigit_19 : decode cX8_isDigit 19 = .ok (.iaload, 1) := by decide +kernel
theorem dX8_isDigit_20 : decode cX8_isDigit 20 = .ok (.bipush 48, 2) := by decide +kernel
theorem dX8_isDigit_22 : decode cX8_isDigit 22 = .ok (.bipush 57, 2) := by decide +kernel
theorem dX8_isDigit_24 : decode cX8_isDigit 24 = .ok (.invokestatic 51, 3) := by decide +kernel
theorem dX8_isDigit_27 : decode cX8_isDigit 27 = .ok (.ifCond .eq 7, 3) := by decide +kernel
theorem dX8_isDigit_30 : decode cX8_isDigit 30 = .ok (.iconst 1, 1) := by decide +kernel
theorem dX8_isDigit_31 : decode cX8_isDigit 31 = .ok (.goto 4, 3) := by decide +kernel
theorem dX8_isDigit_34 : decode cX8_isDigit 34 = .ok (.iconst 0, 1) := by decide +kernel
theorem dX8_isDigit_35 : decode cX8_isDigit 35 = .ok (.ireturn, 1) := by decide +kernel
theorem dX8_digits_0 : decode cX8_digits 0 = .ok (.iconst 0, 1) := by decide +kernel
theorem dX8_digits_1 : decode cX8_digits 1 = .ok (.istore_n 3, 1) := by decide +kernel
theorem dX8_digits_2 : decode cX8_digits 2 = .ok (.iconst 0, 1) := by decide +kernel
theorem dX8_digits_3 : decode cX8_digits 3 = .ok (.istore 4, 2) := by decide +kernel
theorem dX8_digits_5 : decode cX8_digits 5 = .ok (.iload 4, 2) := by decide +kernel
theorem dX8_digits_7 : decode cX8_digits 7 = .ok (.iload_n 2, 1) := by decide +kernel
theorem dX8_digits_8 : decode cX8_digits 8 = .ok (.if_icmp .ge 44, 3) := by decide +kernel
theorem dX8_digits_11 : decode cX8_digits 11 = .ok (.aload_n 0, 1) := by decide +kernel
theorem dX8_digits_12 : decode cX8_digits 12 = .ok (.invokevirtual 179, 3) := by decide +kernel
theorem dX8_digits_15 : decode cX8_digits 15 = .ok (.ifCond .eq 37, 3) := by decide +kernel
theorem dX8_digits_18 : decode cX8_digits 18 = .ok (.bipush 10, 2) := by decide +kernel
theorem dX8_digits_20 : decode cX8_digits 20 = .ok (.iload_n 3, 1) := by decide +kernel
theorem dX8_digits_21 : decode cX8_digits 21 = .ok (.imul, 1) := by decide +kernel
theorem dX8_digits_22 : decode cX8_digits 22 = .ok (.aload_n 0, 1) := by decide +kernel
theorem dX8_digits_23 : decode cX8_digits 23 = .ok (.getfield 23, 3) := by decide +kernel
theorem dX8_digits_26 : decode cX8_digits 26 = .ok (.aload_n 0, 1) := by decide +kernel
theorem dX8_digits_27 : decode cX8_digits 27 = .ok (.getfield 176, 3) := by decide +kernel
theorem dX8_digits_30 : decode cX8_digits 30 = .ok (.iaload, 1) := by decide +kernel
theorem dX8_digits_31 : decode cX8_digits 31 = .ok (.iadd, 1) := by decide +kernel
theorem dX8_digits_32 : decode cX8_digits 32 = .ok (.bipush 48, 2) := by decide +kernel
theorem dX8_digits_34 : decode cX8_digits 34 = .ok (.isub, 1) := by decide +kernel
theorem dX8_digits_35 : decode cX8_digits 35 = .ok (.istore_n 3, 1) := by decide +kernel
theorem dX8_digits_36 : decode cX8_digits 36 = .ok (.iinc 4 1, 3) := by decide +kernel
theorem dX8_digits_39 : decode cX8_digits 39 = .ok (.aload_n 0, 1) := by decide +kernel
theorem dX8_digits_40 : decode cX8_digits 40 = .ok (.dup, 1) := by decide +kernel
theorem dX8_digits_41 : decode cX8_digits 41 = .ok (.getfield 176, 3) := by decide +kernel
theorem dX8_digits_44 : decode cX8_digits 44 = .ok (.iconst 1, 1) := by decide +kernel
theorem dX8_digits_45 : decode cX8_digits 45 = .ok (.iadd, 1) := by decide +kernel
theorem dX8_digits_46 : decode cX8_digits 46 = .ok (.putfield 176, 3) := by decide +kernel
theorem dX8_digits_49 : decode cX8_digits 49 = .ok (.goto (-44), 3) := by decide +kernel
theorem dX8_digits_52 : decode cX8_digits 52 = .ok (.iload 4, 2) := by decide +kernel
theorem dX8_digits_54 : decode cX8_digits 54 = .ok (.iload_n 1, 1) := by decide +kernel
theorem dX8_digits_55 : decode cX8_digits 55 = .ok (.if_icmp .ge 7, 3) := by decide +kernel
theorem dX8_digits_58 : decode cX8_digits 58 = .ok (.iconst (-1), 1) := by decide +kernel
theorem dX8_digits_59 : decode cX8_digits 59 = .ok (.goto 4, 3) := by decide +kernel
theorem dX8_digits_62 : decode cX8_digits 62 = .ok (.iload_n 3, 1) := by decide +kernel
theorem dX8_digits_63 : decode cX8_digits 63 = .ok (.ireturn, 1) := by decide +kernel
theorem dX8_takes_0 : decode cX8_takes 0 = .ok (.aload_n 0, 1) := by decide +kernel
theorem dX8_takes_1 : decode cX8_takes 1 = .ok (.getfield 176, 3) := by decide +kernel
theorem dX8_takes_4 : decode cX8_takes 4 = .ok (.aload_n 0, 1) := by decide +kernel
theorem dX8_takes_5 : decode cX8_takes 5 = .ok (.getfield 81, 3) := by decide +kernel
theorem dX8_takes_8 : decode cX8_takes 8 = .ok (.if_icmp .ge 20, 3) := by decide +kernel
theorem dX8_takes_11 : decode cX8_takes 11 = .ok (.aload_n 0, 1) := by decide +kernel
theorem dX8_takes_12 : decode cX8_takes 12 = .ok (.getfield 23, 3) := by decide +kernel
theorem dX8_takes_15 : decode cX8_takes 15 = .ok (.aload_n 0, 1) := by decide +kernel
theorem dX8_takes_16 : decode cX8_takes 16 = .ok (.getfield 176, 3) := by decide +kernel
theorem dX8_takes_19 : decode cX8_takes 19 = .ok (.iaload, 1) := by decide +kernel
theorem dX8_takes_20 : decode cX8_takes 20 = .ok (.iload_n 1, 1) := by decide +kernel
theorem dX8_takes_21 : decode cX8_takes 21 = .ok (.if_icmp .ne 7, 3) := by decide +kernel
theorem dX8_takes_24 : decode cX8_takes 24 = .ok (.iconst 1, 1) := by decide +kernel
theorem dX8_takes_25 : decode cX8_takes 25 = .ok (.goto 4, 3) := by decide +kernel
theorem dX8_takes_28 : decode cX8_takes 28 = .ok (.iconst 0, 1) := by decide +kernel
theorem dX8_takes_29 : decode cX8_takes 29 = .ok (.istore_n 2, 1) := by decide +kernel
theorem dX8_takes_30 : decode cX8_takes 30 = .ok (.aload_n 0, 1) := by decide +kernel
theorem dX8_takes_31 : decode cX8_takes 31 = .ok (.dup, 1) := by decide +kernel
theorem dX8_takes_32 : decode cX8_takes 32 = .ok (.getfield 176, 3) := by decide +kernel
theorem dX8_takes_35 : decode cX8_takes 35 = .ok (.iload_n 2, 1) := by decide +kernel
theorem dX8_takes_36 : decode cX8_takes 36 = .ok (.ifCond .eq 7, 3) := by decide +kernel
theorem dX8_takes_39 : decode cX8_takes 39 = .ok (.iconst 1, 1) := by decide +kernel
theorem dX8_takes_40 : decode cX8_takes 40 = .ok (.goto 4, 3) := by decide +kernel
theorem dX8_takes_43 : decode cX8_takes 43 = .ok (.iconst 0, 1) := by decide +kernel
theorem dX8_takes_44 : decode cX8_takes 44 = .ok (.iadd, 1) := by decide +kernel
theorem dX8_takes_45 : decode cX8_takes 45 = .ok (.putfield 176, 3) := by decide +kernel
theorem dX8_takes_48 : decode cX8_takes 48 = .ok (.iload_n 2, 1) := by decide +kernel
theorem dX8_takes_49 : decode cX8_takes 49 = .ok (.ireturn, 1) := by decide +kernel
theorem dX8_isFormed_0 : decode cX8_isFormed 0 = .ok (.aload_n 0, 1) := by decide +kernel
theorem dX8_isFormed_1 : decode cX8_isFormed 1 = .ok (.aload_n 0, 1) := by decide +kernel
theorem dX8_isFormed_2 : decode cX8_isFormed 2 = .ok (.iconst 1, 1) := by decide +kernel
theorem dX8_isFormed_3 : decode cX8_isFormed 3 = .ok (.iconst 1, 1) := by decide +kernel
theorem dX8_isFormed_4 : decode cX8_isFormed 4 = .ok (.invokevirtual 183, 3) := by decide +kernel
theorem dX8_isFormed_7 : decode cX8_isFormed 7 = .ok (.putfield 186, 3) := by decide +kernel
theorem dX8_isFormed_10 : decode cX8_isFormed 10 = .ok (.aload_n 0, 1) := by decide +kernel
theorem dX8_isFormed_11 : decode cX8_isFormed 11 = .ok (.getfield 186, 3) := by decide +kernel
theorem dX8_isFormed_14 : decode cX8_isFormed 14 = .ok (.ifCond .lt 12, 3) := by decide +kernel
theorem dX8_isFormed_17 : decode cX8_isFormed 17 = .ok (.aload_n 0, 1) := by decide +kernel
theorem dX8_isFormed_18 : decode cX8_isFormed 18 = .ok (.bipush 58, 2) := by decide +kernel
theorem dX8_isFormed_20 : decode cX8_isFormed 20 = .ok (.invokevirtual 189, 3) := by decide +kernel
theorem dX8_isFormed_23 : decode cX8_isFormed 23 = .ok (.ifCond .ne 5, 3) := by decide +kernel
theorem dX8_isFormed_26 : decode cX8_isFormed 26 = .ok (.iconst 0, 1) := by decide +kernel
theorem dX8_isFormed_27 : decode cX8_isFormed 27 = .ok (.ireturn, 1) := by decide +kernel
theorem dX8_isFormed_28 : decode cX8_isFormed 28 = .ok (.aload_n 0, 1) := by decide +kernel
theorem dX8_isFormed_29 : decode cX8_isFormed 29 = .ok (.aload_n 0, 1) := by decide +kernel
theorem dX8_isFormed_30 : decode cX8_isFormed 30 = .ok (.iconst 3, 1) := by decide +kernel
theorem dX8_isFormed_31 : decode cX8_isFormed 31 = .ok (.iconst 4, 1) := by decide +kernel
theorem dX8_isFormed_32 : decode cX8_isFormed 32 = .ok (.invokevirtual 183, 3) := by decide +kernel
theorem dX8_isFormed_35 : decode cX8_isFormed 35 = .ok (.putfield 192, 3) := by decide +kernel
theorem dX8_isFormed_38 : decode cX8_isFormed 38 = .ok (.aload_n 0, 1) := by decide +kernel
theorem dX8_isFormed_39 : decode cX8_isFormed 39 = .ok (.getfield 192, 3) := by decide +kernel
theorem dX8_isFormed_42 : decode cX8_isFormed 42 = .ok (.ifCond .ge 5, 3) := by decide +kernel
theorem dX8_isFormed_45 : decode cX8_isFormed 45 = .ok (.iconst 0, 1) := by decide +kernel
theorem dX8_isFormed_46 : decode cX8_isFormed 46 = .ok (.ireturn, 1) := by decide +kernel
theorem dX8_isFormed_47 : decode cX8_isFormed 47 = .ok (.aload_n 0, 1) := by decide +kernel
theorem dX8_isFormed_48 : decode cX8_isFormed 48 = .ok (.aload_n 0, 1) := by decide +kernel
theorem dX8_isFormed_49 : decode cX8_isFormed 49 = .ok (.bipush 42, 2) := by decide +kernel
theorem dX8_isFormed_51 : decode cX8_isFormed 51 = .ok (.invokevirtual 189, 3) := by decide +kernel
theorem dX8_isFormed_54 : decode cX8_isFormed 54 = .ok (.ifCond .eq 12, 3) := by decide +kernel
theorem dX8_isFormed_57 : decode cX8_isFormed 57 = .ok (.aload_n 0, 1) := by decide +kernel
theorem dX8_isFormed_58 : decode cX8_isFormed 58 = .ok (.iconst 1, 1) := by decide +kernel
theorem dX8_isFormed_59 : decode cX8_isFormed 59 = .ok (.iconst 2, 1) := by decide +kernel
theorem dX8_isFormed_60 : decode cX8_isFormed 60 = .ok (.invokevirtual 183, 3) := by decide +kernel
theorem dX8_isFormed_63 : decode cX8_isFormed 63 = .ok (.goto 4, 3) := by decide +kernel
theorem dX8_isFormed_66 : decode cX8_isFormed 66 = .ok (.iconst 1, 1) := by decide +kernel
theorem dX8_isFormed_67 : decode cX8_isFormed 67 = .ok (.putfield 195, 3) := by decide +kernel
theorem dX8_isFormed_70 : decode cX8_isFormed 70 = .ok (.aload_n 0, 1) := by decide +kernel
theorem dX8_isFormed_71 : decode cX8_isFormed 71 = .ok (.getfield 195, 3) := by decide +kernel
theorem dX8_isFormed_74 : decode cX8_isFormed 74 = .ok (.ifCond .lt 16, 3) := by decide +kernel
theorem dX8_isFormed_77 : decode cX8_isFormed 77 = .ok (.aload_n 0, 1) := by decide +kernel
theorem dX8_isFormed_78 : decode cX8_isFormed 78 = .ok (.bipush 59, 2) := by decide +kernel
theorem dX8_isFormed_80 : decode cX8_isFormed 80 = .ok (.invokevirtual 189, 3) := by decide +kernel
theorem dX8_isFormed_83 : decode cX8_isFormed 83 = .ok (.ifCond .eq 7, 3) := by decide +kernel
theorem dX8_isFormed_86 : decode cX8_isFormed 86 = .ok (.iconst 1, 1) := by decide +kernel
theorem dX8_isFormed_87 : decode cX8_isFormed 87 = .ok (.goto 4, 3) := by decide +kernel
theorem dX8_isFormed_90 : decode cX8_isFormed 90 = .ok (.iconst 0, 1) := by decide +kernel
theorem dX8_isFormed_91 : decode cX8_isFormed 91 = .ok (.ireturn, 1) := by decide +kernel
theorem dX8_reason_0 : decode cX8_reason 0 = .ok (.aload_n 0, 1) := by decide +kernel
theorem dX8_reason_1 : decode cX8_reason 1 = .ok (.invokevirtual 198, 3) := by decide +kernel
theorem dX8_reason_4 : decode cX8_reason 4 = .ok (.ifCond .ne 5, 3) := by decide +kernel
theorem dX8_reason_7 : decode cX8_reason 7 = .ok (.iconst 1, 1) := by decide +kernel
theorem dX8_reason_8 : decode cX8_reason 8 = .ok (.ireturn, 1) := by decide +kernel
theorem dX8_reason_9 : decode cX8_reason 9 = .ok (.aload_n 0, 1) := by decide +kernel
theorem dX8_reason_10 : decode cX8_reason 10 = .ok (.aload_n 0, 1) := by decide +kernel
theorem dX8_reason_11 : decode cX8_reason 11 = .ok (.getfield 186, 3) := by decide +kernel
theorem dX8_reason_14 : decode cX8_reason 14 = .ok (.invokevirtual 103, 3) := by decide +kernel
theorem dX8_reason_17 : decode cX8_reason 17 = .ok (.ifCond .ne 5, 3) := by decide +kernel
theorem dX8_reason_20 : decode cX8_reason 20 = .ok (.iconst 2, 1) := by decide +kernel
theorem dX8_reason_21 : decode cX8_reason 21 = .ok (.ireturn, 1) := by decide +kernel
theorem dX8_reason_22 : decode cX8_reason 22 = .ok (.aload_n 0, 1) := by decide +kernel
theorem dX8_reason_23 : decode cX8_reason 23 = .ok (.getfield 192, 3) := by decide +kernel
theorem dX8_reason_26 : decode cX8_reason 26 = .ok (.invokestatic 139, 3) := by decide +kernel
theorem dX8_reason_29 : decode cX8_reason 29 = .ok (.ifCond .eq 20, 3) := by decide +kernel
theorem dX8_reason_32 : decode cX8_reason 32 = .ok (.aload_n 0, 1) := by decide +kernel
theorem dX8_reason_33 : decode cX8_reason 33 = .ok (.getfield 195, 3) := by decide +kernel
theorem dX8_reason_36 : decode cX8_reason 36 = .ok (.iconst 1, 1) := by decide +kernel
theorem dX8_reason_37 : decode cX8_reason 37 = .ok (.bipush 40, 2) := by decide +kernel
theorem dX8_reason_39 : decode cX8_reason 39 = .ok (.invokestatic 51, 3) := by decide +kernel
theorem dX8_reason_42 : decode cX8_reason 42 = .ok (.ifCond .eq 7, 3) := by decide +kernel
theorem dX8_reason_45 : decode cX8_reason 45 = .ok (.iconst 0, 1) := by decide +kernel
theorem dX8_reason_46 : decode cX8_reason 46 = .ok (.goto 4, 3) := by decide +kernel
theorem dX8_reason_49 : decode cX8_reason 49 = .ok (.iconst 3, 1) := by decide +kernel
theorem dX8_reason_50 : decode cX8_reason 50 = .ok (.ireturn, 1) := by decide +kernel
theorem dX8_reasonOfText_0 : decode cX8_reasonOfText 0 = .ok (.aload_n 0, 1) := by decide +kernel
theorem dX8_reasonOfText_1 : decode cX8_reasonOfText 1 = .ok (.iconst 0, 1) := by decide +kernel
theorem dX8_reasonOfText_2 : decode cX8_reasonOfText 2 = .ok (.putfield 176, 3) := by decide +kernel
theorem dX8_reasonOfText_5 : decode cX8_reasonOfText 5 = .ok (.iconst 0, 1) := by decide +kernel
theorem dX8_reasonOfText_6 : decode cX8_reasonOfText 6 = .ok (.istore_n 1, 1) := by decide +kernel
theorem dX8_reasonOfText_7 : decode cX8_reasonOfText 7 = .ok (.aload_n 0, 1) := by decide +kernel
theorem dX8_reasonOfText_8 : decode cX8_reasonOfText 8 = .ok (.getfield 176, 3) := by decide +kernel
theorem dX8_reasonOfText_11 : decode cX8_reasonOfText 11 = .ok (.aload_n 0, 1) := by decide +kernel
theorem dX8_reasonOfText_12 : decode cX8_reasonOfText 12 = .ok (.getfield 81, 3) := by decide +kernel
theorem dX8_reasonOfText_15 : decode cX8_reasonOfText 15 = .ok (.if_icmp .ge 23, 3) := by decide +kernel
theorem dX8_reasonOfText_18 : decode cX8_reasonOfText 18 = .ok (.iload_n 1, 1) := by decide +kernel
theorem dX8_reasonOfText_19 : decode cX8_reasonOfText 19 = .ok (.ifCond .ne 19, 3) := by decide +kernel
theorem dX8_reasonOfText_22 : decode cX8_reasonOfText 22 = .ok (.aload_n 0, 1) := by decide +kernel
theorem dX8_reasonOfText_23 : decode cX8_reasonOfText 23 = .ok (.aload_n 0, 1) := by decide +kernel
theorem dX8_reasonOfText_24 : decode cX8_reasonOfText 24 = .ok (.getfield 176, 3) := by decide +kernel
theorem dX8_reasonOfText_27 : decode cX8_reasonOfText 27 = .ok (.putfield 201, 3) := by decide +kernel
theorem dX8_reasonOfText_30 : decode cX8_reasonOfText 30 = .ok (.aload_n 0, 1) := by decide +kernel
theorem dX8_reasonOfText_31 : decode cX8_reasonOfText 31 = .ok (.invokevirtual 204, 3) := by decide +kernel
theorem dX8_reasonOfText_34 : decode cX8_reasonOfText 34 = .ok (.istore_n 1, 1) := by decide +kernel
theorem dX8_reasonOfText_35 : decode cX8_reasonOfText 35 = .ok (.goto (-28), 3) := by decide +kernel
theorem dX8_reasonOfText_38 : decode cX8_reasonOfText 38 = .ok (.iload_n 1, 1) := by decide +kernel
theorem dX8_reasonOfText_39 : decode cX8_reasonOfText 39 = .ok (.ireturn, 1) := by decide +kernel
theorem dX8_fault_0 : decode cX8_fault 0 = .ok (.iload_n 1, 1) := by decide +kernel
theorem dX8_fault_1 : decode cX8_fault 1 = .ok (.iconst 0, 1) := by decide +kernel
theorem dX8_fault_2 : decode cX8_fault 2 = .ok (.iconst 1, 1) := by decide +kernel
theorem dX8_fault_3 : decode cX8_fault 3 = .ok (.invokestatic 51, 3) := by decide +kernel
theorem dX8_fault_6 : decode cX8_fault 6 = .ok (.ifCond .ne 5, 3) := by decide +kernel
theorem dX8_fault_9 : decode cX8_fault 9 = .ok (.iconst (-1), 1) := by decide +kernel
theorem dX8_fault_10 : decode cX8_fault 10 = .ok (.ireturn, 1) := by decide +kernel
theorem dX8_fault_11 : decode cX8_fault 11 = .ok (.aload_n 0, 1) := by decide +kernel
theorem dX8_fault_12 : decode cX8_fault 12 = .ok (.invokevirtual 207, 3) := by decide +kernel
theorem dX8_fault_15 : decode cX8_fault 15 = .ok (.istore_n 2, 1) := by decide +kernel
theorem dX8_fault_16 : decode cX8_fault 16 = .ok (.iload_n 2, 1) := by decide +kernel
theorem dX8_fault_17 : decode cX8_fault 17 = .ok (.ifCond .ne 8, 3) := by decide +kernel
theorem dX8_fault_20 : decode cX8_fault 20 = .ok (.bipush (-4), 2) := by decide +kernel
theorem dX8_fault_22 : decode cX8_fault 22 = .ok (.goto 15, 3) := by decide +kernel
theorem dX8_fault_25 : decode cX8_fault 25 = .ok (.iload_n 1, 1) := by decide +kernel
theorem dX8_fault_26 : decode cX8_fault 26 = .ok (.ifCond .ne 10, 3) := by decide +kernel
theorem dX8_fault_29 : decode cX8_fault 29 = .ok (.aload_n 0, 1) := by decide +kernel
theorem dX8_fault_30 : decode cX8_fault 30 = .ok (.getfield 201, 3) := by decide +kernel
theorem dX8_fault_33 : decode cX8_fault 33 = .ok (.goto 4, 3) := by decide +kernel
theorem dX8_fault_36 : decode cX8_fault 36 = .ok (.iload_n 2, 1) := by decide +kernel
theorem dX8_fault_37 : decode cX8_fault 37 = .ok (.ireturn, 1) := by decide +kernel
theorem dX8_carry_0 : decode cX8_carry 0 = .ok (.aload_n 0, 1) := by decide +kernel
theorem dX8_carry_1 : decode cX8_carry 1 = .ok (.invokevirtual 207, 3) := by decide +kernel
theorem dX8_carry_4 : decode cX8_carry 4 = .ok (.ifCond .eq 6, 3) := by decide +kernel
theorem dX8_carry_7 : decode cX8_carry 7 = .ok (.bipush (-2), 2) := by decide +kernel
theorem dX8_carry_9 : decode cX8_carry 9 = .ok (.ireturn, 1) := by decide +kernel
theorem dX8_carry_10 : decode cX8_carry 10 = .ok (.aload_n 0, 1) := by decide +kernel
theorem dX8_carry_11 : decode cX8_carry 11 = .ok (.invokevirtual 55, 3) := by decide +kernel
theorem dX8_carry_14 : decode cX8_carry 14 = .ok (.aload_n 0, 1) := by decide +kernel
theorem dX8_carry_15 : decode cX8_carry 15 = .ok (.iconst 0, 1) := by decide +kernel
theorem dX8_carry_16 : decode cX8_carry 16 = .ok (.putfield 176, 3) := by decide +kernel
theorem dX8_carry_19 : decode cX8_carry 19 = .ok (.iconst 0, 1) := by decide +kernel
theorem dX8_carry_20 : decode cX8_carry 20 = .ok (.istore_n 1, 1) := by decide +kernel
theorem dX8_carry_21 : decode cX8_carry 21 = .ok (.aload_n 0, 1) := by decide +kernel
theorem dX8_carry_22 : decode cX8_carry 22 = .ok (.getfield 176, 3) := by decide +kernel
theorem dX8_carry_25 : decode cX8_carry 25 = .ok (.aload_n 0, 1) := by decide +kernel
theorem dX8_carry_26 : decode cX8_carry 26 = .ok (.getfield 81, 3) := by decide +kernel
theorem dX8_carry_29 : decode cX8_carry 29 = .ok (.if_icmp .ge 56, 3) := by decide +kernel
theorem dX8_carry_32 : decode cX8_carry 32 = .ok (.aload_n 0, 1) := by decide +kernel
theorem dX8_carry_33 : decode cX8_carry 33 = .ok (.invokevirtual 204, 3) := by decide +kernel
theorem dX8_carry_36 : decode cX8_carry 36 = .ok (.ifCond .ne 49, 3) := by decide +kernel
theorem dX8_carry_39 : decode cX8_carry 39 = .ok (.iconst 0, 1) := by decide +kernel
theorem dX8_carry_40 : decode cX8_carry 40 = .ok (.istore_n 2, 1) := by decide +kernel
theorem dX8_carry_41 : decode cX8_carry 41 = .ok (.iload_n 2, 1) := by decide +kernel
theorem dX8_carry_42 : decode cX8_carry 42 = .ok (.aload_n 0, 1) := by decide +kernel
theorem dX8_carry_43 : decode cX8_carry 43 = .ok (.getfield 195, 3) := by decide +kernel
theorem dX8_carry_46 : decode cX8_carry 46 = .ok (.if_icmp .ge 36, 3) := by decide +kernel
theorem dX8_carry_49 : decode cX8_carry 49 = .ok (.aload_n 0, 1) := by decide +kernel
theorem dX8_carry_50 : decode cX8_carry 50 = .ok (.aload_n 0, 1) := by decide +kernel
theorem dX8_carry_51 : decode cX8_carry 51 = .ok (.getfield 186, 3) := by decide +kernel
theorem dX8_carry_54 : decode cX8_carry 54 = .ok (.invokevirtual 142, 3) := by decide +kernel
theorem dX8_carry_57 : decode cX8_carry 57 = .ok (.ifCond .ne 25, 3) := by decide +kernel
theorem dX8_carry_60 : decode cX8_carry 60 = .ok (.aload_n 0, 1) := by decide +kernel
theorem dX8_carry_61 : decode cX8_carry 61 = .ok (.aload_n 0, 1) := by decide +kernel
theorem dX8_carry_62 : decode cX8_carry 62 = .ok (.getfield 186, 3) := by decide +kernel
theorem dX8_carry_65 : decode cX8_carry 65 = .ok (.aload_n 0, 1) := by decide +kernel
theorem dX8_carry_66 : decode cX8_carry 66 = .ok (.getfield 192, 3) := by decide +kernel
theorem dX8_carry_69 : decode cX8_carry 69 = .ok (.invokevirtual 145, 3) := by decide +kernel
theorem dX8_carry_72 : decode cX8_carry 72 = .ok (.istore_n 3, 1) := by decide +kernel
theorem dX8_carry_73 : decode cX8_carry 73 = .ok (.iinc 1 1, 3) := by decide +kernel
theorem dX8_carry_76 : decode cX8_carry 76 = .ok (.iinc 2 1, 3) := by decide +kernel
theorem dX8_carry_79 : decode cX8_carry 79 = .ok (.goto (-38), 3) := by decide +kernel
theorem dX8_carry_82 : decode cX8_carry 82 = .ok (.goto (-61), 3) := by decide +kernel
theorem dX8_carry_85 : decode cX8_carry 85 = .ok (.iload_n 1, 1) := by decide +kernel
theorem dX8_carry_86 : decode cX8_carry 86 = .ok (.ireturn, 1) := by decide +kernel
