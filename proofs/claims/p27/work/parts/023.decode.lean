theorem dX7_init_0 : decode cX7_init 0 = .ok (.aload_n 0, 1) := by decide +kernel
theorem dX7_init_1 : decode cX7_init 1 = .ok (.invokespecial 1, 3) := by decide +kernel
theorem dX7_init_4 : decode cX7_init 4 = .ok (.aload_n 0, 1) := by decide +kernel
theorem dX7_init_5 : decode cX7_init 5 = .ok (.new 7, 3) := by decide +kernel
theorem dX7_init_8 : decode cX7_init 8 = .ok (.dup, 1) := by decide +kernel
theorem dX7_init_9 : decode cX7_init 9 = .ok (.invokespecial 9, 3) := by decide +kernel
theorem dX7_init_12 : decode cX7_init 12 = .ok (.putfield 10, 3) := by decide +kernel
theorem dX7_init_15 : decode cX7_init 15 = .ok (.aload_n 0, 1) := by decide +kernel
theorem dX7_init_16 : decode cX7_init 16 = .ok (.new 16, 3) := by decide +kernel
theorem dX7_init_19 : decode cX7_init 19 = .ok (.dup, 1) := by decide +kernel
theorem dX7_init_20 : decode cX7_init 20 = .ok (.invokespecial 18, 3) := by decide +kernel
theorem dX7_init_23 : decode cX7_init 23 = .ok (.putfield 19, 3) := by decide +kernel
theorem dX7_init_26 : decode cX7_init 26 = .ok (.aload_n 0, 1) := by decide +kernel
theorem dX7_init_27 : decode cX7_init 27 = .ok (.new 23, 3) := by decide +kernel
theorem dX7_init_30 : decode cX7_init 30 = .ok (.dup, 1) := by decide +kernel
theorem dX7_init_31 : decode cX7_init 31 = .ok (.invokespecial 25, 3) := by decide +kernel
theorem dX7_init_34 : decode cX7_init 34 = .ok (.putfield 26, 3) := by decide +kernel
theorem dX7_init_37 : decode cX7_init 37 = .ok (.aload_n 0, 1) := by decide +kernel
theorem dX7_init_38 : decode cX7_init 38 = .ok (.new 30, 3) := by decide +kernel
theorem dX7_init_41 : decode cX7_init 41 = .ok (.dup, 1) := by decide +kernel
theorem dX7_init_42 : decode cX7_init 42 = .ok (.invokespecial 32, 3) := by decide +kernel
theorem dX7_init_45 : decode cX7_init 45 = .ok (.putfield 33, 3) := by decide +kernel
theorem dX7_init_48 : decode cX7_init 48 = .ok (.aload_n 0, 1) := by decide +kernel
theorem dX7_init_49 : decode cX7_init 49 = .ok (.new 37, 3) := by decide +kernel
theorem dX7_init_52 : decode cX7_init 52 = .ok (.dup, 1) := by decide +kernel
theorem dX7_init_53 : decode cX7_init 53 = .ok (.invokespecial 39, 3) := by decide +kernel
theorem dX7_init_56 : decode cX7_init 56 = .ok (.putfield 40, 3) := by decide +kernel
theorem dX7_init_59 : decode cX7_init 59 = .ok (.return_, 1) := by decide +kernel
theorem dX7_stratum_0 : decode cX7_stratum 0 = .ok (.iload_n 1, 1) := by decide +kernel
theorem dX7_stratum_1 : decode cX7_stratum 1 = .ok (.iconst 0, 1) := by decide +kernel
theorem dX7_stratum_2 : decode cX7_stratum 2 = .ok (.aload_n 0, 1) := by decide +kernel
theorem dX7_stratum_3 : decode cX7_stratum 3 = .ok (.getfield 10, 3) := by decide +kernel
theorem dX7_stratum_6 : decode cX7_stratum 6 = .ok (.getfield 44, 3) := by decide +kernel
theorem dX7_stratum_9 : decode cX7_stratum 9 = .ok (.getfield 48, 3) := by decide +kernel
theorem dX7_stratum_12 : decode cX7_stratum 12 = .ok (.invokestatic 54, 3) := by decide +kernel
theorem dX7_stratum_15 : decode cX7_stratum 15 = .ok (.ifCond .eq 26, 3) := by decide +kernel
theorem dX7_stratum_18 : decode cX7_stratum 18 = .ok (.iload_n 2, 1) := by decide +kernel
theorem dX7_stratum_19 : decode cX7_stratum 19 = .ok (.bipush 100, 2) := by decide +kernel
theorem dX7_stratum_21 : decode cX7_stratum 21 = .ok (.sipush 20000, 3) := by decide +kernel
theorem dX7_stratum_24 : decode cX7_stratum 24 = .ok (.invokestatic 54, 3) := by decide +kernel
theorem dX7_stratum_27 : decode cX7_stratum 27 = .ok (.ifCond .eq 14, 3) := by decide +kernel
theorem dX7_stratum_30 : decode cX7_stratum 30 = .ok (.iload_n 3, 1) := by decide +kernel
theorem dX7_stratum_31 : decode cX7_stratum 31 = .ok (.iconst 1, 1) := by decide +kernel
theorem dX7_stratum_32 : decode cX7_stratum 32 = .ok (.sipush 500, 3) := by decide +kernel
theorem dX7_stratum_35 : decode cX7_stratum 35 = .ok (.invokestatic 54, 3) := by decide +kernel
theorem dX7_stratum_38 : decode cX7_stratum 38 = .ok (.ifCond .ne 5, 3) := by decide +kernel
theorem dX7_stratum_41 : decode cX7_stratum 41 = .ok (.iconst (-1), 1) := by decide +kernel
theorem dX7_stratum_42 : decode cX7_stratum 42 = .ok (.ireturn, 1) := by decide +kernel
theorem dX7_stratum_43 : decode cX7_stratum 43 = .ok (.iload_n 1, 1) := by decide +kernel
theorem dX7_stratum_44 : decode cX7_stratum 44 = .ok (.bipush 6, 2) := by decide +kernel
theorem dX7_stratum_46 : decode cX7_stratum 46 = .ok (.if_icmp .lt 6, 3) := by decide +kernel
theorem dX7_stratum_49 : decode cX7_stratum 49 = .ok (.bipush (-3), 2) := by decide +kernel
theorem dX7_stratum_51 : decode cX7_stratum 51 = .ok (.ireturn, 1) := by decide +kernel
theorem dX7_stratum_52 : decode cX7_stratum 52 = .ok (.aload_n 0, 1) := by decide +kernel
theorem dX7_stratum_53 : decode cX7_stratum 53 = .ok (.getfield 19, 3) := by decide +kernel
theorem dX7_stratum_56 : decode cX7_stratum 56 = .ok (.aload_n 0, 1) := by decide +kernel
theorem dX7_stratum_57 : decode cX7_stratum 57 = .ok (.getfield 10, 3) := by decide +kernel
theorem dX7_stratum_60 : decode cX7_stratum 60 = .ok (.invokevirtual 58, 3) := by decide +kernel
theorem dX7_stratum_63 : decode cX7_stratum 63 = .ok (.aload_n 0, 1) := by decide +kernel
theorem dX7_stratum_64 : decode cX7_stratum 64 = .ok (.getfield 10, 3) := by decide +kernel
theorem dX7_stratum_67 : decode cX7_stratum 67 = .ok (.getfield 44, 3) := by decide +kernel
theorem dX7_stratum_70 : decode cX7_stratum 70 = .ok (.iload_n 1, 1) := by decide +kernel
theorem dX7_stratum_71 : decode cX7_stratum 71 = .ok (.iload_n 2, 1) := by decide +kernel
theorem dX7_stratum_72 : decode cX7_stratum 72 = .ok (.iload_n 3, 1) := by decide +kernel
theorem dX7_stratum_73 : decode cX7_stratum 73 = .ok (.invokevirtual 62, 3) := by decide +kernel
theorem dX7_stratum_76 : decode cX7_stratum 76 = .ok (.aload_n 0, 1) := by decide +kernel
theorem dX7_stratum_77 : decode cX7_stratum 77 = .ok (.getfield 10, 3) := by decide +kernel
theorem dX7_stratum_80 : decode cX7_stratum 80 = .ok (.getfield 44, 3) := by decide +kernel
theorem dX7_stratum_83 : decode cX7_stratum 83 = .ok (.getfield 48, 3) := by decide +kernel
theorem dX7_stratum_86 : decode cX7_stratum 86 = .ok (.ireturn, 1) := by decide +kernel
theorem dX7_cut_0 : decode cX7_cut 0 = .ok (.aload_n 0, 1) := by decide +kernel
theorem dX7_cut_1 : decode cX7_cut 1 = .ok (.getfield 10, 3) := by decide +kernel
theorem dX7_cut_4 : decode cX7_cut 4 = .ok (.getfield 44, 3) := by decide +kernel
theorem dX7_cut_7 : decode cX7_cut 7 = .ok (.getfield 48, 3) := by decide +kernel
theorem dX7_cut_10 : decode cX7_cut 10 = .ok (.iconst 1, 1) := by decide +kernel
theorem dX7_cut_11 : decode cX7_cut 11 = .ok (.if_icmp .gt 6, 3) := by decide +kernel
theorem dX7_cut_14 : decode cX7_cut 14 = .ok (.bipush (-2), 2) := by decide +kernel
theorem dX7_cut_16 : decode cX7_cut 16 = .ok (.ireturn, 1) := by decide +kernel
theorem dX7_cut_17 : decode cX7_cut 17 = .ok (.aload_n 0, 1) := by decide +kernel
theorem dX7_cut_18 : decode cX7_cut 18 = .ok (.getfield 19, 3) := by decide +kernel
theorem dX7_cut_21 : decode cX7_cut 21 = .ok (.aload_n 0, 1) := by decide +kernel
theorem dX7_cut_22 : decode cX7_cut 22 = .ok (.getfield 10, 3) := by decide +kernel
theorem dX7_cut_25 : decode cX7_cut 25 = .ok (.invokevirtual 58, 3) := by decide +kernel
theorem dX7_cut_28 : decode cX7_cut 28 = .ok (.aload_n 0, 1) := by decide +kernel
theorem dX7_cut_29 : decode cX7_cut 29 = .ok (.getfield 10, 3) := by decide +kernel
theorem dX7_cut_32 : decode cX7_cut 32 = .ok (.getfield 44, 3) := by decide +kernel
theorem dX7_cut_35 : decode cX7_cut 35 = .ok (.invokevirtual 66, 3) := by decide +kernel
theorem dX7_cut_38 : decode cX7_cut 38 = .ok (.aload_n 0, 1) := by decide +kernel
theorem dX7_cut_39 : decode cX7_cut 39 = .ok (.getfield 10, 3) := by decide +kernel
theorem dX7_cut_42 : decode cX7_cut 42 = .ok (.getfield 44, 3) := by decide +kernel
theorem dX7_cut_45 : decode cX7_cut 45 = .ok (.getfield 48, 3) := by decide +kernel
theorem dX7_cut_48 : decode cX7_cut 48 = .ok (.ireturn, 1) := by decide +kernel
theorem dX7_ground_0 : decode cX7_ground 0 = .ok (.iload_n 1, 1) := by decide +kernel
theorem dX7_ground_1 : decode cX7_ground 1 = .ok (.iconst 0, 1) := by decide +kernel
theorem dX7_ground_2 : decode cX7_ground 2 = .ok (.aload_n 0, 1) := by decide +kernel
theorem dX7_ground_3 : decode cX7_ground 3 = .ok (.getfield 10, 3) := by decide +kernel
theorem dX7_ground_6 : decode cX7_ground 6 = .ok (.getfield 44, 3) := by decide +kernel
theorem dX7_ground_9 : decode cX7_ground 9 = .ok (.getfield 48, 3) := by decide +kernel
theorem dX7_ground_12 : decode cX7_ground 12 = .ok (.iconst 1, 1) := by decide +kernel
theorem dX7_ground_13 : decode cX7_ground 13 = .ok (.isub, 1) := by decide +kernel
theorem dX7_ground_14 : decode cX7_ground 14 = .ok (.invokestatic 54, 3) := by decide +kernel
theorem dX7_ground_17 : decode cX7_ground 17 = .ok (.ifCond .ne 5, 3) := by decide +kernel
theorem dX7_ground_20 : decode cX7_ground 20 = .ok (.iconst (-1), 1) := by decide +kernel
theorem dX7_ground_21 : decode cX7_ground 21 = .ok (.ireturn, 1) := by decide +kernel
theorem dX7_ground_22 : decode cX7_ground 22 = .ok (.iload_n 2, 1) := by decide +kernel
theorem dX7_ground_23 : decode cX7_ground 23 = .ok (.tableswitch 74 0 3 #[29, 41, 53, 65], 29) := by decide +kernel
theorem dX7_ground_52 : decode cX7_ground 52 = .ok (.aload_n 0, 1) := by decide +kernel
theorem dX7_ground_53 : decode cX7_ground 53 = .ok (.getfield 10, 3) := by decide +kernel
theorem dX7_ground_56 : decode cX7_ground 56 = .ok (.getfield 44, 3) := by decide +kernel
theorem dX7_ground_59 : decode cX7_ground 59 = .ok (.iload_n 1, 1) := by decide +kernel
theorem dX7_ground_60 : decode cX7_ground 60 = .ok (.invokevirtual 69, 3) := by decide +kernel
theorem dX7_ground_63 : decode cX7_ground 63 = .ok (.ireturn, 1) := by decide +kernel
theorem dX7_ground_64 : decode cX7_ground 64 = .ok (.aload_n 0, 1) := by decide +kernel
theorem dX7_ground_65 : decode cX7_ground 65 = .ok (.getfield 10, 3) := by decide +kernel
theorem dX7_ground_68 : decode cX7_ground 68 = .ok (.getfield 44, 3) := by decide +kernel
theorem dX7_ground_71 : decode cX7_ground 71 = .ok (.iload_n 1, 1) := by decide +kernel
theorem dX7_ground_72 : decode cX7_ground 72 = .ok (.invokevirtual 73, 3) := by decide +kernel
theorem dX7_ground_75 : decode cX7_ground 75 = .ok (.ireturn, 1) := by decide +kernel
theorem dX7_ground_76 : decode cX7_ground 76 = .ok (.aload_n 0, 1) := by decide +kernel
theorem dX7_ground_77 : decode cX7_ground 77 = .ok (.getfield 10, 3) := by decide +kernel
theorem dX7_ground_80 : decode cX7_ground 80 = .ok (.getfield 44, 3) := by decide +kernel
theorem dX7_ground_83 : decode cX7_ground 83 = .ok (.iload_n 1, 1) := by decide +kernel
theorem dX7_ground_84 : decode cX7_ground 84 = .ok (.invokevirtual 76, 3) := by decide +kernel
theorem dX7_ground_87 : decode cX7_ground 87 = .ok (.ireturn, 1) := by decide +kernel
theorem dX7_ground_88 : decode cX7_ground 88 = .ok (.aload_n 0, 1) := by decide +kernel
theorem dX7_ground_89 : decode cX7_ground 89 = .ok (.getfield 10, 3) := by decide +kernel
theorem dX7_ground_92 : decode cX7_ground 92 = .ok (.iload_n 1, 1) := by decide +kernel
theorem dX7_ground_93 : decode cX7_ground 93 = .ok (.invokevirtual 79, 3) := by decide +kernel
theorem dX7_ground_96 : decode cX7_ground 96 = .ok (.ireturn, 1) := by decide +kernel
theorem dX7_ground_97 : decode cX7_ground 97 = .ok (.iconst (-1), 1) := by decide +kernel
theorem dX7_ground_98 : decode cX7_ground 98 = .ok (.ireturn, 1) := by decide +kernel
theorem dX7_at_0 : decode cX7_at 0 = .ok (.iload_n 1, 1) := by decide +kernel
theorem dX7_at_1 : decode cX7_at 1 = .ok (.iconst 0, 1) := by decide +kernel
theorem dX7_at_2 : decode cX7_at 2 = .ok (.ldc 82, 2) := by decide +kernel
theorem dX7_at_4 : decode cX7_at 4 = .ok (.invokestatic 54, 3) := by decide +kernel
theorem dX7_at_7 : decode cX7_at 7 = .ok (.ifCond .ne 5, 3) := by decide +kernel
theorem dX7_at_10 : decode cX7_at 10 = .ok (.iconst (-1), 1) := by decide +kernel
theorem dX7_at_11 : decode cX7_at 11 = .ok (.ireturn, 1) := by decide +kernel
theorem dX7_at_12 : decode cX7_at 12 = .ok (.aload_n 0, 1) := by decide +kernel
theorem dX7_at_13 : decode cX7_at 13 = .ok (.getfield 10, 3) := by decide +kernel
theorem dX7_at_16 : decode cX7_at 16 = .ok (.getfield 44, 3) := by decide +kernel
theorem dX7_at_19 : decode cX7_at 19 = .ok (.iload_n 1, 1) := by decide +kernel
theorem dX7_at_20 : decode cX7_at 20 = .ok (.invokevirtual 83, 3) := by decide +kernel
theorem dX7_at_23 : decode cX7_at 23 = .ok (.istore_n 2, 1) := by decide +kernel
theorem dX7_at_24 : decode cX7_at 24 = .ok (.iload_n 2, 1) := by decide +kernel
theorem dX7_at_25 : decode cX7_at 25 = .ok (.aload_n 0, 1) := by decide +kernel
theorem dX7_at_26 : decode cX7_at 26 = .ok (.getfield 10, 3) := by decide +kernel
theorem dX7_at_29 : decode cX7_at 29 = .ok (.getfield 44, 3) := by decide +kernel
theorem dX7_at_32 : decode cX7_at 32 = .ok (.getfield 48, 3) := by decide +kernel
theorem dX7_at_35 : decode cX7_at 35 = .ok (.if_icmp .ge 7, 3) := by decide +kernel
theorem dX7_at_38 : decode cX7_at 38 = .ok (.iload_n 2, 1) := by decide +kernel
theorem dX7_at_39 : decode cX7_at 39 = .ok (.goto 5, 3) := by decide +kernel
theorem dX7_at_42 : decode cX7_at 42 = .ok (.bipush (-4), 2) := by decide +kernel
theorem dX7_at_44 : decode cX7_at 44 = .ok (.ireturn, 1) := by decide +kernel
theorem dX7_set_0 : decode cX7_set 0 = .ok (.iload_n 1, 1) := by decide +kernel
theorem dX7_set_1 : decode cX7_set 1 = .ok (.invokestatic 86, 3) := by decide +kernel
theorem dX7_set_4 : decode cX7_set 4 = .ok (.ifCond .eq 20, 3) := by decide +kernel
theorem dX7_set_7 : decode cX7_set 7 = .ok (.iload_n 2, 1) := by decide +kernel
theorem dX7_set_8 : decode cX7_set 8 = .ok (.getstatic 90, 3) := by decide +kernel
theorem dX7_set_11 : decode cX7_set 11 = .ok (.iload_n 1, 1) := by decide +kernel
theorem dX7_set_12 : decode cX7_set 12 = .ok (.iaload, 1) := by decide +kernel
theorem dX7_set_13 : decode cX7_set 13 = .ok (.getstatic 94, 3) := by decide +kernel
theorem dX7_set_16 : decode cX7_set 16 = .ok (.iload_n 1, 1) := by decide +kernel
theorem dX7_set_17 : decode cX7_set 17 = .ok (.iaload, 1) := by decide +kernel
theorem dX7_set_18 : decode cX7_set 18 = .ok (.invokestatic 54, 3) := by decide +kernel
theorem dX7_set_21 : decode cX7_set 21 = .ok (.ifCond .ne 5, 3) := by decide +kernel
theorem dX7_set_24 : decode cX7_set 24 = .ok (.iconst (-1), 1) := by decide +kernel
theorem dX7_set_25 : decode cX7_set 25 = .ok (.ireturn, 1) := by decide +kernel
theorem dX7_set_26 : decode cX7_set 26 = .ok (.aload_n 0, 1) := by decide +kernel
theorem dX7_set_27 : decode cX7_set 27 = .ok (.getfield 19, 3) := by decide +kernel
theorem dX7_set_30 : decode cX7_set 30 = .ok (.aload_n 0, 1) := by decide +kernel
theorem dX7_set_31 : decode cX7_set 31 = .ok (.getfield 10, 3) := by decide +kernel
theorem dX7_set_34 : decode cX7_set 34 = .ok (.invokevirtual 58, 3) := by decide +kernel
theorem dX7_set_37 : decode cX7_set 37 = .ok (.aload_n 0, 1) := by decide +kernel
theorem dX7_set_38 : decode cX7_set 38 = .ok (.getfield 10, 3) := by decide +kernel
theorem dX7_set_41 : decode cX7_set 41 = .ok (.iload_n 1, 1) := by decide +kernel
theorem dX7_set_42 : decode cX7_set 42 = .ok (.invokevirtual 97, 3) := by decide +kernel
theorem dX7_set_45 : decode cX7_set 45 = .ok (.istore_n 3, 1) := by decide +kernel
theorem dX7_set_46 : decode cX7_set 46 = .ok (.aload_n 0, 1) := by decide +kernel
theorem dX7_set_47 : decode cX7_set 47 = .ok (.getfield 10, 3) := by decide +kernel
theorem dX7_set_50 : decode cX7_set 50 = .ok (.iload_n 1, 1) := by decide +kernel
theorem dX7_set_51 : decode cX7_set 51 = .ok (.iload_n 2, 1) := by decide +kernel
theorem dX7_set_52 : decode cX7_set 52 = .ok (.invokevirtual 100, 3) := by decide +kernel
theorem dX7_set_55 : decode cX7_set 55 = .ok (.iload_n 3, 1) := by decide +kernel
theorem dX7_set_56 : decode cX7_set 56 = .ok (.ireturn, 1) := by decide +kernel
theorem dX7_count_0 : decode cX7_count 0 = .ok (.iload_n 1, 1) := by decide +kernel
theorem dX7_count_1 : decode cX7_count 1 = .ok (.bipush 10, 2) := by decide +kernel
theorem dX7_count_3 : decode cX7_count 3 = .ok (.isub, 1) := by decide +kernel
theorem dX7_count_4 : decode cX7_count 4 = .ok (.invokestatic 86, 3) := by decide +kernel
theorem dX7_count_7 : decode cX7_count 7 = .ok (.ifCond .eq 16, 3) := by decide +kernel
theorem dX7_count_10 : decode cX7_count 10 = .ok (.aload_n 0, 1) := by decide +kernel
theorem dX7_count_11 : decode cX7_count 11 = .ok (.getfield 10, 3) := by decide +kernel
theorem dX7_count_14 : decode cX7_count 14 = .ok (.iload_n 1, 1) := by decide +kernel
theorem dX7_count_15 : decode cX7_count 15 = .ok (.bipush 10, 2) := by decide +kernel
theorem dX7_count_17 : decode cX7_count 17 = .ok (.isub, 1) := by decide +kernel
theorem dX7_count_18 : decode cX7_count 18 = .ok (.invokevirtual 97, 3) := by decide +kernel
theorem dX7_count_21 : decode cX7_count 21 = .ok (.i2l, 1) := by decide +kernel
theorem dX7_count_22 : decode cX7_count 22 = .ok (.lreturn, 1) := by decide +kernel
theorem dX7_count_23 : decode cX7_count 23 = .ok (.iload_n 1, 1) := by decide +kernel
theorem dX7_count_24 : decode cX7_count 24 = .ok (.tableswitch 220 0 24 #[116, 128, 137, 146, 154, 163, 172, 220, 220, 220, 220, 220, 220, 220, 220, 220, 220, 220, 220, 220, 180, 188, 196, 204, 212], 116) := by decide +kernel
theorem dX7_count_140 : decode cX7_count 140 = .ok (.aload_n 0, 1) := by decide +kernel
theorem dX7_count_141 : decode cX7_count 141 = .ok (.getfield 10, 3) := by decide +kernel
theorem dX7_count_144 : decode cX7_count 144 = .ok (.getfield 44, 3) := by decide +kernel
theorem dX7_count_147 : decode cX7_count 147 = .ok (.getfield 48, 3) := by decide +kernel
theorem dX7_count_150 : decode cX7_count 150 = .ok (.i2l, 1) := by decide +kernel
theorem dX7_count_151 : decode cX7_count 151 = .ok (.lreturn, 1) := by decide +kernel
theorem dX7_count_152 : decode cX7_count 152 = .ok (.aload_n 0, 1) := by decide +kernel
theorem dX7_count_153 : decode cX7_count 153 = .ok (.getfield 10, 3) := by decide +kernel
theorem dX7_count_156 : decode cX7_count 156 = .ok (.getfield 104, 3) := by decide +kernel
theorem dX7_count_159 : decode cX7_count 159 = .ok (.i2l, 1) := by decide +kernel
theorem dX7_count_160 : decode cX7_count 160 = .ok (.lreturn, 1) := by decide +kernel
theorem dX7_count_161 : decode cX7_count 161 = .ok (.aload_n 0, 1) := by decide +kernel
theorem dX7_count_162 : decode cX7_count 162 = .ok (.getfield 10, 3) := by decide +kernel
theorem dX7_count_165 : decode cX7_count 165 = .ok (.invokevirtual 107, 3) := by decide +kernel
theorem dX7_count_168 : decode cX7_count 168 = .ok (.i2l, 1) := by decide +kernel
theorem dX7_count_169 : decode cX7_count 169 = .ok (.lreturn, 1) := by decide +kernel
theorem dX7_count_170 : decode cX7_count 170 = .ok (.aload_n 0, 1) := by decide +kernel
theorem dX7_count_171 : decode cX7_count 171 = .ok (.getfield 10, 3) := by decide +kernel
theorem dX7_count_174 : decode cX7_count 174 = .ok (.getfield 111, 3) := by decide +kernel
theorem dX7_count_177 : decode cX7_count 177 = .ok (.lreturn, 1) := by decide +kernel
theorem dX7_count_178 : decode cX7_count 178 = .ok (.aload_n 0, 1) := by decide +kernel
theorem dX7_count_179 : decode cX7_count 179 = .ok (.getfield 19, 3) := by decide +kernel
theorem dX7_count_182 : decode cX7_count 182 = .ok (.getfield 115, 3) := by decide +kernel
theorem dX7_count_185 : decode cX7_count 185 = .ok (.i2l, 1) := by decide +kernel
theorem dX7_count_186 : decode cX7_count 186 = .ok (.lreturn, 1) := by decide +kernel
theorem dX7_count_187 : decode cX7_count 187 = .ok (.aload_n 0, 1) := by decide +kernel
theorem dX7_count_188 : decode cX7_count 188 = .ok (.getfield 26, 3) := by decide +kernel
theorem dX7_count_191 : decode cX7_count 191 = .ok (.getfield 118, 3) := by decide +kernel
theorem dX7_count_194 : decode cX7_count 194 = .ok (.i2l, 1) := by decide +kernel
theorem dX7_count_195 : decode cX7_count 195 = .ok (.lreturn, 1) := by decide +kernel
theorem dX7_count_196 : decode cX7_count 196 = .ok (.aload_n 0, 1) := by decide +kernel
theorem dX7_count_197 : decode cX7_count 197 = .ok (.getfield 10, 3) := by decide +kernel
theorem dX7_count_200 : decode cX7_count 200 = .ok (.invokevirtual 121, 3) := by decide +kernel
theorem dX7_count_203 : decode cX7_count 203 = .ok (.lreturn, 1) := by decide +kernel
theorem dX7_count_204 : decode cX7_count 204 = .ok (.aload_n 0, 1) := by decide +kernel
theorem dX7_count_205 : decode cX7_count 205 = .ok (.getfield 10, 3) := by decide +kernel
theorem dX7_count_208 : decode cX7_count 208 = .ok (.getfield 125, 3) := by decide +kernel
theorem dX7_count_211 : decode cX7_count 211 = .ok (.lreturn, 1) := by decide +kernel
theorem dX7_count_212 : decode cX7_count 212 = .ok (.aload_n 0, 1) := by decide +kernel
theorem dX7_count_213 : decode cX7_count 213 = .ok (.getfield 10, 3) := by decide +kernel
theorem dX7_count_216 : decode cX7_count 216 = .ok (.getfield 128, 3) := by decide +kernel
theorem dX7_count_219 : decode cX7_count 219 = .ok (.lreturn, 1) := by decide +kernel
theorem dX7_count_220 : decode cX7_count 220 = .ok (.aload_n 0, 1) := by decide +kernel
theorem dX7_count_221 : decode cX7_count 221 = .ok (.getfield 10, 3) := by decide +kernel
theorem dX7_count_224 : decode cX7_count 224 = .ok (.getfield 131, 3) := by decide +kernel
theorem dX7_count_227 : decode cX7_count 227 = .ok (.lreturn, 1) := by decide +kernel
theorem dX7_count_228 : decode cX7_count 228 = .ok (.aload_n 0, 1) := by decide +kernel
theorem dX7_count_229 : decode cX7_count 229 = .ok (.getfield 10, 3) := by decide +kernel
theorem dX7_count_232 : decode cX7_count 232 = .ok (.getfield 134, 3) := by decide +kernel
theorem dX7_count_235 : decode cX7_count 235 = .ok (.lreturn, 1) := by decide +kernel
theorem dX7_count_236 : decode cX7_count 236 = .ok (.aload_n 0, 1) := by decide +kernel
theorem dX7_count_237 : decode cX7_count 237 = .ok (.getfield 10, 3) := by decide +kernel
theorem dX7_count_240 : decode cX7_count 240 = .ok (.getfield 137, 3) := by decide +kernel
theorem dX7_count_243 : decode cX7_count 243 = .ok (.lreturn, 1) := by decide +kernel
theorem dX7_count_244 : decode cX7_count 244 = .ok (.ldc2_w 140, 3) := by decide +kernel
theorem dX7_count_247 : decode cX7_count 247 = .ok (.lreturn, 1) := by decide +kernel
theorem dX7_pile_0 : decode cX7_pile 0 = .ok (.iload_n 1, 1) := by decide +kernel
theorem dX7_pile_1 : decode cX7_pile 1 = .ok (.iconst 0, 1) := by decide +kernel
theorem dX7_pile_2 : decode cX7_pile 2 = .ok (.sipush 20000, 3) := by decide +kernel
theorem dX7_pile_5 : decode cX7_pile 5 = .ok (.invokestatic 54, 3) := by decide +kernel
theorem dX7_pile_8 : decode cX7_pile 8 = .ok (.ifCond .eq 26, 3) := by decide +kernel
theorem dX7_pile_11 : decode cX7_pile 11 = .ok (.iload_n 2, 1) := by decide +kernel
theorem dX7_pile_12 : decode cX7_pile 12 = .ok (.iconst 0, 1) := by decide +kernel
theorem dX7_pile_13 : decode cX7_pile 13 = .ok (.sipush 20000, 3) := by decide +kernel
theorem dX7_pile_16 : decode cX7_pile 16 = .ok (.invokestatic 54, 3) := by decide +kernel
theorem dX7_pile_19 : decode cX7_pile 19 = .ok (.ifCond .eq 15, 3) := by decide +kernel
theorem dX7_pile_22 : decode cX7_pile 22 = .ok (.iload_n 3, 1) := by decide +kernel
theorem dX7_pile_23 : decode cX7_pile 23 = .ok (.sipush 1000, 3) := by decide +kernel
theorem dX7_pile_26 : decode cX7_pile 26 = .ok (.ldc 142, 2) := by decide +kernel
theorem dX7_pile_28 : decode cX7_pile 28 = .ok (.invokestatic 54, 3) := by decide +kernel
theorem dX7_pile_31 : decode cX7_pile 31 = .ok (.ifCond .ne 5, 3) := by decide +kernel
theorem dX7_pile_34 : decode cX7_pile 34 = .ok (.iconst (-1), 1) := by decide +kernel
theorem dX7_pile_35 : decode cX7_pile 35 = .ok (.ireturn, 1) := by decide +kernel
theorem dX7_pile_36 : decode cX7_pile 36 = .ok (.aload_n 0, 1) := by decide +kernel
theorem dX7_pile_37 : decode cX7_pile 37 = .ok (.getfield 10, 3) := by decide +kernel
theorem dX7_pile_40 : decode cX7_pile 40 = .ok (.iload_n 1, 1) := by decide +kernel
theorem dX7_pile_41 : decode cX7_pile 41 = .ok (.iload_n 2, 1) := by decide +kernel
theorem dX7_pile_42 : decode cX7_pile 42 = .ok (.invokevirtual 143, 3) := by decide +kernel
theorem dX7_pile_45 : decode cX7_pile 45 = .ok (.ifCond .eq 6, 3) := by decide +kernel
theorem dX7_pile_48 : decode cX7_pile 48 = .ok (.bipush (-2), 2) := by decide +kernel
theorem dX7_pile_50 : decode cX7_pile 50 = .ok (.ireturn, 1) := by decide +kernel
theorem dX7_pile_51 : decode cX7_pile 51 = .ok (.aload_n 0, 1) := by decide +kernel
theorem dX7_pile_52 : decode cX7_pile 52 = .ok (.getfield 10, 3) := by decide +kernel
theorem dX7_pile_55 : decode cX7_pile 55 = .ok (.getfield 104, 3) := by decide +kernel
theorem dX7_pile_58 : decode cX7_pile 58 = .ok (.bipush 10, 2) := by decide +kernel
theorem dX7_pile_60 : decode cX7_pile 60 = .ok (.if_icmp .lt 6, 3) := by decide +kernel
theorem dX7_pile_63 : decode cX7_pile 63 = .ok (.bipush (-3), 2) := by decide +kernel
theorem dX7_pile_65 : decode cX7_pile 65 = .ok (.ireturn, 1) := by decide +kernel
theorem dX7_pile_66 : decode cX7_pile 66 = .ok (.aload_n 0, 1) := by decide +kernel
theorem dX7_pile_67 : decode cX7_pile 67 = .ok (.getfield 19, 3) := by decide +kernel
theorem dX7_pile_70 : decode cX7_pile 70 = .ok (.aload_n 0, 1) := by decide +kernel
theorem dX7_pile_71 : decode cX7_pile 71 = .ok (.getfield 10, 3) := by decide +kernel
theorem dX7_pile_74 : decode cX7_pile 74 = .ok (.invokevirtual 58, 3) := by decide +kernel
theorem dX7_pile_77 : decode cX7_pile 77 = .ok (.aload_n 0, 1) := by decide +kernel
theorem dX7_pile_78 : decode cX7_pile 78 = .ok (.getfield 10, 3) := by decide +kernel
theorem dX7_pile_81 : decode cX7_pile 81 = .ok (.iload_n 1, 1) := by decide +kernel
theorem dX7_pile_82 : decode cX7_pile 82 = .ok (.iload_n 2, 1) := by decide +kernel
theorem dX7_pile_83 : decode cX7_pile 83 = .ok (.iload_n 3, 1) := by decide +kernel
theorem dX7_pile_84 : decode cX7_pile 84 = .ok (.invokevirtual 147, 3) := by decide +kernel
theorem dX7_pile_87 : decode cX7_pile 87 = .ok (.ireturn, 1) := by decide +kernel
theorem dX7_pileOf_0 : decode cX7_pileOf 0 = .ok (.aload_n 0, 1) := by decide +kernel
theorem dX7_pileOf_1 : decode cX7_pileOf 1 = .ok (.getfield 10, 3) := by decide +kernel
theorem dX7_pileOf_4 : decode cX7_pileOf 4 = .ok (.iload_n 1, 1) := by decide +kernel
theorem dX7_pileOf_5 : decode cX7_pileOf 5 = .ok (.invokevirtual 151, 3) := by decide +kernel
theorem dX7_pileOf_8 : decode cX7_pileOf 8 = .ok (.astore_n 3, 1) := by decide +kernel
theorem dX7_pileOf_9 : decode cX7_pileOf 9 = .ok (.aload_n 3, 1) := by decide +kernel
theorem dX7_pileOf_10 : decode cX7_pileOf 10 = .ok (.ifnonnull 5, 3) := by decide +kernel
theorem dX7_pileOf_13 : decode cX7_pileOf 13 = .ok (.iconst (-1), 1) := by decide +kernel
theorem dX7_pileOf_14 : decode cX7_pileOf 14 = .ok (.ireturn, 1) := by decide +kernel
theorem dX7_pileOf_15 : decode cX7_pileOf 15 = .ok (.iload_n 2, 1) := by decide +kernel
theorem dX7_pileOf_16 : decode cX7_pileOf 16 = .ok (.tableswitch 173 0 12 #[68, 73, 78, 83, 88, 93, 110, 131, 144, 149, 154, 159, 168], 68) := by decide +kernel
theorem dX7_pileOf_84 : decode cX7_pileOf 84 = .ok (.aload_n 3, 1) := by decide +kernel
theorem dX7_pileOf_85 : decode cX7_pileOf 85 = .ok (.getfield 155, 3) := by decide +kernel
theorem dX7_pileOf_88 : decode cX7_pileOf 88 = .ok (.ireturn, 1) := by decide +kernel
theorem dX7_pileOf_89 : decode cX7_pileOf 89 = .ok (.aload_n 3, 1) := by decide +kernel
theorem dX7_pileOf_90 : decode cX7_pileOf 90 = .ok (.getfield 160, 3) := by decide +kernel
theorem dX7_pileOf_93 : decode cX7_pileOf 93 = .ok (.ireturn, 1) := by decide +kernel
theorem dX7_pileOf_94 : decode cX7_pileOf 94 = .ok (.aload_n 3, 1) := by decide +kernel
theorem dX7_pileOf_95 : decode cX7_pileOf 95 = .ok (.getfield 163, 3) := by decide +kernel
theorem dX7_pileOf_98 : decode cX7_pileOf 98 = .ok (.ireturn, 1) := by decide +kernel
theorem dX7_pileOf_99 : decode cX7_pileOf 99 = .ok (.aload_n 3, 1) := by decide +kernel
theorem dX7_pileOf_100 : decode cX7_pileOf 100 = .ok (.getfield 164, 3) := by decide +kernel
theorem dX7_pileOf_103 : decode cX7_pileOf 103 = .ok (.ireturn, 1) := by decide +kernel
theorem dX7_pileOf_104 : decode cX7_pileOf 104 = .ok (.aload_n 3, 1) := by decide +kernel
theorem dX7_pileOf_105 : decode cX7_pileOf 105 = .ok (.getfield 167, 3) := by decide +kernel
theorem dX7_pileOf_108 : decode cX7_pileOf 108 = .ok (.ireturn, 1) := by decide +kernel
theorem dX7_pileOf_109 : decode cX7_pileOf 109 = .ok (.aload_n 3, 1) := by decide +kernel
theorem dX7_pileOf_110 : decode cX7_pileOf 110 = .ok (.getfield 167, 3) := by decide +kernel
theorem dX7_pileOf_113 : decode cX7_pileOf 113 = .ok (.ifCond .le 10, 3) := by decide +kernel
theorem dX7_pileOf_116 : decode cX7_pileOf 116 = .ok (.aload_n 3, 1) := by decide +kernel
theorem dX7_pileOf_117 : decode cX7_pileOf 117 = .ok (.getfield 170, 3) := by decide +kernel
theorem dX7_pileOf_120 : decode cX7_pileOf 120 = .ok (.goto 5, 3) := by decide +kernel
theorem dX7_pileOf_123 : decode cX7_pileOf 123 = .ok (.bipush (-4), 2) := by decide +kernel
theorem dX7_pileOf_125 : decode cX7_pileOf 125 = .ok (.ireturn, 1) := by decide +kernel
theorem dX7_pileOf_126 : decode cX7_pileOf 126 = .ok (.aload_n 3, 1) := by decide +kernel
theorem dX7_pileOf_127 : decode cX7_pileOf 127 = .ok (.getfield 167, 3) := by decide +kernel
theorem dX7_pileOf_130 : decode cX7_pileOf 130 = .ok (.ifCond .le 14, 3) := by decide +kernel
theorem dX7_pileOf_133 : decode cX7_pileOf 133 = .ok (.aload_n 0, 1) := by decide +kernel
theorem dX7_pileOf_134 : decode cX7_pileOf 134 = .ok (.getfield 10, 3) := by decide +kernel
theorem dX7_pileOf_137 : decode cX7_pileOf 137 = .ok (.aload_n 3, 1) := by decide +kernel
theorem dX7_pileOf_138 : decode cX7_pileOf 138 = .ok (.invokevirtual 173, 3) := by decide +kernel
theorem dX7_pileOf_141 : decode cX7_pileOf 141 = .ok (.goto 5, 3) := by decide +kernel
theorem dX7_pileOf_144 : decode cX7_pileOf 144 = .ok (.bipush (-4), 2) := by decide +kernel
theorem dX7_pileOf_146 : decode cX7_pileOf 146 = .ok (.ireturn, 1) := by decide +kernel
theorem dX7_pileOf_147 : decode cX7_pileOf 147 = .ok (.aload_n 3, 1) := by decide +kernel
theorem dX7_pileOf_148 : decode cX7_pileOf 148 = .ok (.getfield 177, 3) := by decide +kernel
theorem dX7_pileOf_151 : decode cX7_pileOf 151 = .ok (.ifCond .eq 7, 3) := by decide +kernel
theorem dX7_pileOf_154 : decode cX7_pileOf 154 = .ok (.iconst 1, 1) := by decide +kernel
theorem dX7_pileOf_155 : decode cX7_pileOf 155 = .ok (.goto 4, 3) := by decide +kernel
theorem dX7_pileOf_158 : decode cX7_pileOf 158 = .ok (.iconst 0, 1) := by decide +kernel
theorem dX7_pileOf_159 : decode cX7_pileOf 159 = .ok (.ireturn, 1) := by decide +kernel
theorem dX7_pileOf_160 : decode cX7_pileOf 160 = .ok (.aload_n 3, 1) := by decide +kernel
theorem dX7_pileOf_161 : decode cX7_pileOf 161 = .ok (.getfield 181, 3) := by decide +kernel
theorem dX7_pileOf_164 : decode cX7_pileOf 164 = .ok (.ireturn, 1) := by decide +kernel
theorem dX7_pileOf_165 : decode cX7_pileOf 165 = .ok (.aload_n 3, 1) := by decide +kernel
theorem dX7_pileOf_166 : decode cX7_pileOf 166 = .ok (.getfield 183, 3) := by decide +kernel
theorem dX7_pileOf_169 : decode cX7_pileOf 169 = .ok (.ireturn, 1) := by decide +kernel
theorem dX7_pileOf_170 : decode cX7_pileOf 170 = .ok (.aload_n 3, 1) := by decide +kernel
theorem dX7_pileOf_171 : decode cX7_pileOf 171 = .ok (.getfield 185, 3) := by decide +kernel
theorem dX7_pileOf_174 : decode cX7_pileOf 174 = .ok (.ireturn, 1) := by decide +kernel
theorem dX7_pileOf_175 : decode cX7_pileOf 175 = .ok (.aload_n 0, 1) := by decide +kernel
theorem dX7_pileOf_176 : decode cX7_pileOf 176 = .ok (.getfield 10, 3) := by decide +kernel
theorem dX7_pileOf_179 : decode cX7_pileOf 179 = .ok (.aload_n 3, 1) := by decide +kernel
theorem dX7_pileOf_180 : decode cX7_pileOf 180 = .ok (.invokevirtual 187, 3) := by decide +kernel
theorem dX7_pileOf_183 : decode cX7_pileOf 183 = .ok (.ireturn, 1) := by decide +kernel
theorem dX7_pileOf_184 : decode cX7_pileOf 184 = .ok (.aload_n 3, 1) := by decide +kernel
theorem dX7_pileOf_185 : decode cX7_pileOf 185 = .ok (.getfield 190, 3) := by decide +kernel
theorem dX7_pileOf_188 : decode cX7_pileOf 188 = .ok (.ireturn, 1) := by decide +kernel
theorem dX7_pileOf_189 : decode cX7_pileOf 189 = .ok (.iconst (-1), 1) := by decide +kernel
theorem dX7_pileOf_190 : decode cX7_pileOf 190 = .ok (.ireturn, 1) := by decide +kernel
theorem dX7_blow_0 : decode cX7_blow 0 = .ok (.aload_n 0, 1) := by decide +kernel
theorem dX7_blow_1 : decode cX7_blow 1 = .ok (.getfield 10, 3) := by decide +kernel
theorem dX7_blow_4 : decode cX7_blow 4 = .ok (.iload_n 1, 1) := by decide +kernel
theorem dX7_blow_5 : decode cX7_blow 5 = .ok (.invokevirtual 151, 3) := by decide +kernel
theorem dX7_blow_8 : decode cX7_blow 8 = .ok (.astore 4, 2) := by decide +kernel
theorem dX7_blow_10 : decode cX7_blow 10 = .ok (.aload 4, 2) := by decide +kernel
theorem dX7_blow_12 : decode cX7_blow 12 = .ok (.ifnull 16, 3) := by decide +kernel
theorem dX7_blow_15 : decode cX7_blow 15 = .ok (.iload_n 2, 1) := by decide +kernel
theorem dX7_blow_16 : decode cX7_blow 16 = .ok (.ifCond .lt 12, 3) := by decide +kernel
theorem dX7_blow_19 : decode cX7_blow 19 = .ok (.iload_n 3, 1) := by decide +kernel
theorem dX7_blow_20 : decode cX7_blow 20 = .ok (.iconst 0, 1) := by decide +kernel
theorem dX7_blow_21 : decode cX7_blow 21 = .ok (.iconst 1, 1) := by decide +kernel
theorem dX7_blow_22 : decode cX7_blow 22 = .ok (.invokestatic 54, 3) := by decide +kernel
theorem dX7_blow_25 : decode cX7_blow 25 = .ok (.ifCond .ne 5, 3) := by decide +kernel
theorem dX7_blow_28 : decode cX7_blow 28 = .ok (.iconst (-1), 1) := by decide +kernel
theorem dX7_blow_29 : decode cX7_blow 29 = .ok (.ireturn, 1) := by decide +kernel
theorem dX7_blow_30 : decode cX7_blow 30 = .ok (.iload_n 2, 1) := by decide +kernel
theorem dX7_blow_31 : decode cX7_blow 31 = .ok (.aload 4, 2) := by decide +kernel
theorem dX7_blow_33 : decode cX7_blow 33 = .ok (.getfield 190, 3) := by decide +kernel
theorem dX7_blow_36 : decode cX7_blow 36 = .ok (.if_icmp .lt 6, 3) := by decide +kernel
theorem dX7_blow_39 : decode cX7_blow 39 = .ok (.bipush (-4), 2) := by decide +kernel
theorem dX7_blow_41 : decode cX7_blow 41 = .ok (.ireturn, 1) := by decide +kernel
theorem dX7_blow_42 : decode cX7_blow 42 = .ok (.aload 4, 2) := by decide +kernel
theorem dX7_blow_44 : decode cX7_blow 44 = .ok (.getfield 190, 3) := by decide +kernel
theorem dX7_blow_47 : decode cX7_blow 47 = .ok (.iconst 1, 1) := by decide +kernel
theorem dX7_blow_48 : decode cX7_blow 48 = .ok (.isub, 1) := by decide +kernel
theorem dX7_blow_49 : decode cX7_blow 49 = .ok (.iload_n 2, 1) := by decide +kernel
theorem dX7_blow_50 : decode cX7_blow 50 = .ok (.isub, 1) := by decide +kernel
theorem dX7_blow_51 : decode cX7_blow 51 = .ok (.istore 5, 2) := by decide +kernel
theorem dX7_blow_53 : decode cX7_blow 53 = .ok (.iload_n 3, 1) := by decide +kernel
theorem dX7_blow_54 : decode cX7_blow 54 = .ok (.ifCond .ne 13, 3) := by decide +kernel
theorem dX7_blow_57 : decode cX7_blow 57 = .ok (.aload 4, 2) := by decide +kernel
theorem dX7_blow_59 : decode cX7_blow 59 = .ok (.iload 5, 2) := by decide +kernel
theorem dX7_blow_61 : decode cX7_blow 61 = .ok (.invokevirtual 193, 3) := by decide +kernel
theorem dX7_blow_64 : decode cX7_blow 64 = .ok (.goto 10, 3) := by decide +kernel
theorem dX7_blow_67 : decode cX7_blow 67 = .ok (.aload 4, 2) := by decide +kernel
theorem dX7_blow_69 : decode cX7_blow 69 = .ok (.iload 5, 2) := by decide +kernel
theorem dX7_blow_71 : decode cX7_blow 71 = .ok (.invokevirtual 196, 3) := by decide +kernel
theorem dX7_blow_74 : decode cX7_blow 74 = .ok (.ireturn, 1) := by decide +kernel
theorem dX7_strike_0 : decode cX7_strike 0 = .ok (.aload_n 0, 1) := by decide +kernel
theorem dX7_strike_1 : decode cX7_strike 1 = .ok (.getfield 10, 3) := by decide +kernel
theorem dX7_strike_4 : decode cX7_strike 4 = .ok (.iload_n 1, 1) := by decide +kernel
theorem dX7_strike_5 : decode cX7_strike 5 = .ok (.invokevirtual 151, 3) := by decide +kernel
theorem dX7_strike_8 : decode cX7_strike 8 = .ok (.astore_n 3, 1) := by decide +kernel
theorem dX7_strike_9 : decode cX7_strike 9 = .ok (.aload_n 3, 1) := by decide +kernel
theorem dX7_strike_10 : decode cX7_strike 10 = .ok (.ifnull 10, 3) := by decide +kernel
theorem dX7_strike_13 : decode cX7_strike 13 = .ok (.iload_n 2, 1) := by decide +kernel
theorem dX7_strike_14 : decode cX7_strike 14 = .ok (.invokestatic 199, 3) := by decide +kernel
theorem dX7_strike_17 : decode cX7_strike 17 = .ok (.ifCond .ne 5, 3) := by decide +kernel
theorem dX7_strike_20 : decode cX7_strike 20 = .ok (.iconst (-1), 1) := by decide +kernel
theorem dX7_strike_21 : decode cX7_strike 21 = .ok (.ireturn, 1) := by decide +kernel
theorem dX7_strike_22 : decode cX7_strike 22 = .ok (.aload_n 3, 1) := by decide +kernel
theorem dX7_strike_23 : decode cX7_strike 23 = .ok (.invokevirtual 202, 3) := by decide +kernel
theorem dX7_strike_26 : decode cX7_strike 26 = .ok (.ifCond .gt 6, 3) := by decide +kernel
theorem dX7_strike_29 : decode cX7_strike 29 = .ok (.bipush (-2), 2) := by decide +kernel
theorem dX7_strike_31 : decode cX7_strike 31 = .ok (.ireturn, 1) := by decide +kernel
theorem dX7_strike_32 : decode cX7_strike 32 = .ok (.aload_n 0, 1) := by decide +kernel
theorem dX7_strike_33 : decode cX7_strike 33 = .ok (.getfield 19, 3) := by decide +kernel
theorem dX7_strike_36 : decode cX7_strike 36 = .ok (.aload_n 0, 1) := by decide +kernel
theorem dX7_strike_37 : decode cX7_strike 37 = .ok (.getfield 10, 3) := by decide +kernel
theorem dX7_strike_40 : decode cX7_strike 40 = .ok (.invokevirtual 58, 3) := by decide +kernel
theorem dX7_strike_43 : decode cX7_strike 43 = .ok (.aload_n 0, 1) := by decide +kernel
theorem dX7_strike_44 : decode cX7_strike 44 = .ok (.getfield 10, 3) := by decide +kernel
theorem dX7_strike_47 : decode cX7_strike 47 = .ok (.aload_n 3, 1) := by decide +kernel
theorem dX7_strike_48 : decode cX7_strike 48 = .ok (.iload_n 2, 1) := by decide +kernel
theorem dX7_strike_49 : decode cX7_strike 49 = .ok (.invokevirtual 205, 3) := by decide +kernel
theorem dX7_strike_52 : decode cX7_strike 52 = .ok (.ireturn, 1) := by decide +kernel
theorem dX7_drive_0 : decode cX7_drive 0 = .ok (.aload_n 0, 1) := by decide +kernel
theorem dX7_drive_1 : decode cX7_drive 1 = .ok (.getfield 10, 3) := by decide +kernel
theorem dX7_drive_4 : decode cX7_drive 4 = .ok (.iload_n 1, 1) := by decide +kernel
theorem dX7_drive_5 : decode cX7_drive 5 = .ok (.invokevirtual 151, 3) := by decide +kernel
theorem dX7_drive_8 : decode cX7_drive 8 = .ok (.astore 5, 2) := by decide +kernel
theorem dX7_drive_10 : decode cX7_drive 10 = .ok (.aload 5, 2) := by decide +kernel
theorem dX7_drive_12 : decode cX7_drive 12 = .ok (.ifnull 32, 3) := by decide +kernel
theorem dX7_drive_15 : decode cX7_drive 15 = .ok (.iload_n 2, 1) := by decide +kernel
theorem dX7_drive_16 : decode cX7_drive 16 = .ok (.invokestatic 199, 3) := by decide +kernel
theorem dX7_drive_19 : decode cX7_drive 19 = .ok (.ifCond .eq 25, 3) := by decide +kernel
theorem dX7_drive_22 : decode cX7_drive 22 = .ok (.iload_n 3, 1) := by decide +kernel
theorem dX7_drive_23 : decode cX7_drive 23 = .ok (.iconst 0, 1) := by decide +kernel
theorem dX7_drive_24 : decode cX7_drive 24 = .ok (.sipush 500, 3) := by decide +kernel
theorem dX7_drive_27 : decode cX7_drive 27 = .ok (.invokestatic 54, 3) := by decide +kernel
theorem dX7_drive_30 : decode cX7_drive 30 = .ok (.ifCond .eq 14, 3) := by decide +kernel
theorem dX7_drive_33 : decode cX7_drive 33 = .ok (.iload 4, 2) := by decide +kernel
theorem dX7_drive_35 : decode cX7_drive 35 = .ok (.iconst 1, 1) := by decide +kernel
theorem dX7_drive_36 : decode cX7_drive 36 = .ok (.bipush 100, 2) := by decide +kernel
theorem dX7_drive_38 : decode cX7_drive 38 = .ok (.invokestatic 54, 3) := by decide +kernel
theorem dX7_drive_41 : decode cX7_drive 41 = .ok (.ifCond .ne 5, 3) := by decide +kernel
theorem dX7_drive_44 : decode cX7_drive 44 = .ok (.iconst (-1), 1) := by decide +kernel
theorem dX7_drive_45 : decode cX7_drive 45 = .ok (.ireturn, 1) := by decide +kernel
theorem dX7_drive_46 : decode cX7_drive 46 = .ok (.aload 5, 2) := by decide +kernel
theorem dX7_drive_48 : decode cX7_drive 48 = .ok (.invokevirtual 202, 3) := by decide +kernel
theorem dX7_drive_51 : decode cX7_drive 51 = .ok (.ifCond .gt 6, 3) := by decide +kernel
theorem dX7_drive_54 : decode cX7_drive 54 = .ok (.bipush (-2), 2) := by decide +kernel
theorem dX7_drive_56 : decode cX7_drive 56 = .ok (.ireturn, 1) := by decide +kernel
theorem dX7_drive_57 : decode cX7_drive 57 = .ok (.aload_n 0, 1) := by decide +kernel
theorem dX7_drive_58 : decode cX7_drive 58 = .ok (.getfield 19, 3) := by decide +kernel
theorem dX7_drive_61 : decode cX7_drive 61 = .ok (.aload_n 0, 1) := by decide +kernel
theorem dX7_drive_62 : decode cX7_drive 62 = .ok (.getfield 10, 3) := by decide +kernel
theorem dX7_drive_65 : decode cX7_drive 65 = .ok (.invokevirtual 58, 3) := by decide +kernel
theorem dX7_drive_68 : decode cX7_drive 68 = .ok (.iconst 0, 1) := by decide +kernel
theorem dX7_drive_69 : decode cX7_drive 69 = .ok (.istore 6, 2) := by decide +kernel
theorem dX7_drive_71 : decode cX7_drive 71 = .ok (.iconst 1, 1) := by decide +kernel
theorem dX7_drive_72 : decode cX7_drive 72 = .ok (.istore 7, 2) := by decide +kernel
theorem dX7_drive_74 : decode cX7_drive 74 = .ok (.iload 7, 2) := by decide +kernel
theorem dX7_drive_76 : decode cX7_drive 76 = .ok (.ifCond .eq 49, 3) := by decide +kernel
theorem dX7_drive_79 : decode cX7_drive 79 = .ok (.iload 6, 2) := by decide +kernel
theorem dX7_drive_81 : decode cX7_drive 81 = .ok (.iload 4, 2) := by decide +kernel
theorem dX7_drive_83 : decode cX7_drive 83 = .ok (.if_icmp .ge 42, 3) := by decide +kernel
theorem dX7_drive_86 : decode cX7_drive 86 = .ok (.aload_n 0, 1) := by decide +kernel
theorem dX7_drive_87 : decode cX7_drive 87 = .ok (.getfield 10, 3) := by decide +kernel
theorem dX7_drive_90 : decode cX7_drive 90 = .ok (.aload 5, 2) := by decide +kernel
theorem dX7_drive_92 : decode cX7_drive 92 = .ok (.iload_n 2, 1) := by decide +kernel
theorem dX7_drive_93 : decode cX7_drive 93 = .ok (.invokevirtual 205, 3) := by decide +kernel
theorem dX7_drive_96 : decode cX7_drive 96 = .ok (.istore 8, 2) := by decide +kernel
theorem dX7_drive_98 : decode cX7_drive 98 = .ok (.iinc 6 1, 3) := by decide +kernel
theorem dX7_drive_101 : decode cX7_drive 101 = .ok (.iload 8, 2) := by decide +kernel
theorem dX7_drive_103 : decode cX7_drive 103 = .ok (.iload_n 3, 1) := by decide +kernel
theorem dX7_drive_104 : decode cX7_drive 104 = .ok (.if_icmp .le 15, 3) := by decide +kernel
theorem dX7_drive_107 : decode cX7_drive 107 = .ok (.aload 5, 2) := by decide +kernel
theorem dX7_drive_109 : decode cX7_drive 109 = .ok (.invokevirtual 202, 3) := by decide +kernel
theorem dX7_drive_112 : decode cX7_drive 112 = .ok (.ifCond .le 7, 3) := by decide +kernel
theorem dX7_drive_115 : decode cX7_drive 115 = .ok (.iconst 1, 1) := by decide +kernel
theorem dX7_drive_116 : decode cX7_drive 116 = .ok (.goto 4, 3) := by decide +kernel
theorem dX7_drive_119 : decode cX7_drive 119 = .ok (.iconst 0, 1) := by decide +kernel
theorem dX7_drive_120 : decode cX7_drive 120 = .ok (.istore 7, 2) := by decide +kernel
theorem dX7_drive_122 : decode cX7_drive 122 = .ok (.goto (-48), 3) := by decide +kernel
theorem dX7_drive_125 : decode cX7_drive 125 = .ok (.iload 6, 2) := by decide +kernel
theorem dX7_drive_127 : decode cX7_drive 127 = .ok (.ireturn, 1) := by decide +kernel
theorem dX7_would_0 : decode cX7_would 0 = .ok (.aload_n 0, 1) := by decide +kernel
theorem dX7_would_1 : decode cX7_would 1 = .ok (.getfield 10, 3) := by decide +kernel
theorem dX7_would_4 : decode cX7_would 4 = .ok (.iload_n 1, 1) := by decide +kernel
theorem dX7_would_5 : decode cX7_would 5 = .ok (.invokevirtual 151, 3) := by decide +kernel
theorem dX7_would_8 : decode cX7_would 8 = .ok (.astore_n 3, 1) := by decide +kernel
theorem dX7_would_9 : decode cX7_would 9 = .ok (.aload_n 3, 1) := by decide +kernel
theorem dX7_would_10 : decode cX7_would 10 = .ok (.ifnull 10, 3) := by decide +kernel
theorem dX7_would_13 : decode cX7_would 13 = .ok (.iload_n 2, 1) := by decide +kernel
theorem dX7_would_14 : decode cX7_would 14 = .ok (.invokestatic 199, 3) := by decide +kernel
theorem dX7_would_17 : decode cX7_would 17 = .ok (.ifCond .ne 5, 3) := by decide +kernel
theorem dX7_would_20 : decode cX7_would 20 = .ok (.iconst (-1), 1) := by decide +kernel
theorem dX7_would_21 : decode cX7_would 21 = .ok (.ireturn, 1) := by decide +kernel
theorem dX7_would_22 : decode cX7_would 22 = .ok (.aload_n 3, 1) := by decide +kernel
theorem dX7_would_23 : decode cX7_would 23 = .ok (.invokevirtual 202, 3) := by decide +kernel
theorem dX7_would_26 : decode cX7_would 26 = .ok (.ifCond .gt 6, 3) := by decide +kernel
theorem dX7_would_29 : decode cX7_would 29 = .ok (.bipush (-2), 2) := by decide +kernel
theorem dX7_would_31 : decode cX7_would 31 = .ok (.ireturn, 1) := by decide +kernel
theorem dX7_would_32 : decode cX7_would 32 = .ok (.aload_n 0, 1) := by decide +kernel
theorem dX7_would_33 : decode cX7_would 33 = .ok (.getfield 10, 3) := by decide +kernel
theorem dX7_would_36 : decode cX7_would 36 = .ok (.aload_n 0, 1) := by decide +kernel
theorem dX7_would_37 : decode cX7_would 37 = .ok (.getfield 10, 3) := by decide +kernel
theorem dX7_would_40 : decode cX7_would 40 = .ok (.iload_n 2, 1) := by decide +kernel
theorem dX7_would_41 : decode cX7_would 41 = .ok (.invokevirtual 209, 3) := by decide +kernel
theorem dX7_would_44 : decode cX7_would 44 = .ok (.aload_n 3, 1) := by decide +kernel
theorem dX7_would_45 : decode cX7_would 45 = .ok (.getfield 164, 3) := by decide +kernel
theorem dX7_would_48 : decode cX7_would 48 = .ok (.aload_n 3, 1) := by decide +kernel
theorem dX7_would_49 : decode cX7_would 49 = .ok (.getfield 163, 3) := by decide +kernel
theorem dX7_would_52 : decode cX7_would 52 = .ok (.invokevirtual 212, 3) := by decide +kernel
theorem dX7_would_55 : decode cX7_would 55 = .ok (.ireturn, 1) := by decide +kernel
theorem dX7_fallFor_0 : decode cX7_fallFor 0 = .ok (.aload_n 0, 1) := by decide +kernel
theorem dX7_fallFor_1 : decode cX7_fallFor 1 = .ok (.getfield 10, 3) := by decide +kernel
theorem dX7_fallFor_4 : decode cX7_fallFor 4 = .ok (.iload_n 1, 1) := by decide +kernel
theorem dX7_fallFor_5 : decode cX7_fallFor 5 = .ok (.invokevirtual 151, 3) := by decide +kernel
theorem dX7_fallFor_8 : decode cX7_fallFor 8 = .ok (.astore_n 3, 1) := by decide +kernel
theorem dX7_fallFor_9 : decode cX7_fallFor 9 = .ok (.aload_n 3, 1) := by decide +kernel
theorem dX7_fallFor_10 : decode cX7_fallFor 10 = .ok (.ifnull 14, 3) := by decide +kernel
theorem dX7_fallFor_13 : decode cX7_fallFor 13 = .ok (.iload_n 2, 1) := by decide +kernel
theorem dX7_fallFor_14 : decode cX7_fallFor 14 = .ok (.iconst 0, 1) := by decide +kernel
theorem dX7_fallFor_15 : decode cX7_fallFor 15 = .ok (.sipush 500, 3) := by decide +kernel
theorem dX7_fallFor_18 : decode cX7_fallFor 18 = .ok (.invokestatic 54, 3) := by decide +kernel
theorem dX7_fallFor_21 : decode cX7_fallFor 21 = .ok (.ifCond .ne 5, 3) := by decide +kernel
theorem dX7_fallFor_24 : decode cX7_fallFor 24 = .ok (.iconst (-1), 1) := by decide +kernel
theorem dX7_fallFor_25 : decode cX7_fallFor 25 = .ok (.ireturn, 1) := by decide +kernel
theorem dX7_fallFor_26 : decode cX7_fallFor 26 = .ok (.aload_n 3, 1) := by decide +kernel
theorem dX7_fallFor_27 : decode cX7_fallFor 27 = .ok (.invokevirtual 202, 3) := by decide +kernel
theorem dX7_fallFor_30 : decode cX7_fallFor 30 = .ok (.ifCond .gt 6, 3) := by decide +kernel
theorem dX7_fallFor_33 : decode cX7_fallFor 33 = .ok (.bipush (-2), 2) := by decide +kernel
theorem dX7_fallFor_35 : decode cX7_fallFor 35 = .ok (.ireturn, 1) := by decide +kernel
theorem dX7_fallFor_36 : decode cX7_fallFor 36 = .ok (.bipush 100, 2) := by decide +kernel
theorem dX7_fallFor_38 : decode cX7_fallFor 38 = .ok (.istore 4, 2) := by decide +kernel
theorem dX7_fallFor_40 : decode cX7_fallFor 40 = .ok (.iload 4, 2) := by decide +kernel
theorem dX7_fallFor_42 : decode cX7_fallFor 42 = .ok (.sipush 3000, 3) := by decide +kernel
theorem dX7_fallFor_45 : decode cX7_fallFor 45 = .ok (.if_icmp .gt 40, 3) := by decide +kernel
theorem dX7_fallFor_48 : decode cX7_fallFor 48 = .ok (.aload_n 0, 1) := by decide +kernel
theorem dX7_fallFor_49 : decode cX7_fallFor 49 = .ok (.getfield 10, 3) := by decide +kernel
theorem dX7_fallFor_52 : decode cX7_fallFor 52 = .ok (.aload_n 0, 1) := by decide +kernel
theorem dX7_fallFor_53 : decode cX7_fallFor 53 = .ok (.getfield 10, 3) := by decide +kernel
theorem dX7_fallFor_56 : decode cX7_fallFor 56 = .ok (.iload 4, 2) := by decide +kernel
theorem dX7_fallFor_58 : decode cX7_fallFor 58 = .ok (.invokevirtual 209, 3) := by decide +kernel
theorem dX7_fallFor_61 : decode cX7_fallFor 61 = .ok (.aload_n 3, 1) := by decide +kernel
theorem dX7_fallFor_62 : decode cX7_fallFor 62 = .ok (.getfield 164, 3) := by decide +kernel
theorem dX7_fallFor_65 : decode cX7_fallFor 65 = .ok (.aload_n 3, 1) := by decide +kernel
theorem dX7_fallFor_66 : decode cX7_fallFor 66 = .ok (.getfield 163, 3) := by decide +kernel
theorem dX7_fallFor_69 : decode cX7_fallFor 69 = .ok (.invokevirtual 212, 3) := by decide +kernel
theorem dX7_fallFor_72 : decode cX7_fallFor 72 = .ok (.iload_n 2, 1) := by decide +kernel
theorem dX7_fallFor_73 : decode cX7_fallFor 73 = .ok (.if_icmp .lt 6, 3) := by decide +kernel
theorem dX7_fallFor_76 : decode cX7_fallFor 76 = .ok (.iload 4, 2) := by decide +kernel
theorem dX7_fallFor_78 : decode cX7_fallFor 78 = .ok (.ireturn, 1) := by decide +kernel
theorem dX7_fallFor_79 : decode cX7_fallFor 79 = .ok (.iinc 4 1, 3) := by decide +kernel
theorem dX7_fallFor_82 : decode cX7_fallFor 82 = .ok (.goto (-42), 3) := by decide +kernel
theorem dX7_fallFor_85 : decode cX7_fallFor 85 = .ok (.bipush (-4), 2) := by decide +kernel
theorem dX7_fallFor_87 : decode cX7_fallFor 87 = .ok (.ireturn, 1) := by decide +kernel
theorem dX7_blowsTo_0 : decode cX7_blowsTo 0 = .ok (.aload_n 0, 1) := by decide +kernel
theorem dX7_blowsTo_1 : decode cX7_blowsTo 1 = .ok (.getfield 10, 3) := by decide +kernel
theorem dX7_blowsTo_4 : decode cX7_blowsTo 4 = .ok (.iload_n 1, 1) := by decide +kernel
theorem dX7_blowsTo_5 : decode cX7_blowsTo 5 = .ok (.invokevirtual 151, 3) := by decide +kernel
theorem dX7_blowsTo_8 : decode cX7_blowsTo 8 = .ok (.astore 4, 2) := by decide +kernel
theorem dX7_blowsTo_10 : decode cX7_blowsTo 10 = .ok (.aload 4, 2) := by decide +kernel
theorem dX7_blowsTo_12 : decode cX7_blowsTo 12 = .ok (.ifnull 20, 3) := by decide +kernel
theorem dX7_blowsTo_15 : decode cX7_blowsTo 15 = .ok (.iload_n 2, 1) := by decide +kernel
theorem dX7_blowsTo_16 : decode cX7_blowsTo 16 = .ok (.invokestatic 199, 3) := by decide +kernel
theorem dX7_blowsTo_19 : decode cX7_blowsTo 19 = .ok (.ifCond .eq 13, 3) := by decide +kernel
theorem dX7_blowsTo_22 : decode cX7_blowsTo 22 = .ok (.iload_n 3, 1) := by decide +kernel
theorem dX7_blowsTo_23 : decode cX7_blowsTo 23 = .ok (.iconst 0, 1) := by decide +kernel
theorem dX7_blowsTo_24 : decode cX7_blowsTo 24 = .ok (.ldc 142, 2) := by decide +kernel
theorem dX7_blowsTo_26 : decode cX7_blowsTo 26 = .ok (.invokestatic 54, 3) := by decide +kernel
theorem dX7_blowsTo_29 : decode cX7_blowsTo 29 = .ok (.ifCond .ne 5, 3) := by decide +kernel
theorem dX7_blowsTo_32 : decode cX7_blowsTo 32 = .ok (.iconst (-1), 1) := by decide +kernel
theorem dX7_blowsTo_33 : decode cX7_blowsTo 33 = .ok (.ireturn, 1) := by decide +kernel
theorem dX7_blowsTo_34 : decode cX7_blowsTo 34 = .ok (.aload 4, 2) := by decide +kernel
theorem dX7_blowsTo_36 : decode cX7_blowsTo 36 = .ok (.getfield 163, 3) := by decide +kernel
theorem dX7_blowsTo_39 : decode cX7_blowsTo 39 = .ok (.iload_n 3, 1) := by decide +kernel
theorem dX7_blowsTo_40 : decode cX7_blowsTo 40 = .ok (.if_icmp .ge 6, 3) := by decide +kernel
theorem dX7_blowsTo_43 : decode cX7_blowsTo 43 = .ok (.bipush (-4), 2) := by decide +kernel
theorem dX7_blowsTo_45 : decode cX7_blowsTo 45 = .ok (.ireturn, 1) := by decide +kernel
theorem dX7_blowsTo_46 : decode cX7_blowsTo 46 = .ok (.aload_n 0, 1) := by decide +kernel
theorem dX7_blowsTo_47 : decode cX7_blowsTo 47 = .ok (.getfield 10, 3) := by decide +kernel
theorem dX7_blowsTo_50 : decode cX7_blowsTo 50 = .ok (.aload 4, 2) := by decide +kernel
theorem dX7_blowsTo_52 : decode cX7_blowsTo 52 = .ok (.getfield 164, 3) := by decide +kernel
theorem dX7_blowsTo_55 : decode cX7_blowsTo 55 = .ok (.iload_n 3, 1) := by decide +kernel
theorem dX7_blowsTo_56 : decode cX7_blowsTo 56 = .ok (.aload_n 0, 1) := by decide +kernel
theorem dX7_blowsTo_57 : decode cX7_blowsTo 57 = .ok (.getfield 10, 3) := by decide +kernel
theorem dX7_blowsTo_60 : decode cX7_blowsTo 60 = .ok (.iload_n 2, 1) := by decide +kernel
theorem dX7_blowsTo_61 : decode cX7_blowsTo 61 = .ok (.invokevirtual 209, 3) := by decide +kernel
theorem dX7_blowsTo_64 : decode cX7_blowsTo 64 = .ok (.invokevirtual 215, 3) := by decide +kernel
theorem dX7_blowsTo_67 : decode cX7_blowsTo 67 = .ok (.ireturn, 1) := by decide +kernel
theorem dX7_test_0 : decode cX7_test 0 = .ok (.aload_n 0, 1) := by decide +kernel
theorem dX7_test_1 : decode cX7_test 1 = .ok (.getfield 10, 3) := by decide +kernel
theorem dX7_test_4 : decode cX7_test 4 = .ok (.iload_n 1, 1) := by decide +kernel
theorem dX7_test_5 : decode cX7_test 5 = .ok (.invokevirtual 151, 3) := by decide +kernel
theorem dX7_test_8 : decode cX7_test 8 = .ok (.astore_n 3, 1) := by decide +kernel
theorem dX7_test_9 : decode cX7_test 9 = .ok (.aload_n 3, 1) := by decide +kernel
theorem dX7_test_10 : decode cX7_test 10 = .ok (.ifnull 13, 3) := by decide +kernel
theorem dX7_test_13 : decode cX7_test 13 = .ok (.iload_n 2, 1) := by decide +kernel
theorem dX7_test_14 : decode cX7_test 14 = .ok (.iconst 1, 1) := by decide +kernel
theorem dX7_test_15 : decode cX7_test 15 = .ok (.ldc 218, 2) := by decide +kernel
theorem dX7_test_17 : decode cX7_test 17 = .ok (.invokestatic 54, 3) := by decide +kernel
theorem dX7_test_20 : decode cX7_test 20 = .ok (.ifCond .ne 5, 3) := by decide +kernel
theorem dX7_test_23 : decode cX7_test 23 = .ok (.iconst (-1), 1) := by decide +kernel
theorem dX7_test_24 : decode cX7_test 24 = .ok (.ireturn, 1) := by decide +kernel
theorem dX7_test_25 : decode cX7_test 25 = .ok (.aload_n 0, 1) := by decide +kernel
theorem dX7_test_26 : decode cX7_test 26 = .ok (.getfield 19, 3) := by decide +kernel
theorem dX7_test_29 : decode cX7_test 29 = .ok (.aload_n 0, 1) := by decide +kernel
theorem dX7_test_30 : decode cX7_test 30 = .ok (.getfield 10, 3) := by decide +kernel
theorem dX7_test_33 : decode cX7_test 33 = .ok (.invokevirtual 58, 3) := by decide +kernel
theorem dX7_test_36 : decode cX7_test 36 = .ok (.aload_n 0, 1) := by decide +kernel
theorem dX7_test_37 : decode cX7_test 37 = .ok (.getfield 10, 3) := by decide +kernel
theorem dX7_test_40 : decode cX7_test 40 = .ok (.aload_n 3, 1) := by decide +kernel
theorem dX7_test_41 : decode cX7_test 41 = .ok (.iload_n 2, 1) := by decide +kernel
theorem dX7_test_42 : decode cX7_test 42 = .ok (.invokevirtual 219, 3) := by decide +kernel
theorem dX7_test_45 : decode cX7_test 45 = .ok (.ireturn, 1) := by decide +kernel
theorem dX7_undo_0 : decode cX7_undo 0 = .ok (.aload_n 0, 1) := by decide +kernel
theorem dX7_undo_1 : decode cX7_undo 1 = .ok (.getfield 19, 3) := by decide +kernel
theorem dX7_undo_4 : decode cX7_undo 4 = .ok (.getfield 115, 3) := by decide +kernel
theorem dX7_undo_7 : decode cX7_undo 7 = .ok (.ifCond .gt 6, 3) := by decide +kernel
theorem dX7_undo_10 : decode cX7_undo 10 = .ok (.bipush (-2), 2) := by decide +kernel
theorem dX7_undo_12 : decode cX7_undo 12 = .ok (.ireturn, 1) := by decide +kernel
theorem dX7_undo_13 : decode cX7_undo 13 = .ok (.aload_n 0, 1) := by decide +kernel
theorem dX7_undo_14 : decode cX7_undo 14 = .ok (.getfield 19, 3) := by decide +kernel
theorem dX7_undo_17 : decode cX7_undo 17 = .ok (.aload_n 0, 1) := by decide +kernel
theorem dX7_undo_18 : decode cX7_undo 18 = .ok (.getfield 10, 3) := by decide +kernel
theorem dX7_undo_21 : decode cX7_undo 21 = .ok (.invokevirtual 222, 3) := by decide +kernel
theorem dX7_undo_24 : decode cX7_undo 24 = .ok (.aload_n 0, 1) := by decide +kernel
theorem dX7_undo_25 : decode cX7_undo 25 = .ok (.getfield 19, 3) := by decide +kernel
theorem dX7_undo_28 : decode cX7_undo 28 = .ok (.getfield 115, 3) := by decide +kernel
theorem dX7_undo_31 : decode cX7_undo 31 = .ok (.ireturn, 1) := by decide +kernel
theorem dX7_runs_0 : decode cX7_runs 0 = .ok (.aload_n 0, 1) := by decide +kernel
theorem dX7_runs_1 : decode cX7_runs 1 = .ok (.getfield 10, 3) := by decide +kernel
theorem dX7_runs_4 : decode cX7_runs 4 = .ok (.iload_n 1, 1) := by decide +kernel
theorem dX7_runs_5 : decode cX7_runs 5 = .ok (.invokevirtual 151, 3) := by decide +kernel
theorem dX7_runs_8 : decode cX7_runs 8 = .ok (.astore_n 2, 1) := by decide +kernel
theorem dX7_runs_9 : decode cX7_runs 9 = .ok (.aload_n 2, 1) := by decide +kernel
theorem dX7_runs_10 : decode cX7_runs 10 = .ok (.ifnonnull 5, 3) := by decide +kernel
theorem dX7_runs_13 : decode cX7_runs 13 = .ok (.iconst (-1), 1) := by decide +kernel
theorem dX7_runs_14 : decode cX7_runs 14 = .ok (.ireturn, 1) := by decide +kernel
theorem dX7_runs_15 : decode cX7_runs 15 = .ok (.aload_n 0, 1) := by decide +kernel
theorem dX7_runs_16 : decode cX7_runs 16 = .ok (.getfield 33, 3) := by decide +kernel
theorem dX7_runs_19 : decode cX7_runs 19 = .ok (.aload_n 2, 1) := by decide +kernel
theorem dX7_runs_20 : decode cX7_runs 20 = .ok (.iconst (-1), 1) := by decide +kernel
theorem dX7_runs_21 : decode cX7_runs 21 = .ok (.invokevirtual 225, 3) := by decide +kernel
theorem dX7_runs_24 : decode cX7_runs 24 = .ok (.aload_n 0, 1) := by decide +kernel
theorem dX7_runs_25 : decode cX7_runs 25 = .ok (.getfield 33, 3) := by decide +kernel
theorem dX7_runs_28 : decode cX7_runs 28 = .ok (.getfield 229, 3) := by decide +kernel
theorem dX7_runs_31 : decode cX7_runs 31 = .ok (.ireturn, 1) := by decide +kernel
theorem dX7_run_0 : decode cX7_run 0 = .ok (.aload_n 0, 1) := by decide +kernel
theorem dX7_run_1 : decode cX7_run 1 = .ok (.getfield 10, 3) := by decide +kernel
theorem dX7_run_4 : decode cX7_run 4 = .ok (.iload_n 1, 1) := by decide +kernel
theorem dX7_run_5 : decode cX7_run 5 = .ok (.invokevirtual 151, 3) := by decide +kernel
theorem dX7_run_8 : decode cX7_run 8 = .ok (.astore 4, 2) := by decide +kernel
theorem dX7_run_10 : decode cX7_run 10 = .ok (.aload 4, 2) := by decide +kernel
theorem dX7_run_12 : decode cX7_run 12 = .ok (.ifnull 16, 3) := by decide +kernel
theorem dX7_run_15 : decode cX7_run 15 = .ok (.iload_n 2, 1) := by decide +kernel
theorem dX7_run_16 : decode cX7_run 16 = .ok (.ifCond .lt 12, 3) := by decide +kernel
theorem dX7_run_19 : decode cX7_run 19 = .ok (.iload_n 3, 1) := by decide +kernel
theorem dX7_run_20 : decode cX7_run 20 = .ok (.iconst 0, 1) := by decide +kernel
theorem dX7_run_21 : decode cX7_run 21 = .ok (.iconst 3, 1) := by decide +kernel
theorem dX7_run_22 : decode cX7_run 22 = .ok (.invokestatic 54, 3) := by decide +kernel
theorem dX7_run_25 : decode cX7_run 25 = .ok (.ifCond .ne 5, 3) := by decide +kernel
theorem dX7_run_28 : decode cX7_run 28 = .ok (.iconst (-1), 1) := by decide +kernel
theorem dX7_run_29 : decode cX7_run 29 = .ok (.ireturn, 1) := by decide +kernel
theorem dX7_run_30 : decode cX7_run 30 = .ok (.aload_n 0, 1) := by decide +kernel
theorem dX7_run_31 : decode cX7_run 31 = .ok (.getfield 33, 3) := by decide +kernel
theorem dX7_run_34 : decode cX7_run 34 = .ok (.aload 4, 2) := by decide +kernel
theorem dX7_run_36 : decode cX7_run 36 = .ok (.iload_n 2, 1) := by decide +kernel
theorem dX7_run_37 : decode cX7_run 37 = .ok (.invokevirtual 225, 3) := by decide +kernel
theorem dX7_run_40 : decode cX7_run 40 = .ok (.iload_n 2, 1) := by decide +kernel
theorem dX7_run_41 : decode cX7_run 41 = .ok (.aload_n 0, 1) := by decide +kernel
theorem dX7_run_42 : decode cX7_run 42 = .ok (.getfield 33, 3) := by decide +kernel
theorem dX7_run_45 : decode cX7_run 45 = .ok (.getfield 229, 3) := by decide +kernel
theorem dX7_run_48 : decode cX7_run 48 = .ok (.if_icmp .ge 14, 3) := by decide +kernel
theorem dX7_run_51 : decode cX7_run 51 = .ok (.aload_n 0, 1) := by decide +kernel
theorem dX7_run_52 : decode cX7_run 52 = .ok (.getfield 33, 3) := by decide +kernel
theorem dX7_run_55 : decode cX7_run 55 = .ok (.iload_n 3, 1) := by decide +kernel
theorem dX7_run_56 : decode cX7_run 56 = .ok (.invokevirtual 232, 3) := by decide +kernel
theorem dX7_run_59 : decode cX7_run 59 = .ok (.goto 5, 3) := by decide +kernel
theorem dX7_run_62 : decode cX7_run 62 = .ok (.bipush (-4), 2) := by decide +kernel
theorem dX7_run_64 : decode cX7_run 64 = .ok (.ireturn, 1) := by decide +kernel
theorem dX7_order_0 : decode cX7_order 0 = .ok (.iload_n 1, 1) := by decide +kernel
theorem dX7_order_1 : decode cX7_order 1 = .ok (.invokestatic 199, 3) := by decide +kernel
theorem dX7_order_4 : decode cX7_order 4 = .ok (.ifCond .eq 17, 3) := by decide +kernel
theorem dX7_order_7 : decode cX7_order 7 = .ok (.iload_n 2, 1) := by decide +kernel
theorem dX7_order_8 : decode cX7_order 8 = .ok (.iconst 1, 1) := by decide +kernel
theorem dX7_order_9 : decode cX7_order 9 = .ok (.bipush 20, 2) := by decide +kernel
theorem dX7_order_11 : decode cX7_order 11 = .ok (.invokestatic 54, 3) := by decide +kernel
theorem dX7_order_14 : decode cX7_order 14 = .ok (.ifCond .eq 7, 3) := by decide +kernel
theorem dX7_order_17 : decode cX7_order 17 = .ok (.iload_n 3, 1) := by decide +kernel
theorem dX7_order_18 : decode cX7_order 18 = .ok (.ifCond .ge 5, 3) := by decide +kernel
theorem dX7_order_21 : decode cX7_order 21 = .ok (.iconst (-1), 1) := by decide +kernel
theorem dX7_order_22 : decode cX7_order 22 = .ok (.ireturn, 1) := by decide +kernel
theorem dX7_order_23 : decode cX7_order 23 = .ok (.aload_n 0, 1) := by decide +kernel
theorem dX7_order_24 : decode cX7_order 24 = .ok (.getfield 10, 3) := by decide +kernel
theorem dX7_order_27 : decode cX7_order 27 = .ok (.invokevirtual 235, 3) := by decide +kernel
theorem dX7_order_30 : decode cX7_order 30 = .ok (.iconst 5, 1) := by decide +kernel
theorem dX7_order_31 : decode cX7_order 31 = .ok (.if_icmp .le 6, 3) := by decide +kernel
theorem dX7_order_34 : decode cX7_order 34 = .ok (.bipush (-2), 2) := by decide +kernel
theorem dX7_order_36 : decode cX7_order 36 = .ok (.ireturn, 1) := by decide +kernel
theorem dX7_order_37 : decode cX7_order 37 = .ok (.aload_n 0, 1) := by decide +kernel
theorem dX7_order_38 : decode cX7_order 38 = .ok (.getfield 40, 3) := by decide +kernel
theorem dX7_order_41 : decode cX7_order 41 = .ok (.aload_n 0, 1) := by decide +kernel
theorem dX7_order_42 : decode cX7_order 42 = .ok (.getfield 10, 3) := by decide +kernel
theorem dX7_order_45 : decode cX7_order 45 = .ok (.iload_n 1, 1) := by decide +kernel
theorem dX7_order_46 : decode cX7_order 46 = .ok (.iload_n 2, 1) := by decide +kernel
theorem dX7_order_47 : decode cX7_order 47 = .ok (.invokevirtual 238, 3) := by decide +kernel
theorem dX7_order_50 : decode cX7_order 50 = .ok (.aload_n 0, 1) := by decide +kernel
theorem dX7_order_51 : decode cX7_order 51 = .ok (.getfield 40, 3) := by decide +kernel
theorem dX7_order_54 : decode cX7_order 54 = .ok (.iload_n 3, 1) := by decide +kernel
theorem dX7_order_55 : decode cX7_order 55 = .ok (.invokevirtual 242, 3) := by decide +kernel
theorem dX7_order_58 : decode cX7_order 58 = .ok (.ireturn, 1) := by decide +kernel
theorem dX7_leastLift_0 : decode cX7_leastLift 0 = .ok (.iload_n 1, 1) := by decide +kernel
theorem dX7_leastLift_1 : decode cX7_leastLift 1 = .ok (.invokestatic 199, 3) := by decide +kernel
theorem dX7_leastLift_4 : decode cX7_leastLift 4 = .ok (.ifCond .eq 13, 3) := by decide +kernel
theorem dX7_leastLift_7 : decode cX7_leastLift 7 = .ok (.iload_n 2, 1) := by decide +kernel
theorem dX7_leastLift_8 : decode cX7_leastLift 8 = .ok (.iconst 1, 1) := by decide +kernel
theorem dX7_leastLift_9 : decode cX7_leastLift 9 = .ok (.bipush 20, 2) := by decide +kernel
theorem dX7_leastLift_11 : decode cX7_leastLift 11 = .ok (.invokestatic 54, 3) := by decide +kernel
theorem dX7_leastLift_14 : decode cX7_leastLift 14 = .ok (.ifCond .ne 5, 3) := by decide +kernel
theorem dX7_leastLift_17 : decode cX7_leastLift 17 = .ok (.iconst (-1), 1) := by decide +kernel
theorem dX7_leastLift_18 : decode cX7_leastLift 18 = .ok (.ireturn, 1) := by decide +kernel
theorem dX7_leastLift_19 : decode cX7_leastLift 19 = .ok (.aload_n 0, 1) := by decide +kernel
theorem dX7_leastLift_20 : decode cX7_leastLift 20 = .ok (.getfield 10, 3) := by decide +kernel
theorem dX7_leastLift_23 : decode cX7_leastLift 23 = .ok (.invokevirtual 235, 3) := by decide +kernel
theorem dX7_leastLift_26 : decode cX7_leastLift 26 = .ok (.iconst 5, 1) := by decide +kernel
theorem dX7_leastLift_27 : decode cX7_leastLift 27 = .ok (.if_icmp .le 6, 3) := by decide +kernel
theorem dX7_leastLift_30 : decode cX7_leastLift 30 = .ok (.bipush (-2), 2) := by decide +kernel
theorem dX7_leastLift_32 : decode cX7_leastLift 32 = .ok (.ireturn, 1) := by decide +kernel
theorem dX7_leastLift_33 : decode cX7_leastLift 33 = .ok (.aload_n 0, 1) := by decide +kernel
theorem dX7_leastLift_34 : decode cX7_leastLift 34 = .ok (.getfield 40, 3) := by decide +kernel
theorem dX7_leastLift_37 : decode cX7_leastLift 37 = .ok (.aload_n 0, 1) := by decide +kernel
theorem dX7_leastLift_38 : decode cX7_leastLift 38 = .ok (.getfield 10, 3) := by decide +kernel
theorem dX7_leastLift_41 : decode cX7_leastLift 41 = .ok (.iload_n 1, 1) := by decide +kernel
theorem dX7_leastLift_42 : decode cX7_leastLift 42 = .ok (.iload_n 2, 1) := by decide +kernel
theorem dX7_leastLift_43 : decode cX7_leastLift 43 = .ok (.invokevirtual 238, 3) := by decide +kernel
theorem dX7_leastLift_46 : decode cX7_leastLift 46 = .ok (.aload_n 0, 1) := by decide +kernel
theorem dX7_leastLift_47 : decode cX7_leastLift 47 = .ok (.getfield 40, 3) := by decide +kernel
theorem dX7_leastLift_50 : decode cX7_leastLift 50 = .ok (.getfield 245, 3) := by decide +kernel
theorem dX7_leastLift_53 : decode cX7_leastLift 53 = .ok (.ireturn, 1) := by decide +kernel
theorem dX7_type_0 : decode cX7_type 0 = .ok (.iload_n 1, 1) := by decide +kernel
theorem dX7_type_1 : decode cX7_type 1 = .ok (.bipush 32, 2) := by decide +kernel
theorem dX7_type_3 : decode cX7_type 3 = .ok (.bipush 126, 2) := by decide +kernel
theorem dX7_type_5 : decode cX7_type 5 = .ok (.invokestatic 54, 3) := by decide +kernel
theorem dX7_type_8 : decode cX7_type 8 = .ok (.ifCond .ne 5, 3) := by decide +kernel
theorem dX7_type_11 : decode cX7_type 11 = .ok (.iconst (-1), 1) := by decide +kernel
theorem dX7_type_12 : decode cX7_type 12 = .ok (.ireturn, 1) := by decide +kernel
theorem dX7_type_13 : decode cX7_type 13 = .ok (.aload_n 0, 1) := by decide +kernel
theorem dX7_type_14 : decode cX7_type 14 = .ok (.getfield 26, 3) := by decide +kernel
theorem dX7_type_17 : decode cX7_type 17 = .ok (.getfield 118, 3) := by decide +kernel
theorem dX7_type_20 : decode cX7_type 20 = .ok (.bipush 80, 2) := by decide +kernel
theorem dX7_type_22 : decode cX7_type 22 = .ok (.if_icmp .lt 6, 3) := by decide +kernel
theorem dX7_type_25 : decode cX7_type 25 = .ok (.bipush (-3), 2) := by decide +kernel
theorem dX7_type_27 : decode cX7_type 27 = .ok (.ireturn, 1) := by decide +kernel
theorem dX7_type_28 : decode cX7_type 28 = .ok (.aload_n 0, 1) := by decide +kernel
theorem dX7_type_29 : decode cX7_type 29 = .ok (.getfield 26, 3) := by decide +kernel
theorem dX7_type_32 : decode cX7_type 32 = .ok (.iload_n 1, 1) := by decide +kernel
theorem dX7_type_33 : decode cX7_type 33 = .ok (.i2c, 1) := by decide +kernel
theorem dX7_type_34 : decode cX7_type 34 = .ok (.invokevirtual 248, 3) := by decide +kernel
theorem dX7_type_37 : decode cX7_type 37 = .ok (.aload_n 0, 1) := by decide +kernel
theorem dX7_type_38 : decode cX7_type 38 = .ok (.getfield 26, 3) := by decide +kernel
theorem dX7_type_41 : decode cX7_type 41 = .ok (.getfield 118, 3) := by decide +kernel
theorem dX7_type_44 : decode cX7_type 44 = .ok (.ireturn, 1) := by decide +kernel
theorem dX7_clearText_0 : decode cX7_clearText 0 = .ok (.aload_n 0, 1) := by decide +kernel
theorem dX7_clearText_1 : decode cX7_clearText 1 = .ok (.getfield 26, 3) := by decide +kernel
theorem dX7_clearText_4 : decode cX7_clearText 4 = .ok (.getfield 118, 3) := by decide +kernel
theorem dX7_clearText_7 : decode cX7_clearText 7 = .ok (.istore_n 1, 1) := by decide +kernel
theorem dX7_clearText_8 : decode cX7_clearText 8 = .ok (.aload_n 0, 1) := by decide +kernel
theorem dX7_clearText_9 : decode cX7_clearText 9 = .ok (.getfield 26, 3) := by decide +kernel
theorem dX7_clearText_12 : decode cX7_clearText 12 = .ok (.invokevirtual 252, 3) := by decide +kernel
theorem dX7_clearText_15 : decode cX7_clearText 15 = .ok (.iload_n 1, 1) := by decide +kernel
theorem dX7_clearText_16 : decode cX7_clearText 16 = .ok (.ireturn, 1) := by decide +kernel
theorem dX7_fault_0 : decode cX7_fault 0 = .ok (.iload_n 1, 1) := by decide +kernel
theorem dX7_fault_1 : decode cX7_fault 1 = .ok (.iconst 0, 1) := by decide +kernel
theorem dX7_fault_2 : decode cX7_fault 2 = .ok (.iconst 1, 1) := by decide +kernel
theorem dX7_fault_3 : decode cX7_fault 3 = .ok (.invokestatic 54, 3) := by decide +kernel
theorem dX7_fault_6 : decode cX7_fault 6 = .ok (.ifCond .ne 5, 3) := by decide +kernel
theorem dX7_fault_9 : decode cX7_fault 9 = .ok (.iconst (-1), 1) := by decide +kernel
theorem dX7_fault_10 : decode cX7_fault 10 = .ok (.ireturn, 1) := by decide +kernel
theorem dX7_fault_11 : decode cX7_fault 11 = .ok (.aload_n 0, 1) := by decide +kernel
theorem dX7_fault_12 : decode cX7_fault 12 = .ok (.getfield 26, 3) := by decide +kernel
theorem dX7_fault_15 : decode cX7_fault 15 = .ok (.aload_n 0, 1) := by decide +kernel
theorem dX7_fault_16 : decode cX7_fault 16 = .ok (.getfield 10, 3) := by decide +kernel
theorem dX7_fault_19 : decode cX7_fault 19 = .ok (.getfield 104, 3) := by decide +kernel
theorem dX7_fault_22 : decode cX7_fault 22 = .ok (.invokevirtual 255, 3) := by decide +kernel
theorem dX7_fault_25 : decode cX7_fault 25 = .ok (.istore_n 2, 1) := by decide +kernel
theorem dX7_fault_26 : decode cX7_fault 26 = .ok (.iload_n 2, 1) := by decide +kernel
theorem dX7_fault_27 : decode cX7_fault 27 = .ok (.ifCond .ne 6, 3) := by decide +kernel
theorem dX7_fault_30 : decode cX7_fault 30 = .ok (.bipush (-4), 2) := by decide +kernel
theorem dX7_fault_32 : decode cX7_fault 32 = .ok (.ireturn, 1) := by decide +kernel
theorem dX7_fault_33 : decode cX7_fault 33 = .ok (.iload_n 1, 1) := by decide +kernel
theorem dX7_fault_34 : decode cX7_fault 34 = .ok (.ifCond .ne 13, 3) := by decide +kernel
theorem dX7_fault_37 : decode cX7_fault 37 = .ok (.aload_n 0, 1) := by decide +kernel
theorem dX7_fault_38 : decode cX7_fault 38 = .ok (.getfield 26, 3) := by decide +kernel
theorem dX7_fault_41 : decode cX7_fault 41 = .ok (.getfield 258, 3) := by decide +kernel
theorem dX7_fault_44 : decode cX7_fault 44 = .ok (.goto 4, 3) := by decide +kernel
theorem dX7_fault_47 : decode cX7_fault 47 = .ok (.iload_n 2, 1) := by decide +kernel
theorem dX7_fault_48 : decode cX7_fault 48 = .ok (.ireturn, 1) := by decide +kernel
theorem dX7_carry_0 : decode cX7_carry 0 = .ok (.aload_n 0, 1) := by decide +kernel
theorem dX7_carry_1 : decode cX7_carry 1 = .ok (.getfield 26, 3) := by decide +kernel
theorem dX7_carry_4 : decode cX7_carry 4 = .ok (.aload_n 0, 1) := by decide +kernel
theorem dX7_carry_5 : decode cX7_carry 5 = .ok (.getfield 10, 3) := by decide +kernel
theorem dX7_carry_8 : decode cX7_carry 8 = .ok (.getfield 104, 3) := by decide +kernel
theorem dX7_carry_11 : decode cX7_carry 11 = .ok (.invokevirtual 255, 3) := by decide +kernel
theorem dX7_carry_14 : decode cX7_carry 14 = .ok (.ifCond .eq 6, 3) := by decide +kernel
theorem dX7_carry_17 : decode cX7_carry 17 = .ok (.bipush (-2), 2) := by decide +kernel
theorem dX7_carry_19 : decode cX7_carry 19 = .ok (.ireturn, 1) := by decide +kernel
theorem dX7_carry_20 : decode cX7_carry 20 = .ok (.aload_n 0, 1) := by decide +kernel
theorem dX7_carry_21 : decode cX7_carry 21 = .ok (.getfield 19, 3) := by decide +kernel
theorem dX7_carry_24 : decode cX7_carry 24 = .ok (.aload_n 0, 1) := by decide +kernel
theorem dX7_carry_25 : decode cX7_carry 25 = .ok (.getfield 10, 3) := by decide +kernel
theorem dX7_carry_28 : decode cX7_carry 28 = .ok (.invokevirtual 58, 3) := by decide +kernel
theorem dX7_carry_31 : decode cX7_carry 31 = .ok (.iconst 0, 1) := by decide +kernel
theorem dX7_carry_32 : decode cX7_carry 32 = .ok (.istore_n 1, 1) := by decide +kernel
theorem dX7_carry_33 : decode cX7_carry 33 = .ok (.iconst 0, 1) := by decide +kernel
theorem dX7_carry_34 : decode cX7_carry 34 = .ok (.istore_n 2, 1) := by decide +kernel
theorem dX7_carry_35 : decode cX7_carry 35 = .ok (.iconst 0, 1) := by decide +kernel
theorem dX7_carry_36 : decode cX7_carry 36 = .ok (.istore_n 3, 1) := by decide +kernel
theorem dX7_carry_37 : decode cX7_carry 37 = .ok (.iload_n 3, 1) := by decide +kernel
theorem dX7_carry_38 : decode cX7_carry 38 = .ok (.bipush 80, 2) := by decide +kernel
theorem dX7_carry_40 : decode cX7_carry 40 = .ok (.if_icmp .ge 59, 3) := by decide +kernel
theorem dX7_carry_43 : decode cX7_carry 43 = .ok (.aload_n 0, 1) := by decide +kernel
theorem dX7_carry_44 : decode cX7_carry 44 = .ok (.getfield 26, 3) := by decide +kernel
theorem dX7_carry_47 : decode cX7_carry 47 = .ok (.iload_n 2, 1) := by decide +kernel
theorem dX7_carry_48 : decode cX7_carry 48 = .ok (.invokevirtual 261, 3) := by decide +kernel
theorem dX7_carry_51 : decode cX7_carry 51 = .ok (.ifCond .eq 48, 3) := by decide +kernel
theorem dX7_carry_54 : decode cX7_carry 54 = .ok (.iload_n 1, 1) := by decide +kernel
theorem dX7_carry_55 : decode cX7_carry 55 = .ok (.aload_n 0, 1) := by decide +kernel
theorem dX7_carry_56 : decode cX7_carry 56 = .ok (.getfield 10, 3) := by decide +kernel
theorem dX7_carry_59 : decode cX7_carry 59 = .ok (.aload_n 0, 1) := by decide +kernel
theorem dX7_carry_60 : decode cX7_carry 60 = .ok (.getfield 26, 3) := by decide +kernel
theorem dX7_carry_63 : decode cX7_carry 63 = .ok (.getfield 264, 3) := by decide +kernel
theorem dX7_carry_66 : decode cX7_carry 66 = .ok (.aload_n 0, 1) := by decide +kernel
theorem dX7_carry_67 : decode cX7_carry 67 = .ok (.getfield 26, 3) := by decide +kernel
theorem dX7_carry_70 : decode cX7_carry 70 = .ok (.getfield 267, 3) := by decide +kernel
theorem dX7_carry_73 : decode cX7_carry 73 = .ok (.aload_n 0, 1) := by decide +kernel
theorem dX7_carry_74 : decode cX7_carry 74 = .ok (.getfield 26, 3) := by decide +kernel
theorem dX7_carry_77 : decode cX7_carry 77 = .ok (.getfield 270, 3) := by decide +kernel
theorem dX7_carry_80 : decode cX7_carry 80 = .ok (.invokevirtual 273, 3) := by decide +kernel
theorem dX7_carry_83 : decode cX7_carry 83 = .ok (.iadd, 1) := by decide +kernel
theorem dX7_carry_84 : decode cX7_carry 84 = .ok (.istore_n 1, 1) := by decide +kernel
theorem dX7_carry_85 : decode cX7_carry 85 = .ok (.aload_n 0, 1) := by decide +kernel
theorem dX7_carry_86 : decode cX7_carry 86 = .ok (.getfield 26, 3) := by decide +kernel
theorem dX7_carry_89 : decode cX7_carry 89 = .ok (.getfield 276, 3) := by decide +kernel
theorem dX7_carry_92 : decode cX7_carry 92 = .ok (.istore_n 2, 1) := by decide +kernel
theorem dX7_carry_93 : decode cX7_carry 93 = .ok (.iinc 3 1, 3) := by decide +kernel
theorem dX7_carry_96 : decode cX7_carry 96 = .ok (.goto (-59), 3) := by decide +kernel
theorem dX7_carry_99 : decode cX7_carry 99 = .ok (.iload_n 1, 1) := by decide +kernel
theorem dX7_carry_100 : decode cX7_carry 100 = .ok (.ireturn, 1) := by decide +kernel
theorem dX7_inRange_0 : decode cX7_inRange 0 = .ok (.iload_n 0, 1) := by decide +kernel
theorem dX7_inRange_1 : decode cX7_inRange 1 = .ok (.iload_n 1, 1) := by decide +kernel
theorem dX7_inRange_2 : decode cX7_inRange 2 = .ok (.if_icmp .lt 12, 3) := by decide +kernel
theorem dX7_inRange_5 : decode cX7_inRange 5 = .ok (.iload_n 0, 1) := by decide +kernel
theorem dX7_inRange_6 : decode cX7_inRange 6 = .ok (.iload_n 2, 1) := by decide +kernel
theorem dX7_inRange_7 : decode cX7_inRange 7 = .ok (.if_icmp .gt 7, 3) := by decide +kernel
theorem dX7_inRange_10 : decode cX7_inRange 10 = .ok (.iconst 1, 1) := by decide +kernel
theorem dX7_inRange_11 : decode cX7_inRange 11 = .ok (.goto 4, 3) := by decide +kernel
theorem dX7_inRange_14 : decode cX7_inRange 14 = .ok (.iconst 0, 1) := by decide +kernel
theorem dX7_inRange_15 : decode cX7_inRange 15 = .ok (.ireturn, 1) := by decide +kernel
theorem dX7_isFall_0 : decode cX7_isFall 0 = .ok (.iload_n 0, 1) := by decide +kernel
theorem dX7_isFall_1 : decode cX7_isFall 1 = .ok (.bipush 100, 2) := by decide +kernel
theorem dX7_isFall_3 : decode cX7_isFall 3 = .ok (.sipush 3000, 3) := by decide +kernel
theorem dX7_isFall_6 : decode cX7_isFall 6 = .ok (.invokestatic 54, 3) := by decide +kernel
theorem dX7_isFall_9 : decode cX7_isFall 9 = .ok (.ireturn, 1) := by decide +kernel
theorem dX7_isSetting_0 : decode cX7_isSetting 0 = .ok (.iload_n 0, 1) := by decide +kernel
theorem dX7_isSetting_1 : decode cX7_isSetting 1 = .ok (.ifCond .lt 15, 3) := by decide +kernel
theorem dX7_isSetting_4 : decode cX7_isSetting 4 = .ok (.iload_n 0, 1) := by decide +kernel
theorem dX7_isSetting_5 : decode cX7_isSetting 5 = .ok (.getstatic 279, 3) := by decide +kernel
theorem dX7_isSetting_8 : decode cX7_isSetting 8 = .ok (.arraylength, 1) := by decide +kernel
theorem dX7_isSetting_9 : decode cX7_isSetting 9 = .ok (.if_icmp .ge 7, 3) := by decide +kernel
theorem dX7_isSetting_12 : decode cX7_isSetting 12 = .ok (.iconst 1, 1) := by decide +kernel
theorem dX7_isSetting_13 : decode cX7_isSetting 13 = .ok (.goto 4, 3) := by decide +kernel
theorem dX7_isSetting_16 : decode cX7_isSetting 16 = .ok (.iconst 0, 1) := by decide +kernel
theorem dX7_isSetting_17 : decode cX7_isSetting 17 = .ok (.ireturn, 1) := by decide +kernel
theorem dX7_liftOf_0 : decode cX7_liftOf 0 = .ok (.iload_n 0, 1) := by decide +kernel
theorem dX7_liftOf_1 : decode cX7_liftOf 1 = .ok (.ifCond .le 16, 3) := by decide +kernel
theorem dX7_liftOf_4 : decode cX7_liftOf 4 = .ok (.iload_n 0, 1) := by decide +kernel
theorem dX7_liftOf_5 : decode cX7_liftOf 5 = .ok (.iload_n 1, 1) := by decide +kernel
theorem dX7_liftOf_6 : decode cX7_liftOf 6 = .ok (.if_icmp .ge 11, 3) := by decide +kernel
theorem dX7_liftOf_9 : decode cX7_liftOf 9 = .ok (.iload_n 0, 1) := by decide +kernel
theorem dX7_liftOf_10 : decode cX7_liftOf 10 = .ok (.iload_n 2, 1) := by decide +kernel
theorem dX7_liftOf_11 : decode cX7_liftOf 11 = .ok (.invokestatic 282, 3) := by decide +kernel
theorem dX7_liftOf_14 : decode cX7_liftOf 14 = .ok (.goto 4, 3) := by decide +kernel
theorem dX7_liftOf_17 : decode cX7_liftOf 17 = .ok (.iconst 0, 1) := by decide +kernel
theorem dX7_liftOf_18 : decode cX7_liftOf 18 = .ok (.ireturn, 1) := by decide +kernel
