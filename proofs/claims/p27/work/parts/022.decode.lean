theorem dX4_init_0 : decode cX4_init 0 = .ok (.aload_n 0, 1) := by decide +kernel
theorem dX4_init_1 : decode cX4_init 1 = .ok (.invokespecial 3, 3) := by decide +kernel
theorem dX4_init_4 : decode cX4_init 4 = .ok (.aload_n 0, 1) := by decide +kernel
theorem dX4_init_5 : decode cX4_init 5 = .ok (.bipush 40, 2) := by decide +kernel
theorem dX4_init_7 : decode cX4_init 7 = .ok (.newarray .int, 2) := by decide +kernel
theorem dX4_init_9 : decode cX4_init 9 = .ok (.putfield 9, 3) := by decide +kernel
theorem dX4_init_12 : decode cX4_init 12 = .ok (.aload_n 0, 1) := by decide +kernel
theorem dX4_init_13 : decode cX4_init 13 = .ok (.bipush 40, 2) := by decide +kernel
theorem dX4_init_15 : decode cX4_init 15 = .ok (.newarray .int, 2) := by decide +kernel
theorem dX4_init_17 : decode cX4_init 17 = .ok (.putfield 15, 3) := by decide +kernel
theorem dX4_init_20 : decode cX4_init 20 = .ok (.return_, 1) := by decide +kernel
theorem dX4_startAt_0 : decode cX4_startAt 0 = .ok (.aload_n 0, 1) := by decide +kernel
theorem dX4_startAt_1 : decode cX4_startAt 1 = .ok (.iload_n 1, 1) := by decide +kernel
theorem dX4_startAt_2 : decode cX4_startAt 2 = .ok (.putfield 18, 3) := by decide +kernel
theorem dX4_startAt_5 : decode cX4_startAt 5 = .ok (.aload_n 0, 1) := by decide +kernel
theorem dX4_startAt_6 : decode cX4_startAt 6 = .ok (.iload_n 2, 1) := by decide +kernel
theorem dX4_startAt_7 : decode cX4_startAt 7 = .ok (.putfield 22, 3) := by decide +kernel
theorem dX4_startAt_10 : decode cX4_startAt 10 = .ok (.aload_n 0, 1) := by decide +kernel
theorem dX4_startAt_11 : decode cX4_startAt 11 = .ok (.iload_n 3, 1) := by decide +kernel
theorem dX4_startAt_12 : decode cX4_startAt 12 = .ok (.putfield 25, 3) := by decide +kernel
theorem dX4_startAt_15 : decode cX4_startAt 15 = .ok (.aload_n 0, 1) := by decide +kernel
theorem dX4_startAt_16 : decode cX4_startAt 16 = .ok (.iconst 0, 1) := by decide +kernel
theorem dX4_startAt_17 : decode cX4_startAt 17 = .ok (.putfield 28, 3) := by decide +kernel
theorem dX4_startAt_20 : decode cX4_startAt 20 = .ok (.aload_n 0, 1) := by decide +kernel
theorem dX4_startAt_21 : decode cX4_startAt 21 = .ok (.iconst 0, 1) := by decide +kernel
theorem dX4_startAt_22 : decode cX4_startAt 22 = .ok (.putfield 31, 3) := by decide +kernel
theorem dX4_startAt_25 : decode cX4_startAt 25 = .ok (.aload_n 0, 1) := by decide +kernel
theorem dX4_startAt_26 : decode cX4_startAt 26 = .ok (.iconst 0, 1) := by decide +kernel
theorem dX4_startAt_27 : decode cX4_startAt 27 = .ok (.putfield 34, 3) := by decide +kernel
theorem dX4_startAt_30 : decode cX4_startAt 30 = .ok (.aload_n 0, 1) := by decide +kernel
theorem dX4_startAt_31 : decode cX4_startAt 31 = .ok (.iconst 0, 1) := by decide +kernel
theorem dX4_startAt_32 : decode cX4_startAt 32 = .ok (.putfield 37, 3) := by decide +kernel
theorem dX4_startAt_35 : decode cX4_startAt 35 = .ok (.aload_n 0, 1) := by decide +kernel
theorem dX4_startAt_36 : decode cX4_startAt 36 = .ok (.iconst 0, 1) := by decide +kernel
theorem dX4_startAt_37 : decode cX4_startAt 37 = .ok (.putfield 40, 3) := by decide +kernel
theorem dX4_startAt_40 : decode cX4_startAt 40 = .ok (.aload_n 0, 1) := by decide +kernel
theorem dX4_startAt_41 : decode cX4_startAt 41 = .ok (.iconst 0, 1) := by decide +kernel
theorem dX4_startAt_42 : decode cX4_startAt 42 = .ok (.putfield 44, 3) := by decide +kernel
theorem dX4_startAt_45 : decode cX4_startAt 45 = .ok (.aload_n 0, 1) := by decide +kernel
theorem dX4_startAt_46 : decode cX4_startAt 46 = .ok (.iconst 0, 1) := by decide +kernel
theorem dX4_startAt_47 : decode cX4_startAt 47 = .ok (.putfield 47, 3) := by decide +kernel
theorem dX4_startAt_50 : decode cX4_startAt 50 = .ok (.aload_n 0, 1) := by decide +kernel
theorem dX4_startAt_51 : decode cX4_startAt 51 = .ok (.iconst 0, 1) := by decide +kernel
theorem dX4_startAt_52 : decode cX4_startAt 52 = .ok (.putfield 50, 3) := by decide +kernel
theorem dX4_startAt_55 : decode cX4_startAt 55 = .ok (.return_, 1) := by decide +kernel
theorem dX4_left_0 : decode cX4_left 0 = .ok (.aload_n 0, 1) := by decide +kernel
theorem dX4_left_1 : decode cX4_left 1 = .ok (.getfield 25, 3) := by decide +kernel
theorem dX4_left_4 : decode cX4_left 4 = .ok (.aload_n 0, 1) := by decide +kernel
theorem dX4_left_5 : decode cX4_left 5 = .ok (.getfield 31, 3) := by decide +kernel
theorem dX4_left_8 : decode cX4_left 8 = .ok (.isub, 1) := by decide +kernel
theorem dX4_left_9 : decode cX4_left 9 = .ok (.ireturn, 1) := by decide +kernel
theorem dX4_takeBlow_0 : decode cX4_takeBlow 0 = .ok (.aload_n 0, 1) := by decide +kernel
theorem dX4_takeBlow_1 : decode cX4_takeBlow 1 = .ok (.dup, 1) := by decide +kernel
theorem dX4_takeBlow_2 : decode cX4_takeBlow 2 = .ok (.getfield 31, 3) := by decide +kernel
theorem dX4_takeBlow_5 : decode cX4_takeBlow 5 = .ok (.iload_n 1, 1) := by decide +kernel
theorem dX4_takeBlow_6 : decode cX4_takeBlow 6 = .ok (.iadd, 1) := by decide +kernel
theorem dX4_takeBlow_7 : decode cX4_takeBlow 7 = .ok (.putfield 31, 3) := by decide +kernel
theorem dX4_takeBlow_10 : decode cX4_takeBlow 10 = .ok (.aload_n 0, 1) := by decide +kernel
theorem dX4_takeBlow_11 : decode cX4_takeBlow 11 = .ok (.dup, 1) := by decide +kernel
theorem dX4_takeBlow_12 : decode cX4_takeBlow 12 = .ok (.getfield 44, 3) := by decide +kernel
theorem dX4_takeBlow_15 : decode cX4_takeBlow 15 = .ok (.iload_n 1, 1) := by decide +kernel
theorem dX4_takeBlow_16 : decode cX4_takeBlow 16 = .ok (.iadd, 1) := by decide +kernel
theorem dX4_takeBlow_17 : decode cX4_takeBlow 17 = .ok (.putfield 44, 3) := by decide +kernel
theorem dX4_takeBlow_20 : decode cX4_takeBlow 20 = .ok (.aload_n 0, 1) := by decide +kernel
theorem dX4_takeBlow_21 : decode cX4_takeBlow 21 = .ok (.dup, 1) := by decide +kernel
theorem dX4_takeBlow_22 : decode cX4_takeBlow 22 = .ok (.getfield 34, 3) := by decide +kernel
theorem dX4_takeBlow_25 : decode cX4_takeBlow 25 = .ok (.iconst 1, 1) := by decide +kernel
theorem dX4_takeBlow_26 : decode cX4_takeBlow 26 = .ok (.iadd, 1) := by decide +kernel
theorem dX4_takeBlow_27 : decode cX4_takeBlow 27 = .ok (.putfield 34, 3) := by decide +kernel
theorem dX4_takeBlow_30 : decode cX4_takeBlow 30 = .ok (.aload_n 0, 1) := by decide +kernel
theorem dX4_takeBlow_31 : decode cX4_takeBlow 31 = .ok (.iload_n 2, 1) := by decide +kernel
theorem dX4_takeBlow_32 : decode cX4_takeBlow 32 = .ok (.putfield 37, 3) := by decide +kernel
theorem dX4_takeBlow_35 : decode cX4_takeBlow 35 = .ok (.aload_n 0, 1) := by decide +kernel
theorem dX4_takeBlow_36 : decode cX4_takeBlow 36 = .ok (.iconst 0, 1) := by decide +kernel
theorem dX4_takeBlow_37 : decode cX4_takeBlow 37 = .ok (.putfield 40, 3) := by decide +kernel
theorem dX4_takeBlow_40 : decode cX4_takeBlow 40 = .ok (.aload_n 0, 1) := by decide +kernel
theorem dX4_takeBlow_41 : decode cX4_takeBlow 41 = .ok (.iload_n 1, 1) := by decide +kernel
theorem dX4_takeBlow_42 : decode cX4_takeBlow 42 = .ok (.iload_n 2, 1) := by decide +kernel
theorem dX4_takeBlow_43 : decode cX4_takeBlow 43 = .ok (.invokevirtual 53, 3) := by decide +kernel
theorem dX4_takeBlow_46 : decode cX4_takeBlow 46 = .ok (.return_, 1) := by decide +kernel
theorem dX4_keep_0 : decode cX4_keep 0 = .ok (.aload_n 0, 1) := by decide +kernel
theorem dX4_keep_1 : decode cX4_keep 1 = .ok (.getfield 28, 3) := by decide +kernel
theorem dX4_keep_4 : decode cX4_keep 4 = .ok (.bipush 40, 2) := by decide +kernel
theorem dX4_keep_6 : decode cX4_keep 6 = .ok (.if_icmp .lt 39, 3) := by decide +kernel
theorem dX4_keep_9 : decode cX4_keep 9 = .ok (.aload_n 0, 1) := by decide +kernel
theorem dX4_keep_10 : decode cX4_keep 10 = .ok (.getfield 9, 3) := by decide +kernel
theorem dX4_keep_13 : decode cX4_keep 13 = .ok (.iconst 1, 1) := by decide +kernel
theorem dX4_keep_14 : decode cX4_keep 14 = .ok (.aload_n 0, 1) := by decide +kernel
theorem dX4_keep_15 : decode cX4_keep 15 = .ok (.getfield 9, 3) := by decide +kernel
theorem dX4_keep_18 : decode cX4_keep 18 = .ok (.iconst 0, 1) := by decide +kernel
theorem dX4_keep_19 : decode cX4_keep 19 = .ok (.bipush 39, 2) := by decide +kernel
theorem dX4_keep_21 : decode cX4_keep 21 = .ok (.invokestatic 57, 3) := by decide +kernel
theorem dX4_keep_24 : decode cX4_keep 24 = .ok (.aload_n 0, 1) := by decide +kernel
theorem dX4_keep_25 : decode cX4_keep 25 = .ok (.getfield 15, 3) := by decide +kernel
theorem dX4_keep_28 : decode cX4_keep 28 = .ok (.iconst 1, 1) := by decide +kernel
theorem dX4_keep_29 : decode cX4_keep 29 = .ok (.aload_n 0, 1) := by decide +kernel
theorem dX4_keep_30 : decode cX4_keep 30 = .ok (.getfield 15, 3) := by decide +kernel
theorem dX4_keep_33 : decode cX4_keep 33 = .ok (.iconst 0, 1) := by decide +kernel
theorem dX4_keep_34 : decode cX4_keep 34 = .ok (.bipush 39, 2) := by decide +kernel
theorem dX4_keep_36 : decode cX4_keep 36 = .ok (.invokestatic 57, 3) := by decide +kernel
theorem dX4_keep_39 : decode cX4_keep 39 = .ok (.aload_n 0, 1) := by decide +kernel
theorem dX4_keep_40 : decode cX4_keep 40 = .ok (.bipush 39, 2) := by decide +kernel
theorem dX4_keep_42 : decode cX4_keep 42 = .ok (.putfield 28, 3) := by decide +kernel
theorem dX4_keep_45 : decode cX4_keep 45 = .ok (.aload_n 0, 1) := by decide +kernel
theorem dX4_keep_46 : decode cX4_keep 46 = .ok (.getfield 28, 3) := by decide +kernel
theorem dX4_keep_49 : decode cX4_keep 49 = .ok (.ifCond .lt 57, 3) := by decide +kernel
theorem dX4_keep_52 : decode cX4_keep 52 = .ok (.aload_n 0, 1) := by decide +kernel
theorem dX4_keep_53 : decode cX4_keep 53 = .ok (.getfield 28, 3) := by decide +kernel
theorem dX4_keep_56 : decode cX4_keep 56 = .ok (.aload_n 0, 1) := by decide +kernel
theorem dX4_keep_57 : decode cX4_keep 57 = .ok (.getfield 9, 3) := by decide +kernel
theorem dX4_keep_60 : decode cX4_keep 60 = .ok (.arraylength, 1) := by decide +kernel
theorem dX4_keep_61 : decode cX4_keep 61 = .ok (.if_icmp .ge 45, 3) := by decide +kernel
theorem dX4_keep_64 : decode cX4_keep 64 = .ok (.aload_n 0, 1) := by decide +kernel
theorem dX4_keep_65 : decode cX4_keep 65 = .ok (.getfield 28, 3) := by decide +kernel
theorem dX4_keep_68 : decode cX4_keep 68 = .ok (.aload_n 0, 1) := by decide +kernel
theorem dX4_keep_69 : decode cX4_keep 69 = .ok (.getfield 15, 3) := by decide +kernel
theorem dX4_keep_72 : decode cX4_keep 72 = .ok (.arraylength, 1) := by decide +kernel
theorem dX4_keep_73 : decode cX4_keep 73 = .ok (.if_icmp .ge 33, 3) := by decide +kernel
theorem dX4_keep_76 : decode cX4_keep 76 = .ok (.aload_n 0, 1) := by decide +kernel
theorem dX4_keep_77 : decode cX4_keep 77 = .ok (.getfield 9, 3) := by decide +kernel
theorem dX4_keep_80 : decode cX4_keep 80 = .ok (.aload_n 0, 1) := by decide +kernel
theorem dX4_keep_81 : decode cX4_keep 81 = .ok (.getfield 28, 3) := by decide +kernel
theorem dX4_keep_84 : decode cX4_keep 84 = .ok (.iload_n 1, 1) := by decide +kernel
theorem dX4_keep_85 : decode cX4_keep 85 = .ok (.iastore, 1) := by decide +kernel
theorem dX4_keep_86 : decode cX4_keep 86 = .ok (.aload_n 0, 1) := by decide +kernel
theorem dX4_keep_87 : decode cX4_keep 87 = .ok (.getfield 15, 3) := by decide +kernel
theorem dX4_keep_90 : decode cX4_keep 90 = .ok (.aload_n 0, 1) := by decide +kernel
theorem dX4_keep_91 : decode cX4_keep 91 = .ok (.getfield 28, 3) := by decide +kernel
theorem dX4_keep_94 : decode cX4_keep 94 = .ok (.iload_n 2, 1) := by decide +kernel
theorem dX4_keep_95 : decode cX4_keep 95 = .ok (.iastore, 1) := by decide +kernel
theorem dX4_keep_96 : decode cX4_keep 96 = .ok (.aload_n 0, 1) := by decide +kernel
theorem dX4_keep_97 : decode cX4_keep 97 = .ok (.dup, 1) := by decide +kernel
theorem dX4_keep_98 : decode cX4_keep 98 = .ok (.getfield 28, 3) := by decide +kernel
theorem dX4_keep_101 : decode cX4_keep 101 = .ok (.iconst 1, 1) := by decide +kernel
theorem dX4_keep_102 : decode cX4_keep 102 = .ok (.iadd, 1) := by decide +kernel
theorem dX4_keep_103 : decode cX4_keep 103 = .ok (.putfield 28, 3) := by decide +kernel
theorem dX4_keep_106 : decode cX4_keep 106 = .ok (.return_, 1) := by decide +kernel
theorem dX4_takeLift_0 : decode cX4_takeLift 0 = .ok (.iload_n 1, 1) := by decide +kernel
theorem dX4_takeLift_1 : decode cX4_takeLift 1 = .ok (.iconst 1, 1) := by decide +kernel
theorem dX4_takeLift_2 : decode cX4_takeLift 2 = .ok (.if_icmp .lt 28, 3) := by decide +kernel
theorem dX4_takeLift_5 : decode cX4_takeLift 5 = .ok (.aload_n 0, 1) := by decide +kernel
theorem dX4_takeLift_6 : decode cX4_takeLift 6 = .ok (.dup, 1) := by decide +kernel
theorem dX4_takeLift_7 : decode cX4_takeLift 7 = .ok (.getfield 31, 3) := by decide +kernel
theorem dX4_takeLift_10 : decode cX4_takeLift 10 = .ok (.iload_n 1, 1) := by decide +kernel
theorem dX4_takeLift_11 : decode cX4_takeLift 11 = .ok (.isub, 1) := by decide +kernel
theorem dX4_takeLift_12 : decode cX4_takeLift 12 = .ok (.putfield 31, 3) := by decide +kernel
theorem dX4_takeLift_15 : decode cX4_takeLift 15 = .ok (.aload_n 0, 1) := by decide +kernel
theorem dX4_takeLift_16 : decode cX4_takeLift 16 = .ok (.dup, 1) := by decide +kernel
theorem dX4_takeLift_17 : decode cX4_takeLift 17 = .ok (.getfield 47, 3) := by decide +kernel
theorem dX4_takeLift_20 : decode cX4_takeLift 20 = .ok (.iload_n 1, 1) := by decide +kernel
theorem dX4_takeLift_21 : decode cX4_takeLift 21 = .ok (.iadd, 1) := by decide +kernel
theorem dX4_takeLift_22 : decode cX4_takeLift 22 = .ok (.putfield 47, 3) := by decide +kernel
theorem dX4_takeLift_25 : decode cX4_takeLift 25 = .ok (.aload_n 0, 1) := by decide +kernel
theorem dX4_takeLift_26 : decode cX4_takeLift 26 = .ok (.iconst 1, 1) := by decide +kernel
theorem dX4_takeLift_27 : decode cX4_takeLift 27 = .ok (.putfield 40, 3) := by decide +kernel
theorem dX4_takeLift_30 : decode cX4_takeLift 30 = .ok (.return_, 1) := by decide +kernel
theorem dX4_takePress_0 : decode cX4_takePress 0 = .ok (.aload_n 0, 1) := by decide +kernel
theorem dX4_takePress_1 : decode cX4_takePress 1 = .ok (.dup, 1) := by decide +kernel
theorem dX4_takePress_2 : decode cX4_takePress 2 = .ok (.getfield 31, 3) := by decide +kernel
theorem dX4_takePress_5 : decode cX4_takePress 5 = .ok (.iload_n 1, 1) := by decide +kernel
theorem dX4_takePress_6 : decode cX4_takePress 6 = .ok (.iadd, 1) := by decide +kernel
theorem dX4_takePress_7 : decode cX4_takePress 7 = .ok (.putfield 31, 3) := by decide +kernel
theorem dX4_takePress_10 : decode cX4_takePress 10 = .ok (.aload_n 0, 1) := by decide +kernel
theorem dX4_takePress_11 : decode cX4_takePress 11 = .ok (.dup, 1) := by decide +kernel
theorem dX4_takePress_12 : decode cX4_takePress 12 = .ok (.getfield 50, 3) := by decide +kernel
theorem dX4_takePress_15 : decode cX4_takePress 15 = .ok (.iload_n 1, 1) := by decide +kernel
theorem dX4_takePress_16 : decode cX4_takePress 16 = .ok (.iadd, 1) := by decide +kernel
theorem dX4_takePress_17 : decode cX4_takePress 17 = .ok (.putfield 50, 3) := by decide +kernel
theorem dX4_takePress_20 : decode cX4_takePress 20 = .ok (.aload_n 0, 1) := by decide +kernel
theorem dX4_takePress_21 : decode cX4_takePress 21 = .ok (.iconst 0, 1) := by decide +kernel
theorem dX4_takePress_22 : decode cX4_takePress 22 = .ok (.putfield 40, 3) := by decide +kernel
theorem dX4_takePress_25 : decode cX4_takePress 25 = .ok (.return_, 1) := by decide +kernel
theorem dX4_keptSet_0 : decode cX4_keptSet 0 = .ok (.iload_n 1, 1) := by decide +kernel
theorem dX4_keptSet_1 : decode cX4_keptSet 1 = .ok (.ifCond .lt 21, 3) := by decide +kernel
theorem dX4_keptSet_4 : decode cX4_keptSet 4 = .ok (.iload_n 1, 1) := by decide +kernel
theorem dX4_keptSet_5 : decode cX4_keptSet 5 = .ok (.aload_n 0, 1) := by decide +kernel
theorem dX4_keptSet_6 : decode cX4_keptSet 6 = .ok (.getfield 9, 3) := by decide +kernel
theorem dX4_keptSet_9 : decode cX4_keptSet 9 = .ok (.arraylength, 1) := by decide +kernel
theorem dX4_keptSet_10 : decode cX4_keptSet 10 = .ok (.if_icmp .ge 12, 3) := by decide +kernel
theorem dX4_keptSet_13 : decode cX4_keptSet 13 = .ok (.aload_n 0, 1) := by decide +kernel
theorem dX4_keptSet_14 : decode cX4_keptSet 14 = .ok (.getfield 9, 3) := by decide +kernel
theorem dX4_keptSet_17 : decode cX4_keptSet 17 = .ok (.iload_n 1, 1) := by decide +kernel
theorem dX4_keptSet_18 : decode cX4_keptSet 18 = .ok (.iaload, 1) := by decide +kernel
theorem dX4_keptSet_19 : decode cX4_keptSet 19 = .ok (.goto 4, 3) := by decide +kernel
theorem dX4_keptSet_22 : decode cX4_keptSet 22 = .ok (.iconst 0, 1) := by decide +kernel
theorem dX4_keptSet_23 : decode cX4_keptSet 23 = .ok (.ireturn, 1) := by decide +kernel
theorem dX4_keptLoad_0 : decode cX4_keptLoad 0 = .ok (.iload_n 1, 1) := by decide +kernel
theorem dX4_keptLoad_1 : decode cX4_keptLoad 1 = .ok (.ifCond .lt 21, 3) := by decide +kernel
theorem dX4_keptLoad_4 : decode cX4_keptLoad 4 = .ok (.iload_n 1, 1) := by decide +kernel
theorem dX4_keptLoad_5 : decode cX4_keptLoad 5 = .ok (.aload_n 0, 1) := by decide +kernel
theorem dX4_keptLoad_6 : decode cX4_keptLoad 6 = .ok (.getfield 15, 3) := by decide +kernel
theorem dX4_keptLoad_9 : decode cX4_keptLoad 9 = .ok (.arraylength, 1) := by decide +kernel
theorem dX4_keptLoad_10 : decode cX4_keptLoad 10 = .ok (.if_icmp .ge 12, 3) := by decide +kernel
theorem dX4_keptLoad_13 : decode cX4_keptLoad 13 = .ok (.aload_n 0, 1) := by decide +kernel
theorem dX4_keptLoad_14 : decode cX4_keptLoad 14 = .ok (.getfield 15, 3) := by decide +kernel
theorem dX4_keptLoad_17 : decode cX4_keptLoad 17 = .ok (.iload_n 1, 1) := by decide +kernel
theorem dX4_keptLoad_18 : decode cX4_keptLoad 18 = .ok (.iaload, 1) := by decide +kernel
theorem dX4_keptLoad_19 : decode cX4_keptLoad 19 = .ok (.goto 4, 3) := by decide +kernel
theorem dX4_keptLoad_22 : decode cX4_keptLoad 22 = .ok (.iconst 0, 1) := by decide +kernel
theorem dX4_keptLoad_23 : decode cX4_keptLoad 23 = .ok (.ireturn, 1) := by decide +kernel
theorem dX4_copyFrom_0 : decode cX4_copyFrom 0 = .ok (.aload_n 1, 1) := by decide +kernel
theorem dX4_copyFrom_1 : decode cX4_copyFrom 1 = .ok (.getfield 9, 3) := by decide +kernel
theorem dX4_copyFrom_4 : decode cX4_copyFrom 4 = .ok (.iconst 0, 1) := by decide +kernel
theorem dX4_copyFrom_5 : decode cX4_copyFrom 5 = .ok (.aload_n 0, 1) := by decide +kernel
theorem dX4_copyFrom_6 : decode cX4_copyFrom 6 = .ok (.getfield 9, 3) := by decide +kernel
theorem dX4_copyFrom_9 : decode cX4_copyFrom 9 = .ok (.iconst 0, 1) := by decide +kernel
theorem dX4_copyFrom_10 : decode cX4_copyFrom 10 = .ok (.bipush 40, 2) := by decide +kernel
theorem dX4_copyFrom_12 : decode cX4_copyFrom 12 = .ok (.invokestatic 57, 3) := by decide +kernel
theorem dX4_copyFrom_15 : decode cX4_copyFrom 15 = .ok (.aload_n 1, 1) := by decide +kernel
theorem dX4_copyFrom_16 : decode cX4_copyFrom 16 = .ok (.getfield 15, 3) := by decide +kernel
theorem dX4_copyFrom_19 : decode cX4_copyFrom 19 = .ok (.iconst 0, 1) := by decide +kernel
theorem dX4_copyFrom_20 : decode cX4_copyFrom 20 = .ok (.aload_n 0, 1) := by decide +kernel
theorem dX4_copyFrom_21 : decode cX4_copyFrom 21 = .ok (.getfield 15, 3) := by decide +kernel
theorem dX4_copyFrom_24 : decode cX4_copyFrom 24 = .ok (.iconst 0, 1) := by decide +kernel
theorem dX4_copyFrom_25 : decode cX4_copyFrom 25 = .ok (.bipush 40, 2) := by decide +kernel
theorem dX4_copyFrom_27 : decode cX4_copyFrom 27 = .ok (.invokestatic 57, 3) := by decide +kernel
theorem dX4_copyFrom_30 : decode cX4_copyFrom 30 = .ok (.aload_n 0, 1) := by decide +kernel
theorem dX4_copyFrom_31 : decode cX4_copyFrom 31 = .ok (.aload_n 1, 1) := by decide +kernel
theorem dX4_copyFrom_32 : decode cX4_copyFrom 32 = .ok (.getfield 28, 3) := by decide +kernel
theorem dX4_copyFrom_35 : decode cX4_copyFrom 35 = .ok (.putfield 28, 3) := by decide +kernel
theorem dX4_copyFrom_38 : decode cX4_copyFrom 38 = .ok (.aload_n 0, 1) := by decide +kernel
theorem dX4_copyFrom_39 : decode cX4_copyFrom 39 = .ok (.aload_n 1, 1) := by decide +kernel
theorem dX4_copyFrom_40 : decode cX4_copyFrom 40 = .ok (.getfield 18, 3) := by decide +kernel
theorem dX4_copyFrom_43 : decode cX4_copyFrom 43 = .ok (.putfield 18, 3) := by decide +kernel
theorem dX4_copyFrom_46 : decode cX4_copyFrom 46 = .ok (.aload_n 0, 1) := by decide +kernel
theorem dX4_copyFrom_47 : decode cX4_copyFrom 47 = .ok (.aload_n 1, 1) := by decide +kernel
theorem dX4_copyFrom_48 : decode cX4_copyFrom 48 = .ok (.getfield 22, 3) := by decide +kernel
theorem dX4_copyFrom_51 : decode cX4_copyFrom 51 = .ok (.putfield 22, 3) := by decide +kernel
theorem dX4_copyFrom_54 : decode cX4_copyFrom 54 = .ok (.aload_n 0, 1) := by decide +kernel
theorem dX4_copyFrom_55 : decode cX4_copyFrom 55 = .ok (.aload_n 1, 1) := by decide +kernel
theorem dX4_copyFrom_56 : decode cX4_copyFrom 56 = .ok (.getfield 25, 3) := by decide +kernel
theorem dX4_copyFrom_59 : decode cX4_copyFrom 59 = .ok (.putfield 25, 3) := by decide +kernel
theorem dX4_copyFrom_62 : decode cX4_copyFrom 62 = .ok (.aload_n 0, 1) := by decide +kernel
theorem dX4_copyFrom_63 : decode cX4_copyFrom 63 = .ok (.aload_n 1, 1) := by decide +kernel
theorem dX4_copyFrom_64 : decode cX4_copyFrom 64 = .ok (.getfield 31, 3) := by decide +kernel
theorem dX4_copyFrom_67 : decode cX4_copyFrom 67 = .ok (.putfield 31, 3) := by decide +kernel
theorem dX4_copyFrom_70 : decode cX4_copyFrom 70 = .ok (.aload_n 0, 1) := by decide +kernel
theorem dX4_copyFrom_71 : decode cX4_copyFrom 71 = .ok (.aload_n 1, 1) := by decide +kernel
theorem dX4_copyFrom_72 : decode cX4_copyFrom 72 = .ok (.getfield 34, 3) := by decide +kernel
theorem dX4_copyFrom_75 : decode cX4_copyFrom 75 = .ok (.putfield 34, 3) := by decide +kernel
theorem dX4_copyFrom_78 : decode cX4_copyFrom 78 = .ok (.aload_n 0, 1) := by decide +kernel
theorem dX4_copyFrom_79 : decode cX4_copyFrom 79 = .ok (.aload_n 1, 1) := by decide +kernel
theorem dX4_copyFrom_80 : decode cX4_copyFrom 80 = .ok (.getfield 37, 3) := by decide +kernel
theorem dX4_copyFrom_83 : decode cX4_copyFrom 83 = .ok (.putfield 37, 3) := by decide +kernel
theorem dX4_copyFrom_86 : decode cX4_copyFrom 86 = .ok (.aload_n 0, 1) := by decide +kernel
theorem dX4_copyFrom_87 : decode cX4_copyFrom 87 = .ok (.aload_n 1, 1) := by decide +kernel
theorem dX4_copyFrom_88 : decode cX4_copyFrom 88 = .ok (.getfield 40, 3) := by decide +kernel
theorem dX4_copyFrom_91 : decode cX4_copyFrom 91 = .ok (.putfield 40, 3) := by decide +kernel
theorem dX4_copyFrom_94 : decode cX4_copyFrom 94 = .ok (.aload_n 0, 1) := by decide +kernel
theorem dX4_copyFrom_95 : decode cX4_copyFrom 95 = .ok (.aload_n 1, 1) := by decide +kernel
theorem dX4_copyFrom_96 : decode cX4_copyFrom 96 = .ok (.getfield 44, 3) := by decide +kernel
theorem dX4_copyFrom_99 : decode cX4_copyFrom 99 = .ok (.putfield 44, 3) := by decide +kernel
theorem dX4_copyFrom_102 : decode cX4_copyFrom 102 = .ok (.aload_n 0, 1) := by decide +kernel
theorem dX4_copyFrom_103 : decode cX4_copyFrom 103 = .ok (.aload_n 1, 1) := by decide +kernel
theorem dX4_copyFrom_104 : decode cX4_copyFrom 104 = .ok (.getfield 47, 3) := by decide +kernel
theorem dX4_copyFrom_107 : decode cX4_copyFrom 107 = .ok (.putfield 47, 3) := by decide +kernel
theorem dX4_copyFrom_110 : decode cX4_copyFrom 110 = .ok (.aload_n 0, 1) := by decide +kernel
theorem dX4_copyFrom_111 : decode cX4_copyFrom 111 = .ok (.aload_n 1, 1) := by decide +kernel
theorem dX4_copyFrom_112 : decode cX4_copyFrom 112 = .ok (.getfield 50, 3) := by decide +kernel
theorem dX4_copyFrom_115 : decode cX4_copyFrom 115 = .ok (.putfield 50, 3) := by decide +kernel
theorem dX4_copyFrom_118 : decode cX4_copyFrom 118 = .ok (.return_, 1) := by decide +kernel
theorem dX5_init_0 : decode cX5_init 0 = .ok (.aload_n 0, 1) := by decide +kernel
theorem dX5_init_1 : decode cX5_init 1 = .ok (.invokespecial 3, 3) := by decide +kernel
theorem dX5_init_4 : decode cX5_init 4 = .ok (.aload_n 0, 1) := by decide +kernel
theorem dX5_init_5 : decode cX5_init 5 = .ok (.iconst 4, 1) := by decide +kernel
theorem dX5_init_6 : decode cX5_init 6 = .ok (.newarray .int, 2) := by decide +kernel
theorem dX5_init_8 : decode cX5_init 8 = .ok (.putfield 9, 3) := by decide +kernel
theorem dX5_init_11 : decode cX5_init 11 = .ok (.return_, 1) := by decide +kernel
theorem dX5_read_0 : decode cX5_read 0 = .ok (.aload_n 0, 1) := by decide +kernel
theorem dX5_read_1 : decode cX5_read 1 = .ok (.iload_n 2, 1) := by decide +kernel
theorem dX5_read_2 : decode cX5_read 2 = .ok (.putfield 15, 3) := by decide +kernel
theorem dX5_read_5 : decode cX5_read 5 = .ok (.aload_n 0, 1) := by decide +kernel
theorem dX5_read_6 : decode cX5_read 6 = .ok (.iconst 0, 1) := by decide +kernel
theorem dX5_read_7 : decode cX5_read 7 = .ok (.putfield 19, 3) := by decide +kernel
theorem dX5_read_10 : decode cX5_read 10 = .ok (.aload_n 0, 1) := by decide +kernel
theorem dX5_read_11 : decode cX5_read 11 = .ok (.iconst 0, 1) := by decide +kernel
theorem dX5_read_12 : decode cX5_read 12 = .ok (.putfield 22, 3) := by decide +kernel
theorem dX5_read_15 : decode cX5_read 15 = .ok (.iconst 0, 1) := by decide +kernel
theorem dX5_read_16 : decode cX5_read 16 = .ok (.istore_n 3, 1) := by decide +kernel
theorem dX5_read_17 : decode cX5_read 17 = .ok (.iload_n 3, 1) := by decide +kernel
theorem dX5_read_18 : decode cX5_read 18 = .ok (.aload_n 1, 1) := by decide +kernel
theorem dX5_read_19 : decode cX5_read 19 = .ok (.getfield 25, 3) := by decide +kernel
theorem dX5_read_22 : decode cX5_read 22 = .ok (.if_icmp .ge 32, 3) := by decide +kernel
theorem dX5_read_25 : decode cX5_read 25 = .ok (.aload_n 1, 1) := by decide +kernel
theorem dX5_read_26 : decode cX5_read 26 = .ok (.iload_n 3, 1) := by decide +kernel
theorem dX5_read_27 : decode cX5_read 27 = .ok (.invokevirtual 30, 3) := by decide +kernel
theorem dX5_read_30 : decode cX5_read 30 = .ok (.istore 4, 2) := by decide +kernel
theorem dX5_read_32 : decode cX5_read 32 = .ok (.iload 4, 2) := by decide +kernel
theorem dX5_read_34 : decode cX5_read 34 = .ok (.ifCond .le 14, 3) := by decide +kernel
theorem dX5_read_37 : decode cX5_read 37 = .ok (.aload_n 0, 1) := by decide +kernel
theorem dX5_read_38 : decode cX5_read 38 = .ok (.iload 4, 2) := by decide +kernel
theorem dX5_read_40 : decode cX5_read 40 = .ok (.aload_n 1, 1) := by decide +kernel
theorem dX5_read_41 : decode cX5_read 41 = .ok (.iload_n 3, 1) := by decide +kernel
theorem dX5_read_42 : decode cX5_read 42 = .ok (.invokevirtual 34, 3) := by decide +kernel
theorem dX5_read_45 : decode cX5_read 45 = .ok (.invokevirtual 37, 3) := by decide +kernel
theorem dX5_read_48 : decode cX5_read 48 = .ok (.iinc 3 1, 3) := by decide +kernel
theorem dX5_read_51 : decode cX5_read 51 = .ok (.goto (-34), 3) := by decide +kernel
theorem dX5_read_54 : decode cX5_read 54 = .ok (.aload_n 0, 1) := by decide +kernel
theorem dX5_read_55 : decode cX5_read 55 = .ok (.invokevirtual 41, 3) := by decide +kernel
theorem dX5_read_58 : decode cX5_read 58 = .ok (.return_, 1) := by decide +kernel
theorem dX5_readSet_0 : decode cX5_readSet 0 = .ok (.aload_n 0, 1) := by decide +kernel
theorem dX5_readSet_1 : decode cX5_readSet 1 = .ok (.getfield 22, 3) := by decide +kernel
theorem dX5_readSet_4 : decode cX5_readSet 4 = .ok (.ifCond .le 20, 3) := by decide +kernel
theorem dX5_readSet_7 : decode cX5_readSet 7 = .ok (.iload_n 1, 1) := by decide +kernel
theorem dX5_readSet_8 : decode cX5_readSet 8 = .ok (.aload_n 0, 1) := by decide +kernel
theorem dX5_readSet_9 : decode cX5_readSet 9 = .ok (.getfield 44, 3) := by decide +kernel
theorem dX5_readSet_12 : decode cX5_readSet 12 = .ok (.isub, 1) := by decide +kernel
theorem dX5_readSet_13 : decode cX5_readSet 13 = .ok (.invokestatic 47, 3) := by decide +kernel
theorem dX5_readSet_16 : decode cX5_readSet 16 = .ok (.iconst 1, 1) := by decide +kernel
theorem dX5_readSet_17 : decode cX5_readSet 17 = .ok (.if_icmp .le 7, 3) := by decide +kernel
theorem dX5_readSet_20 : decode cX5_readSet 20 = .ok (.aload_n 0, 1) := by decide +kernel
theorem dX5_readSet_21 : decode cX5_readSet 21 = .ok (.invokevirtual 41, 3) := by decide +kernel
theorem dX5_readSet_24 : decode cX5_readSet 24 = .ok (.aload_n 0, 1) := by decide +kernel
theorem dX5_readSet_25 : decode cX5_readSet 25 = .ok (.getfield 22, 3) := by decide +kernel
theorem dX5_readSet_28 : decode cX5_readSet 28 = .ok (.ifCond .ne 18, 3) := by decide +kernel
theorem dX5_readSet_31 : decode cX5_readSet 31 = .ok (.aload_n 0, 1) := by decide +kernel
theorem dX5_readSet_32 : decode cX5_readSet 32 = .ok (.iload_n 1, 1) := by decide +kernel
theorem dX5_readSet_33 : decode cX5_readSet 33 = .ok (.putfield 44, 3) := by decide +kernel
theorem dX5_readSet_36 : decode cX5_readSet 36 = .ok (.aload_n 0, 1) := by decide +kernel
theorem dX5_readSet_37 : decode cX5_readSet 37 = .ok (.iload_n 2, 1) := by decide +kernel
theorem dX5_readSet_38 : decode cX5_readSet 38 = .ok (.putfield 52, 3) := by decide +kernel
theorem dX5_readSet_41 : decode cX5_readSet 41 = .ok (.aload_n 0, 1) := by decide +kernel
theorem dX5_readSet_42 : decode cX5_readSet 42 = .ok (.iconst 0, 1) := by decide +kernel
theorem dX5_readSet_43 : decode cX5_readSet 43 = .ok (.putfield 55, 3) := by decide +kernel
theorem dX5_readSet_46 : decode cX5_readSet 46 = .ok (.aload_n 0, 1) := by decide +kernel
theorem dX5_readSet_47 : decode cX5_readSet 47 = .ok (.dup, 1) := by decide +kernel
theorem dX5_readSet_48 : decode cX5_readSet 48 = .ok (.getfield 22, 3) := by decide +kernel
theorem dX5_readSet_51 : decode cX5_readSet 51 = .ok (.iconst 1, 1) := by decide +kernel
theorem dX5_readSet_52 : decode cX5_readSet 52 = .ok (.iadd, 1) := by decide +kernel
theorem dX5_readSet_53 : decode cX5_readSet 53 = .ok (.putfield 22, 3) := by decide +kernel
theorem dX5_readSet_56 : decode cX5_readSet 56 = .ok (.aload_n 0, 1) := by decide +kernel
theorem dX5_readSet_57 : decode cX5_readSet 57 = .ok (.dup, 1) := by decide +kernel
theorem dX5_readSet_58 : decode cX5_readSet 58 = .ok (.getfield 55, 3) := by decide +kernel
theorem dX5_readSet_61 : decode cX5_readSet 61 = .ok (.iload_n 1, 1) := by decide +kernel
theorem dX5_readSet_62 : decode cX5_readSet 62 = .ok (.iadd, 1) := by decide +kernel
theorem dX5_readSet_63 : decode cX5_readSet 63 = .ok (.putfield 55, 3) := by decide +kernel
theorem dX5_readSet_66 : decode cX5_readSet 66 = .ok (.return_, 1) := by decide +kernel
theorem dX5_closeRun_0 : decode cX5_closeRun 0 = .ok (.aload_n 0, 1) := by decide +kernel
theorem dX5_closeRun_1 : decode cX5_closeRun 1 = .ok (.getfield 22, 3) := by decide +kernel
theorem dX5_closeRun_4 : decode cX5_closeRun 4 = .ok (.iconst 3, 1) := by decide +kernel
theorem dX5_closeRun_5 : decode cX5_closeRun 5 = .ok (.if_icmp .lt 64, 3) := by decide +kernel
theorem dX5_closeRun_8 : decode cX5_closeRun 8 = .ok (.aload_n 0, 1) := by decide +kernel
theorem dX5_closeRun_9 : decode cX5_closeRun 9 = .ok (.getfield 19, 3) := by decide +kernel
theorem dX5_closeRun_12 : decode cX5_closeRun 12 = .ok (.aload_n 0, 1) := by decide +kernel
theorem dX5_closeRun_13 : decode cX5_closeRun 13 = .ok (.getfield 15, 3) := by decide +kernel
theorem dX5_closeRun_16 : decode cX5_closeRun 16 = .ok (.if_icmp .ne 43, 3) := by decide +kernel
theorem dX5_closeRun_19 : decode cX5_closeRun 19 = .ok (.aload_n 0, 1) := by decide +kernel
theorem dX5_closeRun_20 : decode cX5_closeRun 20 = .ok (.getfield 9, 3) := by decide +kernel
theorem dX5_closeRun_23 : decode cX5_closeRun 23 = .ok (.iconst 0, 1) := by decide +kernel
theorem dX5_closeRun_24 : decode cX5_closeRun 24 = .ok (.aload_n 0, 1) := by decide +kernel
theorem dX5_closeRun_25 : decode cX5_closeRun 25 = .ok (.getfield 44, 3) := by decide +kernel
theorem dX5_closeRun_28 : decode cX5_closeRun 28 = .ok (.iastore, 1) := by decide +kernel
theorem dX5_closeRun_29 : decode cX5_closeRun 29 = .ok (.aload_n 0, 1) := by decide +kernel
theorem dX5_closeRun_30 : decode cX5_closeRun 30 = .ok (.getfield 9, 3) := by decide +kernel
theorem dX5_closeRun_33 : decode cX5_closeRun 33 = .ok (.iconst 1, 1) := by decide +kernel
theorem dX5_closeRun_34 : decode cX5_closeRun 34 = .ok (.aload_n 0, 1) := by decide +kernel
theorem dX5_closeRun_35 : decode cX5_closeRun 35 = .ok (.getfield 22, 3) := by decide +kernel
theorem dX5_closeRun_38 : decode cX5_closeRun 38 = .ok (.iastore, 1) := by decide +kernel
theorem dX5_closeRun_39 : decode cX5_closeRun 39 = .ok (.aload_n 0, 1) := by decide +kernel
theorem dX5_closeRun_40 : decode cX5_closeRun 40 = .ok (.getfield 9, 3) := by decide +kernel
theorem dX5_closeRun_43 : decode cX5_closeRun 43 = .ok (.iconst 2, 1) := by decide +kernel
theorem dX5_closeRun_44 : decode cX5_closeRun 44 = .ok (.aload_n 0, 1) := by decide +kernel
theorem dX5_closeRun_45 : decode cX5_closeRun 45 = .ok (.getfield 52, 3) := by decide +kernel
theorem dX5_closeRun_48 : decode cX5_closeRun 48 = .ok (.iastore, 1) := by decide +kernel
theorem dX5_closeRun_49 : decode cX5_closeRun 49 = .ok (.aload_n 0, 1) := by decide +kernel
theorem dX5_closeRun_50 : decode cX5_closeRun 50 = .ok (.getfield 9, 3) := by decide +kernel
theorem dX5_closeRun_53 : decode cX5_closeRun 53 = .ok (.iconst 3, 1) := by decide +kernel
theorem dX5_closeRun_54 : decode cX5_closeRun 54 = .ok (.aload_n 0, 1) := by decide +kernel
theorem dX5_closeRun_55 : decode cX5_closeRun 55 = .ok (.getfield 55, 3) := by decide +kernel
theorem dX5_closeRun_58 : decode cX5_closeRun 58 = .ok (.iastore, 1) := by decide +kernel
theorem dX5_closeRun_59 : decode cX5_closeRun 59 = .ok (.aload_n 0, 1) := by decide +kernel
theorem dX5_closeRun_60 : decode cX5_closeRun 60 = .ok (.dup, 1) := by decide +kernel
theorem dX5_closeRun_61 : decode cX5_closeRun 61 = .ok (.getfield 19, 3) := by decide +kernel
theorem dX5_closeRun_64 : decode cX5_closeRun 64 = .ok (.iconst 1, 1) := by decide +kernel
theorem dX5_closeRun_65 : decode cX5_closeRun 65 = .ok (.iadd, 1) := by decide +kernel
theorem dX5_closeRun_66 : decode cX5_closeRun 66 = .ok (.putfield 19, 3) := by decide +kernel
theorem dX5_closeRun_69 : decode cX5_closeRun 69 = .ok (.aload_n 0, 1) := by decide +kernel
theorem dX5_closeRun_70 : decode cX5_closeRun 70 = .ok (.iconst 0, 1) := by decide +kernel
theorem dX5_closeRun_71 : decode cX5_closeRun 71 = .ok (.putfield 22, 3) := by decide +kernel
theorem dX5_closeRun_74 : decode cX5_closeRun 74 = .ok (.return_, 1) := by decide +kernel
theorem dX5_answerOf_0 : decode cX5_answerOf 0 = .ok (.iload_n 1, 1) := by decide +kernel
theorem dX5_answerOf_1 : decode cX5_answerOf 1 = .ok (.ifCond .lt 21, 3) := by decide +kernel
theorem dX5_answerOf_4 : decode cX5_answerOf 4 = .ok (.iload_n 1, 1) := by decide +kernel
theorem dX5_answerOf_5 : decode cX5_answerOf 5 = .ok (.aload_n 0, 1) := by decide +kernel
theorem dX5_answerOf_6 : decode cX5_answerOf 6 = .ok (.getfield 9, 3) := by decide +kernel
theorem dX5_answerOf_9 : decode cX5_answerOf 9 = .ok (.arraylength, 1) := by decide +kernel
theorem dX5_answerOf_10 : decode cX5_answerOf 10 = .ok (.if_icmp .ge 12, 3) := by decide +kernel
theorem dX5_answerOf_13 : decode cX5_answerOf 13 = .ok (.aload_n 0, 1) := by decide +kernel
theorem dX5_answerOf_14 : decode cX5_answerOf 14 = .ok (.getfield 9, 3) := by decide +kernel
theorem dX5_answerOf_17 : decode cX5_answerOf 17 = .ok (.iload_n 1, 1) := by decide +kernel
theorem dX5_answerOf_18 : decode cX5_answerOf 18 = .ok (.iaload, 1) := by decide +kernel
theorem dX5_answerOf_19 : decode cX5_answerOf 19 = .ok (.goto 4, 3) := by decide +kernel
theorem dX5_answerOf_22 : decode cX5_answerOf 22 = .ok (.iconst 0, 1) := by decide +kernel
theorem dX5_answerOf_23 : decode cX5_answerOf 23 = .ok (.ireturn, 1) := by decide +kernel
theorem dX6_init_0 : decode cX6_init 0 = .ok (.aload_n 0, 1) := by decide +kernel
theorem dX6_init_1 : decode cX6_init 1 = .ok (.invokespecial 3, 3) := by decide +kernel
theorem dX6_init_4 : decode cX6_init 4 = .ok (.aload_n 0, 1) := by decide +kernel
theorem dX6_init_5 : decode cX6_init 5 = .ok (.new 9, 3) := by decide +kernel
theorem dX6_init_8 : decode cX6_init 8 = .ok (.dup, 1) := by decide +kernel
theorem dX6_init_9 : decode cX6_init 9 = .ok (.invokespecial 11, 3) := by decide +kernel
theorem dX6_init_12 : decode cX6_init 12 = .ok (.putfield 12, 3) := by decide +kernel
theorem dX6_init_15 : decode cX6_init 15 = .ok (.aload_n 0, 1) := by decide +kernel
theorem dX6_init_16 : decode cX6_init 16 = .ok (.getstatic 18, 3) := by decide +kernel
theorem dX6_init_19 : decode cX6_init 19 = .ok (.invokevirtual 22, 3) := by decide +kernel
theorem dX6_init_22 : decode cX6_init 22 = .ok (.checkcast 23, 3) := by decide +kernel
theorem dX6_init_25 : decode cX6_init 25 = .ok (.putfield 27, 3) := by decide +kernel
theorem dX6_init_28 : decode cX6_init 28 = .ok (.aload_n 0, 1) := by decide +kernel
theorem dX6_init_29 : decode cX6_init 29 = .ok (.bipush 10, 2) := by decide +kernel
theorem dX6_init_31 : decode cX6_init 31 = .ok (.anewarray 30, 3) := by decide +kernel
theorem dX6_init_34 : decode cX6_init 34 = .ok (.putfield 32, 3) := by decide +kernel
theorem dX6_init_37 : decode cX6_init 37 = .ok (.iconst 0, 1) := by decide +kernel
theorem dX6_init_38 : decode cX6_init 38 = .ok (.istore_n 1, 1) := by decide +kernel
theorem dX6_init_39 : decode cX6_init 39 = .ok (.iload_n 1, 1) := by decide +kernel
theorem dX6_init_40 : decode cX6_init 40 = .ok (.aload_n 0, 1) := by decide +kernel
theorem dX6_init_41 : decode cX6_init 41 = .ok (.getfield 32, 3) := by decide +kernel
theorem dX6_init_44 : decode cX6_init 44 = .ok (.arraylength, 1) := by decide +kernel
theorem dX6_init_45 : decode cX6_init 45 = .ok (.if_icmp .ge 22, 3) := by decide +kernel
theorem dX6_init_48 : decode cX6_init 48 = .ok (.aload_n 0, 1) := by decide +kernel
theorem dX6_init_49 : decode cX6_init 49 = .ok (.getfield 32, 3) := by decide +kernel
theorem dX6_init_52 : decode cX6_init 52 = .ok (.iload_n 1, 1) := by decide +kernel
theorem dX6_init_53 : decode cX6_init 53 = .ok (.new 30, 3) := by decide +kernel
theorem dX6_init_56 : decode cX6_init 56 = .ok (.dup, 1) := by decide +kernel
theorem dX6_init_57 : decode cX6_init 57 = .ok (.invokespecial 36, 3) := by decide +kernel
theorem dX6_init_60 : decode cX6_init 60 = .ok (.aastore, 1) := by decide +kernel
theorem dX6_init_61 : decode cX6_init 61 = .ok (.iinc 1 1, 3) := by decide +kernel
theorem dX6_init_64 : decode cX6_init 64 = .ok (.goto (-25), 3) := by decide +kernel
theorem dX6_init_67 : decode cX6_init 67 = .ok (.return_, 1) := by decide +kernel
theorem dX6_setting_0 : decode cX6_setting 0 = .ok (.iload_n 1, 1) := by decide +kernel
theorem dX6_setting_1 : decode cX6_setting 1 = .ok (.ifCond .lt 21, 3) := by decide +kernel
theorem dX6_setting_4 : decode cX6_setting 4 = .ok (.iload_n 1, 1) := by decide +kernel
theorem dX6_setting_5 : decode cX6_setting 5 = .ok (.aload_n 0, 1) := by decide +kernel
theorem dX6_setting_6 : decode cX6_setting 6 = .ok (.getfield 27, 3) := by decide +kernel
theorem dX6_setting_9 : decode cX6_setting 9 = .ok (.arraylength, 1) := by decide +kernel
theorem dX6_setting_10 : decode cX6_setting 10 = .ok (.if_icmp .ge 12, 3) := by decide +kernel
theorem dX6_setting_13 : decode cX6_setting 13 = .ok (.aload_n 0, 1) := by decide +kernel
theorem dX6_setting_14 : decode cX6_setting 14 = .ok (.getfield 27, 3) := by decide +kernel
theorem dX6_setting_17 : decode cX6_setting 17 = .ok (.iload_n 1, 1) := by decide +kernel
theorem dX6_setting_18 : decode cX6_setting 18 = .ok (.iaload, 1) := by decide +kernel
theorem dX6_setting_19 : decode cX6_setting 19 = .ok (.goto 4, 3) := by decide +kernel
theorem dX6_setting_22 : decode cX6_setting 22 = .ok (.iconst 0, 1) := by decide +kernel
theorem dX6_setting_23 : decode cX6_setting 23 = .ok (.ireturn, 1) := by decide +kernel
theorem dX6_changeSetting_0 : decode cX6_changeSetting 0 = .ok (.iload_n 1, 1) := by decide +kernel
theorem dX6_changeSetting_1 : decode cX6_changeSetting 1 = .ok (.ifCond .lt 19, 3) := by decide +kernel
theorem dX6_changeSetting_4 : decode cX6_changeSetting 4 = .ok (.iload_n 1, 1) := by decide +kernel
theorem dX6_changeSetting_5 : decode cX6_changeSetting 5 = .ok (.aload_n 0, 1) := by decide +kernel
theorem dX6_changeSetting_6 : decode cX6_changeSetting 6 = .ok (.getfield 27, 3) := by decide +kernel
theorem dX6_changeSetting_9 : decode cX6_changeSetting 9 = .ok (.arraylength, 1) := by decide +kernel
theorem dX6_changeSetting_10 : decode cX6_changeSetting 10 = .ok (.if_icmp .ge 10, 3) := by decide +kernel
theorem dX6_changeSetting_13 : decode cX6_changeSetting 13 = .ok (.aload_n 0, 1) := by decide +kernel
theorem dX6_changeSetting_14 : decode cX6_changeSetting 14 = .ok (.getfield 27, 3) := by decide +kernel
theorem dX6_changeSetting_17 : decode cX6_changeSetting 17 = .ok (.iload_n 1, 1) := by decide +kernel
theorem dX6_changeSetting_18 : decode cX6_changeSetting 18 = .ok (.iload_n 2, 1) := by decide +kernel
theorem dX6_changeSetting_19 : decode cX6_changeSetting 19 = .ok (.iastore, 1) := by decide +kernel
theorem dX6_changeSetting_20 : decode cX6_changeSetting 20 = .ok (.return_, 1) := by decide +kernel
theorem dX6_pileAt_0 : decode cX6_pileAt 0 = .ok (.iload_n 1, 1) := by decide +kernel
theorem dX6_pileAt_1 : decode cX6_pileAt 1 = .ok (.ifCond .lt 29, 3) := by decide +kernel
theorem dX6_pileAt_4 : decode cX6_pileAt 4 = .ok (.iload_n 1, 1) := by decide +kernel
theorem dX6_pileAt_5 : decode cX6_pileAt 5 = .ok (.aload_n 0, 1) := by decide +kernel
theorem dX6_pileAt_6 : decode cX6_pileAt 6 = .ok (.getfield 37, 3) := by decide +kernel
theorem dX6_pileAt_9 : decode cX6_pileAt 9 = .ok (.if_icmp .ge 21, 3) := by decide +kernel
theorem dX6_pileAt_12 : decode cX6_pileAt 12 = .ok (.iload_n 1, 1) := by decide +kernel
theorem dX6_pileAt_13 : decode cX6_pileAt 13 = .ok (.aload_n 0, 1) := by decide +kernel
theorem dX6_pileAt_14 : decode cX6_pileAt 14 = .ok (.getfield 32, 3) := by decide +kernel
theorem dX6_pileAt_17 : decode cX6_pileAt 17 = .ok (.arraylength, 1) := by decide +kernel
theorem dX6_pileAt_18 : decode cX6_pileAt 18 = .ok (.if_icmp .ge 12, 3) := by decide +kernel
theorem dX6_pileAt_21 : decode cX6_pileAt 21 = .ok (.aload_n 0, 1) := by decide +kernel
theorem dX6_pileAt_22 : decode cX6_pileAt 22 = .ok (.getfield 32, 3) := by decide +kernel
theorem dX6_pileAt_25 : decode cX6_pileAt 25 = .ok (.iload_n 1, 1) := by decide +kernel
theorem dX6_pileAt_26 : decode cX6_pileAt 26 = .ok (.aaload, 1) := by decide +kernel
theorem dX6_pileAt_27 : decode cX6_pileAt 27 = .ok (.goto 4, 3) := by decide +kernel
theorem dX6_pileAt_30 : decode cX6_pileAt 30 = .ok (.aconst_null, 1) := by decide +kernel
theorem dX6_pileAt_31 : decode cX6_pileAt 31 = .ok (.areturn, 1) := by decide +kernel
theorem dX6_place_0 : decode cX6_place 0 = .ok (.aload_n 0, 1) := by decide +kernel
theorem dX6_place_1 : decode cX6_place 1 = .ok (.getfield 37, 3) := by decide +kernel
theorem dX6_place_4 : decode cX6_place 4 = .ok (.istore 4, 2) := by decide +kernel
theorem dX6_place_6 : decode cX6_place 6 = .ok (.aload_n 0, 1) := by decide +kernel
theorem dX6_place_7 : decode cX6_place 7 = .ok (.dup, 1) := by decide +kernel
theorem dX6_place_8 : decode cX6_place 8 = .ok (.getfield 37, 3) := by decide +kernel
theorem dX6_place_11 : decode cX6_place 11 = .ok (.iconst 1, 1) := by decide +kernel
theorem dX6_place_12 : decode cX6_place 12 = .ok (.iadd, 1) := by decide +kernel
theorem dX6_place_13 : decode cX6_place 13 = .ok (.putfield 37, 3) := by decide +kernel
theorem dX6_place_16 : decode cX6_place 16 = .ok (.aload_n 0, 1) := by decide +kernel
theorem dX6_place_17 : decode cX6_place 17 = .ok (.iload 4, 2) := by decide +kernel
theorem dX6_place_19 : decode cX6_place 19 = .ok (.invokevirtual 41, 3) := by decide +kernel
theorem dX6_place_22 : decode cX6_place 22 = .ok (.astore 5, 2) := by decide +kernel
theorem dX6_place_24 : decode cX6_place 24 = .ok (.aload 5, 2) := by decide +kernel
theorem dX6_place_26 : decode cX6_place 26 = .ok (.ifnull 11, 3) := by decide +kernel
theorem dX6_place_29 : decode cX6_place 29 = .ok (.aload 5, 2) := by decide +kernel
theorem dX6_place_31 : decode cX6_place 31 = .ok (.iload_n 1, 1) := by decide +kernel
theorem dX6_place_32 : decode cX6_place 32 = .ok (.iload_n 2, 1) := by decide +kernel
theorem dX6_place_33 : decode cX6_place 33 = .ok (.iload_n 3, 1) := by decide +kernel
theorem dX6_place_34 : decode cX6_place 34 = .ok (.invokevirtual 45, 3) := by decide +kernel
theorem dX6_place_37 : decode cX6_place 37 = .ok (.iload 4, 2) := by decide +kernel
theorem dX6_place_39 : decode cX6_place 39 = .ok (.ireturn, 1) := by decide +kernel
theorem dX6_isTaken_0 : decode cX6_isTaken 0 = .ok (.iconst 0, 1) := by decide +kernel
theorem dX6_isTaken_1 : decode cX6_isTaken 1 = .ok (.istore_n 3, 1) := by decide +kernel
theorem dX6_isTaken_2 : decode cX6_isTaken 2 = .ok (.iload_n 3, 1) := by decide +kernel
theorem dX6_isTaken_3 : decode cX6_isTaken 3 = .ok (.aload_n 0, 1) := by decide +kernel
theorem dX6_isTaken_4 : decode cX6_isTaken 4 = .ok (.getfield 37, 3) := by decide +kernel
theorem dX6_isTaken_7 : decode cX6_isTaken 7 = .ok (.if_icmp .ge 41, 3) := by decide +kernel
theorem dX6_isTaken_10 : decode cX6_isTaken 10 = .ok (.aload_n 0, 1) := by decide +kernel
theorem dX6_isTaken_11 : decode cX6_isTaken 11 = .ok (.iload_n 3, 1) := by decide +kernel
theorem dX6_isTaken_12 : decode cX6_isTaken 12 = .ok (.invokevirtual 41, 3) := by decide +kernel
theorem dX6_isTaken_15 : decode cX6_isTaken 15 = .ok (.astore 4, 2) := by decide +kernel
theorem dX6_isTaken_17 : decode cX6_isTaken 17 = .ok (.aload 4, 2) := by decide +kernel
theorem dX6_isTaken_19 : decode cX6_isTaken 19 = .ok (.ifnull 23, 3) := by decide +kernel
theorem dX6_isTaken_22 : decode cX6_isTaken 22 = .ok (.aload 4, 2) := by decide +kernel
theorem dX6_isTaken_24 : decode cX6_isTaken 24 = .ok (.getfield 49, 3) := by decide +kernel
theorem dX6_isTaken_27 : decode cX6_isTaken 27 = .ok (.iload_n 1, 1) := by decide +kernel
theorem dX6_isTaken_28 : decode cX6_isTaken 28 = .ok (.if_icmp .ne 14, 3) := by decide +kernel
theorem dX6_isTaken_31 : decode cX6_isTaken 31 = .ok (.aload 4, 2) := by decide +kernel
theorem dX6_isTaken_33 : decode cX6_isTaken 33 = .ok (.getfield 52, 3) := by decide +kernel
theorem dX6_isTaken_36 : decode cX6_isTaken 36 = .ok (.iload_n 2, 1) := by decide +kernel
theorem dX6_isTaken_37 : decode cX6_isTaken 37 = .ok (.if_icmp .ne 5, 3) := by decide +kernel
theorem dX6_isTaken_40 : decode cX6_isTaken 40 = .ok (.iconst 1, 1) := by decide +kernel
theorem dX6_isTaken_41 : decode cX6_isTaken 41 = .ok (.ireturn, 1) := by decide +kernel
theorem dX6_isTaken_42 : decode cX6_isTaken 42 = .ok (.iinc 3 1, 3) := by decide +kernel
theorem dX6_isTaken_45 : decode cX6_isTaken 45 = .ok (.goto (-43), 3) := by decide +kernel
theorem dX6_isTaken_48 : decode cX6_isTaken 48 = .ok (.iconst 0, 1) := by decide +kernel
theorem dX6_isTaken_49 : decode cX6_isTaken 49 = .ok (.ireturn, 1) := by decide +kernel
theorem dX6_feetIn_0 : decode cX6_feetIn 0 = .ok (.iconst 0, 1) := by decide +kernel
theorem dX6_feetIn_1 : decode cX6_feetIn 1 = .ok (.istore_n 2, 1) := by decide +kernel
theorem dX6_feetIn_2 : decode cX6_feetIn 2 = .ok (.iconst 0, 1) := by decide +kernel
theorem dX6_feetIn_3 : decode cX6_feetIn 3 = .ok (.istore_n 3, 1) := by decide +kernel
theorem dX6_feetIn_4 : decode cX6_feetIn 4 = .ok (.iload_n 3, 1) := by decide +kernel
theorem dX6_feetIn_5 : decode cX6_feetIn 5 = .ok (.aload_n 0, 1) := by decide +kernel
theorem dX6_feetIn_6 : decode cX6_feetIn 6 = .ok (.getfield 37, 3) := by decide +kernel
theorem dX6_feetIn_9 : decode cX6_feetIn 9 = .ok (.if_icmp .ge 40, 3) := by decide +kernel
theorem dX6_feetIn_12 : decode cX6_feetIn 12 = .ok (.aload_n 0, 1) := by decide +kernel
theorem dX6_feetIn_13 : decode cX6_feetIn 13 = .ok (.iload_n 3, 1) := by decide +kernel
theorem dX6_feetIn_14 : decode cX6_feetIn 14 = .ok (.invokevirtual 41, 3) := by decide +kernel
theorem dX6_feetIn_17 : decode cX6_feetIn 17 = .ok (.astore 4, 2) := by decide +kernel
theorem dX6_feetIn_19 : decode cX6_feetIn 19 = .ok (.aload 4, 2) := by decide +kernel
theorem dX6_feetIn_21 : decode cX6_feetIn 21 = .ok (.ifnull 22, 3) := by decide +kernel
theorem dX6_feetIn_24 : decode cX6_feetIn 24 = .ok (.aload_n 0, 1) := by decide +kernel
theorem dX6_feetIn_25 : decode cX6_feetIn 25 = .ok (.getfield 12, 3) := by decide +kernel
theorem dX6_feetIn_28 : decode cX6_feetIn 28 = .ok (.aload 4, 2) := by decide +kernel
theorem dX6_feetIn_30 : decode cX6_feetIn 30 = .ok (.getfield 55, 3) := by decide +kernel
theorem dX6_feetIn_33 : decode cX6_feetIn 33 = .ok (.invokevirtual 58, 3) := by decide +kernel
theorem dX6_feetIn_36 : decode cX6_feetIn 36 = .ok (.iload_n 1, 1) := by decide +kernel
theorem dX6_feetIn_37 : decode cX6_feetIn 37 = .ok (.if_icmp .ne 6, 3) := by decide +kernel
theorem dX6_feetIn_40 : decode cX6_feetIn 40 = .ok (.iinc 2 1, 3) := by decide +kernel
theorem dX6_feetIn_43 : decode cX6_feetIn 43 = .ok (.iinc 3 1, 3) := by decide +kernel
theorem dX6_feetIn_46 : decode cX6_feetIn 46 = .ok (.goto (-42), 3) := by decide +kernel
theorem dX6_feetIn_49 : decode cX6_feetIn 49 = .ok (.iload_n 2, 1) := by decide +kernel
theorem dX6_feetIn_50 : decode cX6_feetIn 50 = .ok (.ireturn, 1) := by decide +kernel
theorem dX6_loosePiles_0 : decode cX6_loosePiles 0 = .ok (.iconst 0, 1) := by decide +kernel
theorem dX6_loosePiles_1 : decode cX6_loosePiles 1 = .ok (.istore_n 1, 1) := by decide +kernel
theorem dX6_loosePiles_2 : decode cX6_loosePiles 2 = .ok (.iconst 0, 1) := by decide +kernel
theorem dX6_loosePiles_3 : decode cX6_loosePiles 3 = .ok (.istore_n 2, 1) := by decide +kernel
theorem dX6_loosePiles_4 : decode cX6_loosePiles 4 = .ok (.iload_n 2, 1) := by decide +kernel
theorem dX6_loosePiles_5 : decode cX6_loosePiles 5 = .ok (.aload_n 0, 1) := by decide +kernel
theorem dX6_loosePiles_6 : decode cX6_loosePiles 6 = .ok (.getfield 37, 3) := by decide +kernel
theorem dX6_loosePiles_9 : decode cX6_loosePiles 9 = .ok (.if_icmp .ge 29, 3) := by decide +kernel
theorem dX6_loosePiles_12 : decode cX6_loosePiles 12 = .ok (.aload_n 0, 1) := by decide +kernel
theorem dX6_loosePiles_13 : decode cX6_loosePiles 13 = .ok (.iload_n 2, 1) := by decide +kernel
theorem dX6_loosePiles_14 : decode cX6_loosePiles 14 = .ok (.invokevirtual 41, 3) := by decide +kernel
theorem dX6_loosePiles_17 : decode cX6_loosePiles 17 = .ok (.astore_n 3, 1) := by decide +kernel
theorem dX6_loosePiles_18 : decode cX6_loosePiles 18 = .ok (.aload_n 3, 1) := by decide +kernel
theorem dX6_loosePiles_19 : decode cX6_loosePiles 19 = .ok (.ifnull 13, 3) := by decide +kernel
theorem dX6_loosePiles_22 : decode cX6_loosePiles 22 = .ok (.aload_n 3, 1) := by decide +kernel
theorem dX6_loosePiles_23 : decode cX6_loosePiles 23 = .ok (.getfield 62, 3) := by decide +kernel
theorem dX6_loosePiles_26 : decode cX6_loosePiles 26 = .ok (.ifCond .eq 6, 3) := by decide +kernel
theorem dX6_loosePiles_29 : decode cX6_loosePiles 29 = .ok (.iinc 1 1, 3) := by decide +kernel
theorem dX6_loosePiles_32 : decode cX6_loosePiles 32 = .ok (.iinc 2 1, 3) := by decide +kernel
theorem dX6_loosePiles_35 : decode cX6_loosePiles 35 = .ok (.goto (-31), 3) := by decide +kernel
theorem dX6_loosePiles_38 : decode cX6_loosePiles 38 = .ok (.iload_n 1, 1) := by decide +kernel
theorem dX6_loosePiles_39 : decode cX6_loosePiles 39 = .ok (.ireturn, 1) := by decide +kernel
theorem dX6_pilesWithoutBlows_0 : decode cX6_pilesWithoutBlows 0 = .ok (.iconst 0, 1) := by decide +kernel
theorem dX6_pilesWithoutBlows_1 : decode cX6_pilesWithoutBlows 1 = .ok (.istore_n 1, 1) := by decide +kernel
theorem dX6_pilesWithoutBlows_2 : decode cX6_pilesWithoutBlows 2 = .ok (.iconst 0, 1) := by decide +kernel
theorem dX6_pilesWithoutBlows_3 : decode cX6_pilesWithoutBlows 3 = .ok (.istore_n 2, 1) := by decide +kernel
theorem dX6_pilesWithoutBlows_4 : decode cX6_pilesWithoutBlows 4 = .ok (.iload_n 2, 1) := by decide +kernel
theorem dX6_pilesWithoutBlows_5 : decode cX6_pilesWithoutBlows 5 = .ok (.aload_n 0, 1) := by decide +kernel
theorem dX6_pilesWithoutBlows_6 : decode cX6_pilesWithoutBlows 6 = .ok (.getfield 37, 3) := by decide +kernel
theorem dX6_pilesWithoutBlows_9 : decode cX6_pilesWithoutBlows 9 = .ok (.if_icmp .ge 29, 3) := by decide +kernel
theorem dX6_pilesWithoutBlows_12 : decode cX6_pilesWithoutBlows 12 = .ok (.aload_n 0, 1) := by decide +kernel
theorem dX6_pilesWithoutBlows_13 : decode cX6_pilesWithoutBlows 13 = .ok (.iload_n 2, 1) := by decide +kernel
theorem dX6_pilesWithoutBlows_14 : decode cX6_pilesWithoutBlows 14 = .ok (.invokevirtual 41, 3) := by decide +kernel
theorem dX6_pilesWithoutBlows_17 : decode cX6_pilesWithoutBlows 17 = .ok (.astore_n 3, 1) := by decide +kernel
theorem dX6_pilesWithoutBlows_18 : decode cX6_pilesWithoutBlows 18 = .ok (.aload_n 3, 1) := by decide +kernel
theorem dX6_pilesWithoutBlows_19 : decode cX6_pilesWithoutBlows 19 = .ok (.ifnull 13, 3) := by decide +kernel
theorem dX6_pilesWithoutBlows_22 : decode cX6_pilesWithoutBlows 22 = .ok (.aload_n 3, 1) := by decide +kernel
theorem dX6_pilesWithoutBlows_23 : decode cX6_pilesWithoutBlows 23 = .ok (.getfield 66, 3) := by decide +kernel
theorem dX6_pilesWithoutBlows_26 : decode cX6_pilesWithoutBlows 26 = .ok (.ifCond .ne 6, 3) := by decide +kernel
theorem dX6_pilesWithoutBlows_29 : decode cX6_pilesWithoutBlows 29 = .ok (.iinc 1 1, 3) := by decide +kernel
theorem dX6_pilesWithoutBlows_32 : decode cX6_pilesWithoutBlows 32 = .ok (.iinc 2 1, 3) := by decide +kernel
theorem dX6_pilesWithoutBlows_35 : decode cX6_pilesWithoutBlows 35 = .ok (.goto (-31), 3) := by decide +kernel
theorem dX6_pilesWithoutBlows_38 : decode cX6_pilesWithoutBlows 38 = .ok (.iload_n 1, 1) := by decide +kernel
theorem dX6_pilesWithoutBlows_39 : decode cX6_pilesWithoutBlows 39 = .ok (.ireturn, 1) := by decide +kernel
theorem dX6_footSum_0 : decode cX6_footSum 0 = .ok (.lconst 0, 1) := by decide +kernel
theorem dX6_footSum_1 : decode cX6_footSum 1 = .ok (.lstore_n 1, 1) := by decide +kernel
theorem dX6_footSum_2 : decode cX6_footSum 2 = .ok (.iconst 0, 1) := by decide +kernel
theorem dX6_footSum_3 : decode cX6_footSum 3 = .ok (.istore_n 3, 1) := by decide +kernel
theorem dX6_footSum_4 : decode cX6_footSum 4 = .ok (.iload_n 3, 1) := by decide +kernel
theorem dX6_footSum_5 : decode cX6_footSum 5 = .ok (.aload_n 0, 1) := by decide +kernel
theorem dX6_footSum_6 : decode cX6_footSum 6 = .ok (.getfield 37, 3) := by decide +kernel
theorem dX6_footSum_9 : decode cX6_footSum 9 = .ok (.if_icmp .ge 30, 3) := by decide +kernel
theorem dX6_footSum_12 : decode cX6_footSum 12 = .ok (.aload_n 0, 1) := by decide +kernel
theorem dX6_footSum_13 : decode cX6_footSum 13 = .ok (.iload_n 3, 1) := by decide +kernel
theorem dX6_footSum_14 : decode cX6_footSum 14 = .ok (.invokevirtual 41, 3) := by decide +kernel
theorem dX6_footSum_17 : decode cX6_footSum 17 = .ok (.astore 4, 2) := by decide +kernel
theorem dX6_footSum_19 : decode cX6_footSum 19 = .ok (.aload 4, 2) := by decide +kernel
theorem dX6_footSum_21 : decode cX6_footSum 21 = .ok (.ifnull 12, 3) := by decide +kernel
theorem dX6_footSum_24 : decode cX6_footSum 24 = .ok (.lload_n 1, 1) := by decide +kernel
theorem dX6_footSum_25 : decode cX6_footSum 25 = .ok (.aload 4, 2) := by decide +kernel
theorem dX6_footSum_27 : decode cX6_footSum 27 = .ok (.getfield 55, 3) := by decide +kernel
theorem dX6_footSum_30 : decode cX6_footSum 30 = .ok (.i2l, 1) := by decide +kernel
theorem dX6_footSum_31 : decode cX6_footSum 31 = .ok (.ladd, 1) := by decide +kernel
theorem dX6_footSum_32 : decode cX6_footSum 32 = .ok (.lstore_n 1, 1) := by decide +kernel
theorem dX6_footSum_33 : decode cX6_footSum 33 = .ok (.iinc 3 1, 3) := by decide +kernel
theorem dX6_footSum_36 : decode cX6_footSum 36 = .ok (.goto (-32), 3) := by decide +kernel
theorem dX6_footSum_39 : decode cX6_footSum 39 = .ok (.lload_n 1, 1) := by decide +kernel
theorem dX6_footSum_40 : decode cX6_footSum 40 = .ok (.lreturn, 1) := by decide +kernel
theorem dX6_areNear_0 : decode cX6_areNear 0 = .ok (.aload_n 0, 1) := by decide +kernel
theorem dX6_areNear_1 : decode cX6_areNear 1 = .ok (.iconst 4, 1) := by decide +kernel
theorem dX6_areNear_2 : decode cX6_areNear 2 = .ok (.invokevirtual 69, 3) := by decide +kernel
theorem dX6_areNear_5 : decode cX6_areNear 5 = .ok (.istore_n 3, 1) := by decide +kernel
theorem dX6_areNear_6 : decode cX6_areNear 6 = .ok (.aload_n 1, 1) := by decide +kernel
theorem dX6_areNear_7 : decode cX6_areNear 7 = .ok (.aload_n 2, 1) := by decide +kernel
theorem dX6_areNear_8 : decode cX6_areNear 8 = .ok (.if_acmp .eq 39, 3) := by decide +kernel
theorem dX6_areNear_11 : decode cX6_areNear 11 = .ok (.aload_n 1, 1) := by decide +kernel
theorem dX6_areNear_12 : decode cX6_areNear 12 = .ok (.getfield 49, 3) := by decide +kernel
theorem dX6_areNear_15 : decode cX6_areNear 15 = .ok (.aload_n 2, 1) := by decide +kernel
theorem dX6_areNear_16 : decode cX6_areNear 16 = .ok (.getfield 49, 3) := by decide +kernel
theorem dX6_areNear_19 : decode cX6_areNear 19 = .ok (.isub, 1) := by decide +kernel
theorem dX6_areNear_20 : decode cX6_areNear 20 = .ok (.invokestatic 72, 3) := by decide +kernel
theorem dX6_areNear_23 : decode cX6_areNear 23 = .ok (.iload_n 3, 1) := by decide +kernel
theorem dX6_areNear_24 : decode cX6_areNear 24 = .ok (.if_icmp .gt 23, 3) := by decide +kernel
theorem dX6_areNear_27 : decode cX6_areNear 27 = .ok (.aload_n 1, 1) := by decide +kernel
theorem dX6_areNear_28 : decode cX6_areNear 28 = .ok (.getfield 52, 3) := by decide +kernel
theorem dX6_areNear_31 : decode cX6_areNear 31 = .ok (.aload_n 2, 1) := by decide +kernel
theorem dX6_areNear_32 : decode cX6_areNear 32 = .ok (.getfield 52, 3) := by decide +kernel
theorem dX6_areNear_35 : decode cX6_areNear 35 = .ok (.isub, 1) := by decide +kernel
theorem dX6_areNear_36 : decode cX6_areNear 36 = .ok (.invokestatic 72, 3) := by decide +kernel
theorem dX6_areNear_39 : decode cX6_areNear 39 = .ok (.iload_n 3, 1) := by decide +kernel
theorem dX6_areNear_40 : decode cX6_areNear 40 = .ok (.if_icmp .gt 7, 3) := by decide +kernel
theorem dX6_areNear_43 : decode cX6_areNear 43 = .ok (.iconst 1, 1) := by decide +kernel
theorem dX6_areNear_44 : decode cX6_areNear 44 = .ok (.goto 4, 3) := by decide +kernel
theorem dX6_areNear_47 : decode cX6_areNear 47 = .ok (.iconst 0, 1) := by decide +kernel
theorem dX6_areNear_48 : decode cX6_areNear 48 = .ok (.ireturn, 1) := by decide +kernel
theorem dX6_pilesNear_0 : decode cX6_pilesNear 0 = .ok (.iconst 0, 1) := by decide +kernel
theorem dX6_pilesNear_1 : decode cX6_pilesNear 1 = .ok (.istore_n 2, 1) := by decide +kernel
theorem dX6_pilesNear_2 : decode cX6_pilesNear 2 = .ok (.iconst 0, 1) := by decide +kernel
theorem dX6_pilesNear_3 : decode cX6_pilesNear 3 = .ok (.istore_n 3, 1) := by decide +kernel
theorem dX6_pilesNear_4 : decode cX6_pilesNear 4 = .ok (.iload_n 3, 1) := by decide +kernel
theorem dX6_pilesNear_5 : decode cX6_pilesNear 5 = .ok (.aload_n 0, 1) := by decide +kernel
theorem dX6_pilesNear_6 : decode cX6_pilesNear 6 = .ok (.getfield 37, 3) := by decide +kernel
theorem dX6_pilesNear_9 : decode cX6_pilesNear 9 = .ok (.if_icmp .ge 34, 3) := by decide +kernel
theorem dX6_pilesNear_12 : decode cX6_pilesNear 12 = .ok (.aload_n 0, 1) := by decide +kernel
theorem dX6_pilesNear_13 : decode cX6_pilesNear 13 = .ok (.iload_n 3, 1) := by decide +kernel
theorem dX6_pilesNear_14 : decode cX6_pilesNear 14 = .ok (.invokevirtual 41, 3) := by decide +kernel
theorem dX6_pilesNear_17 : decode cX6_pilesNear 17 = .ok (.astore 4, 2) := by decide +kernel
theorem dX6_pilesNear_19 : decode cX6_pilesNear 19 = .ok (.aload 4, 2) := by decide +kernel
theorem dX6_pilesNear_21 : decode cX6_pilesNear 21 = .ok (.ifnull 16, 3) := by decide +kernel
theorem dX6_pilesNear_24 : decode cX6_pilesNear 24 = .ok (.aload_n 0, 1) := by decide +kernel
theorem dX6_pilesNear_25 : decode cX6_pilesNear 25 = .ok (.aload_n 1, 1) := by decide +kernel
theorem dX6_pilesNear_26 : decode cX6_pilesNear 26 = .ok (.aload 4, 2) := by decide +kernel
theorem dX6_pilesNear_28 : decode cX6_pilesNear 28 = .ok (.invokevirtual 77, 3) := by decide +kernel
theorem dX6_pilesNear_31 : decode cX6_pilesNear 31 = .ok (.ifCond .eq 6, 3) := by decide +kernel
theorem dX6_pilesNear_34 : decode cX6_pilesNear 34 = .ok (.iinc 2 1, 3) := by decide +kernel
theorem dX6_pilesNear_37 : decode cX6_pilesNear 37 = .ok (.iinc 3 1, 3) := by decide +kernel
theorem dX6_pilesNear_40 : decode cX6_pilesNear 40 = .ok (.goto (-36), 3) := by decide +kernel
theorem dX6_pilesNear_43 : decode cX6_pilesNear 43 = .ok (.iload_n 2, 1) := by decide +kernel
theorem dX6_pilesNear_44 : decode cX6_pilesNear 44 = .ok (.ireturn, 1) := by decide +kernel
theorem dX6_energyOf_0 : decode cX6_energyOf 0 = .ok (.aload_n 0, 1) := by decide +kernel
theorem dX6_energyOf_1 : decode cX6_energyOf 1 = .ok (.iconst 0, 1) := by decide +kernel
theorem dX6_energyOf_2 : decode cX6_energyOf 2 = .ok (.invokevirtual 69, 3) := by decide +kernel
theorem dX6_energyOf_5 : decode cX6_energyOf 5 = .ok (.i2l, 1) := by decide +kernel
theorem dX6_energyOf_6 : decode cX6_energyOf 6 = .ok (.iload_n 1, 1) := by decide +kernel
theorem dX6_energyOf_7 : decode cX6_energyOf 7 = .ok (.i2l, 1) := by decide +kernel
theorem dX6_energyOf_8 : decode cX6_energyOf 8 = .ok (.lmul, 1) := by decide +kernel
theorem dX6_energyOf_9 : decode cX6_energyOf 9 = .ok (.aload_n 0, 1) := by decide +kernel
theorem dX6_energyOf_10 : decode cX6_energyOf 10 = .ok (.iconst 1, 1) := by decide +kernel
theorem dX6_energyOf_11 : decode cX6_energyOf 11 = .ok (.invokevirtual 69, 3) := by decide +kernel
theorem dX6_energyOf_14 : decode cX6_energyOf 14 = .ok (.i2l, 1) := by decide +kernel
theorem dX6_energyOf_15 : decode cX6_energyOf 15 = .ok (.lmul, 1) := by decide +kernel
theorem dX6_energyOf_16 : decode cX6_energyOf 16 = .ok (.ldc2_w 81, 3) := by decide +kernel
theorem dX6_energyOf_19 : decode cX6_energyOf 19 = .ok (.ldiv, 1) := by decide +kernel
theorem dX6_energyOf_20 : decode cX6_energyOf 20 = .ok (.l2i, 1) := by decide +kernel
theorem dX6_energyOf_21 : decode cX6_energyOf 21 = .ok (.ireturn, 1) := by decide +kernel
theorem dX6_freeSet_0 : decode cX6_freeSet 0 = .ok (.iload_n 2, 1) := by decide +kernel
theorem dX6_freeSet_1 : decode cX6_freeSet 1 = .ok (.ifCond .gt 5, 3) := by decide +kernel
theorem dX6_freeSet_4 : decode cX6_freeSet 4 = .ok (.iconst 0, 1) := by decide +kernel
theorem dX6_freeSet_5 : decode cX6_freeSet 5 = .ok (.ireturn, 1) := by decide +kernel
theorem dX6_freeSet_6 : decode cX6_freeSet 6 = .ok (.sipush 500, 3) := by decide +kernel
theorem dX6_freeSet_9 : decode cX6_freeSet 9 = .ok (.iconst 0, 1) := by decide +kernel
theorem dX6_freeSet_10 : decode cX6_freeSet 10 = .ok (.iload_n 1, 1) := by decide +kernel
theorem dX6_freeSet_11 : decode cX6_freeSet 11 = .ok (.iload_n 2, 1) := by decide +kernel
theorem dX6_freeSet_12 : decode cX6_freeSet 12 = .ok (.idiv, 1) := by decide +kernel
theorem dX6_freeSet_13 : decode cX6_freeSet 13 = .ok (.aload_n 0, 1) := by decide +kernel
theorem dX6_freeSet_14 : decode cX6_freeSet 14 = .ok (.iconst 2, 1) := by decide +kernel
theorem dX6_freeSet_15 : decode cX6_freeSet 15 = .ok (.invokevirtual 69, 3) := by decide +kernel
theorem dX6_freeSet_18 : decode cX6_freeSet 18 = .ok (.isub, 1) := by decide +kernel
theorem dX6_freeSet_19 : decode cX6_freeSet 19 = .ok (.invokestatic 83, 3) := by decide +kernel
theorem dX6_freeSet_22 : decode cX6_freeSet 22 = .ok (.invokestatic 87, 3) := by decide +kernel
theorem dX6_freeSet_25 : decode cX6_freeSet 25 = .ok (.ireturn, 1) := by decide +kernel
theorem dX6_setOf_0 : decode cX6_setOf 0 = .ok (.iload_n 3, 1) := by decide +kernel
theorem dX6_setOf_1 : decode cX6_setOf 1 = .ok (.iload_n 2, 1) := by decide +kernel
theorem dX6_setOf_2 : decode cX6_setOf 2 = .ok (.isub, 1) := by decide +kernel
theorem dX6_setOf_3 : decode cX6_setOf 3 = .ok (.aload_n 0, 1) := by decide +kernel
theorem dX6_setOf_4 : decode cX6_setOf 4 = .ok (.iload_n 1, 1) := by decide +kernel
theorem dX6_setOf_5 : decode cX6_setOf 5 = .ok (.aload_n 0, 1) := by decide +kernel
theorem dX6_setOf_6 : decode cX6_setOf 6 = .ok (.getfield 12, 3) := by decide +kernel
theorem dX6_setOf_9 : decode cX6_setOf 9 = .ok (.iload_n 2, 1) := by decide +kernel
theorem dX6_setOf_10 : decode cX6_setOf 10 = .ok (.invokevirtual 90, 3) := by decide +kernel
theorem dX6_setOf_13 : decode cX6_setOf 13 = .ok (.invokevirtual 93, 3) := by decide +kernel
theorem dX6_setOf_16 : decode cX6_setOf 16 = .ok (.invokestatic 87, 3) := by decide +kernel
theorem dX6_setOf_19 : decode cX6_setOf 19 = .ok (.ireturn, 1) := by decide +kernel
theorem dX6_loadOf_0 : decode cX6_loadOf 0 = .ok (.iload_n 2, 1) := by decide +kernel
theorem dX6_loadOf_1 : decode cX6_loadOf 1 = .ok (.aload_n 0, 1) := by decide +kernel
theorem dX6_loadOf_2 : decode cX6_loadOf 2 = .ok (.iconst 2, 1) := by decide +kernel
theorem dX6_loadOf_3 : decode cX6_loadOf 3 = .ok (.invokevirtual 69, 3) := by decide +kernel
theorem dX6_loadOf_6 : decode cX6_loadOf 6 = .ok (.iadd, 1) := by decide +kernel
theorem dX6_loadOf_7 : decode cX6_loadOf 7 = .ok (.istore_n 3, 1) := by decide +kernel
theorem dX6_loadOf_8 : decode cX6_loadOf 8 = .ok (.iload_n 3, 1) := by decide +kernel
theorem dX6_loadOf_9 : decode cX6_loadOf 9 = .ok (.ifCond .gt 8, 3) := by decide +kernel
theorem dX6_loadOf_12 : decode cX6_loadOf 12 = .ok (.ldc 96, 2) := by decide +kernel
theorem dX6_loadOf_14 : decode cX6_loadOf 14 = .ok (.goto 11, 3) := by decide +kernel
theorem dX6_loadOf_17 : decode cX6_loadOf 17 = .ok (.ldc 96, 2) := by decide +kernel
theorem dX6_loadOf_19 : decode cX6_loadOf 19 = .ok (.iload_n 1, 1) := by decide +kernel
theorem dX6_loadOf_20 : decode cX6_loadOf 20 = .ok (.iload_n 3, 1) := by decide +kernel
theorem dX6_loadOf_21 : decode cX6_loadOf 21 = .ok (.idiv, 1) := by decide +kernel
theorem dX6_loadOf_22 : decode cX6_loadOf 22 = .ok (.invokestatic 87, 3) := by decide +kernel
theorem dX6_loadOf_25 : decode cX6_loadOf 25 = .ok (.ireturn, 1) := by decide +kernel
theorem dX6_allowedLoad_0 : decode cX6_allowedLoad 0 = .ok (.aload_n 0, 1) := by decide +kernel
theorem dX6_allowedLoad_1 : decode cX6_allowedLoad 1 = .ok (.iconst 3, 1) := by decide +kernel
theorem dX6_allowedLoad_2 : decode cX6_allowedLoad 2 = .ok (.invokevirtual 69, 3) := by decide +kernel
theorem dX6_allowedLoad_5 : decode cX6_allowedLoad 5 = .ok (.istore_n 2, 1) := by decide +kernel
theorem dX6_allowedLoad_6 : decode cX6_allowedLoad 6 = .ok (.iload_n 2, 1) := by decide +kernel
theorem dX6_allowedLoad_7 : decode cX6_allowedLoad 7 = .ok (.ifCond .gt 5, 3) := by decide +kernel
theorem dX6_allowedLoad_10 : decode cX6_allowedLoad 10 = .ok (.iconst 0, 1) := by decide +kernel
theorem dX6_allowedLoad_11 : decode cX6_allowedLoad 11 = .ok (.ireturn, 1) := by decide +kernel
theorem dX6_allowedLoad_12 : decode cX6_allowedLoad 12 = .ok (.aload_n 1, 1) := by decide +kernel
theorem dX6_allowedLoad_13 : decode cX6_allowedLoad 13 = .ok (.getfield 97, 3) := by decide +kernel
theorem dX6_allowedLoad_16 : decode cX6_allowedLoad 16 = .ok (.bipush 100, 2) := by decide +kernel
theorem dX6_allowedLoad_18 : decode cX6_allowedLoad 18 = .ok (.imul, 1) := by decide +kernel
theorem dX6_allowedLoad_19 : decode cX6_allowedLoad 19 = .ok (.iload_n 2, 1) := by decide +kernel
theorem dX6_allowedLoad_20 : decode cX6_allowedLoad 20 = .ok (.idiv, 1) := by decide +kernel
theorem dX6_allowedLoad_21 : decode cX6_allowedLoad 21 = .ok (.istore_n 3, 1) := by decide +kernel
theorem dX6_allowedLoad_22 : decode cX6_allowedLoad 22 = .ok (.aload_n 1, 1) := by decide +kernel
theorem dX6_allowedLoad_23 : decode cX6_allowedLoad 23 = .ok (.getfield 62, 3) := by decide +kernel
theorem dX6_allowedLoad_26 : decode cX6_allowedLoad 26 = .ok (.ifCond .eq 9, 3) := by decide +kernel
theorem dX6_allowedLoad_29 : decode cX6_allowedLoad 29 = .ok (.iload_n 3, 1) := by decide +kernel
theorem dX6_allowedLoad_30 : decode cX6_allowedLoad 30 = .ok (.iconst 2, 1) := by decide +kernel
theorem dX6_allowedLoad_31 : decode cX6_allowedLoad 31 = .ok (.idiv, 1) := by decide +kernel
theorem dX6_allowedLoad_32 : decode cX6_allowedLoad 32 = .ok (.goto 4, 3) := by decide +kernel
theorem dX6_allowedLoad_35 : decode cX6_allowedLoad 35 = .ok (.iload_n 3, 1) := by decide +kernel
theorem dX6_allowedLoad_36 : decode cX6_allowedLoad 36 = .ok (.ireturn, 1) := by decide +kernel
theorem dX6_liftBy_0 : decode cX6_liftBy 0 = .ok (.iload_n 1, 1) := by decide +kernel
theorem dX6_liftBy_1 : decode cX6_liftBy 1 = .ok (.aload_n 0, 1) := by decide +kernel
theorem dX6_liftBy_2 : decode cX6_liftBy 2 = .ok (.iconst 5, 1) := by decide +kernel
theorem dX6_liftBy_3 : decode cX6_liftBy 3 = .ok (.invokevirtual 69, 3) := by decide +kernel
theorem dX6_liftBy_6 : decode cX6_liftBy 6 = .ok (.imul, 1) := by decide +kernel
theorem dX6_liftBy_7 : decode cX6_liftBy 7 = .ok (.bipush 100, 2) := by decide +kernel
theorem dX6_liftBy_9 : decode cX6_liftBy 9 = .ok (.idiv, 1) := by decide +kernel
theorem dX6_liftBy_10 : decode cX6_liftBy 10 = .ok (.ireturn, 1) := by decide +kernel
theorem dX6_hit_0 : decode cX6_hit 0 = .ok (.aload_n 0, 1) := by decide +kernel
theorem dX6_hit_1 : decode cX6_hit 1 = .ok (.iload_n 2, 1) := by decide +kernel
theorem dX6_hit_2 : decode cX6_hit 2 = .ok (.invokevirtual 100, 3) := by decide +kernel
theorem dX6_hit_5 : decode cX6_hit 5 = .ok (.istore_n 3, 1) := by decide +kernel
theorem dX6_hit_6 : decode cX6_hit 6 = .ok (.aload_n 0, 1) := by decide +kernel
theorem dX6_hit_7 : decode cX6_hit 7 = .ok (.getfield 12, 3) := by decide +kernel
theorem dX6_hit_10 : decode cX6_hit 10 = .ok (.aload_n 1, 1) := by decide +kernel
theorem dX6_hit_11 : decode cX6_hit 11 = .ok (.getfield 55, 3) := by decide +kernel
theorem dX6_hit_14 : decode cX6_hit 14 = .ok (.invokevirtual 90, 3) := by decide +kernel
theorem dX6_hit_17 : decode cX6_hit 17 = .ok (.istore 4, 2) := by decide +kernel
theorem dX6_hit_19 : decode cX6_hit 19 = .ok (.aload_n 0, 1) := by decide +kernel
theorem dX6_hit_20 : decode cX6_hit 20 = .ok (.iload_n 3, 1) := by decide +kernel
theorem dX6_hit_21 : decode cX6_hit 21 = .ok (.aload_n 1, 1) := by decide +kernel
theorem dX6_hit_22 : decode cX6_hit 22 = .ok (.getfield 55, 3) := by decide +kernel
theorem dX6_hit_25 : decode cX6_hit 25 = .ok (.aload_n 1, 1) := by decide +kernel
theorem dX6_hit_26 : decode cX6_hit 26 = .ok (.getfield 103, 3) := by decide +kernel
theorem dX6_hit_29 : decode cX6_hit 29 = .ok (.invokevirtual 106, 3) := by decide +kernel
theorem dX6_hit_32 : decode cX6_hit 32 = .ok (.istore 5, 2) := by decide +kernel
theorem dX6_hit_34 : decode cX6_hit 34 = .ok (.aload_n 1, 1) := by decide +kernel
theorem dX6_hit_35 : decode cX6_hit 35 = .ok (.iload 5, 2) := by decide +kernel
theorem dX6_hit_37 : decode cX6_hit 37 = .ok (.aload_n 0, 1) := by decide +kernel
theorem dX6_hit_38 : decode cX6_hit 38 = .ok (.iload_n 3, 1) := by decide +kernel
theorem dX6_hit_39 : decode cX6_hit 39 = .ok (.iload 5, 2) := by decide +kernel
theorem dX6_hit_41 : decode cX6_hit 41 = .ok (.invokevirtual 110, 3) := by decide +kernel
theorem dX6_hit_44 : decode cX6_hit 44 = .ok (.invokevirtual 113, 3) := by decide +kernel
theorem dX6_hit_47 : decode cX6_hit 47 = .ok (.aload_n 0, 1) := by decide +kernel
theorem dX6_hit_48 : decode cX6_hit 48 = .ok (.dup, 1) := by decide +kernel
theorem dX6_hit_49 : decode cX6_hit 49 = .ok (.getfield 117, 3) := by decide +kernel
theorem dX6_hit_52 : decode cX6_hit 52 = .ok (.lconst 1, 1) := by decide +kernel
theorem dX6_hit_53 : decode cX6_hit 53 = .ok (.ladd, 1) := by decide +kernel
theorem dX6_hit_54 : decode cX6_hit 54 = .ok (.putfield 117, 3) := by decide +kernel
theorem dX6_hit_57 : decode cX6_hit 57 = .ok (.aload_n 0, 1) := by decide +kernel
theorem dX6_hit_58 : decode cX6_hit 58 = .ok (.dup, 1) := by decide +kernel
theorem dX6_hit_59 : decode cX6_hit 59 = .ok (.getfield 121, 3) := by decide +kernel
theorem dX6_hit_62 : decode cX6_hit 62 = .ok (.iload_n 3, 1) := by decide +kernel
theorem dX6_hit_63 : decode cX6_hit 63 = .ok (.i2l, 1) := by decide +kernel
theorem dX6_hit_64 : decode cX6_hit 64 = .ok (.ladd, 1) := by decide +kernel
theorem dX6_hit_65 : decode cX6_hit 65 = .ok (.putfield 121, 3) := by decide +kernel
theorem dX6_hit_68 : decode cX6_hit 68 = .ok (.aload_n 0, 1) := by decide +kernel
theorem dX6_hit_69 : decode cX6_hit 69 = .ok (.dup, 1) := by decide +kernel
theorem dX6_hit_70 : decode cX6_hit 70 = .ok (.getfield 124, 3) := by decide +kernel
theorem dX6_hit_73 : decode cX6_hit 73 = .ok (.iload 5, 2) := by decide +kernel
theorem dX6_hit_75 : decode cX6_hit 75 = .ok (.i2l, 1) := by decide +kernel
theorem dX6_hit_76 : decode cX6_hit 76 = .ok (.iload 4, 2) := by decide +kernel
theorem dX6_hit_78 : decode cX6_hit 78 = .ok (.i2l, 1) := by decide +kernel
theorem dX6_hit_79 : decode cX6_hit 79 = .ok (.lmul, 1) := by decide +kernel
theorem dX6_hit_80 : decode cX6_hit 80 = .ok (.ladd, 1) := by decide +kernel
theorem dX6_hit_81 : decode cX6_hit 81 = .ok (.putfield 124, 3) := by decide +kernel
theorem dX6_hit_84 : decode cX6_hit 84 = .ok (.aload_n 0, 1) := by decide +kernel
theorem dX6_hit_85 : decode cX6_hit 85 = .ok (.dup, 1) := by decide +kernel
theorem dX6_hit_86 : decode cX6_hit 86 = .ok (.getfield 127, 3) := by decide +kernel
theorem dX6_hit_89 : decode cX6_hit 89 = .ok (.iload 5, 2) := by decide +kernel
theorem dX6_hit_91 : decode cX6_hit 91 = .ok (.i2l, 1) := by decide +kernel
theorem dX6_hit_92 : decode cX6_hit 92 = .ok (.ladd, 1) := by decide +kernel
theorem dX6_hit_93 : decode cX6_hit 93 = .ok (.putfield 127, 3) := by decide +kernel
theorem dX6_hit_96 : decode cX6_hit 96 = .ok (.aload_n 0, 1) := by decide +kernel
theorem dX6_hit_97 : decode cX6_hit 97 = .ok (.aload_n 1, 1) := by decide +kernel
theorem dX6_hit_98 : decode cX6_hit 98 = .ok (.aload_n 0, 1) := by decide +kernel
theorem dX6_hit_99 : decode cX6_hit 99 = .ok (.iload 5, 2) := by decide +kernel
theorem dX6_hit_101 : decode cX6_hit 101 = .ok (.invokevirtual 130, 3) := by decide +kernel
theorem dX6_hit_104 : decode cX6_hit 104 = .ok (.invokevirtual 133, 3) := by decide +kernel
theorem dX6_hit_107 : decode cX6_hit 107 = .ok (.iload 5, 2) := by decide +kernel
theorem dX6_hit_109 : decode cX6_hit 109 = .ok (.ireturn, 1) := by decide +kernel
theorem dX6_liftOthers_0 : decode cX6_liftOthers 0 = .ok (.iconst 0, 1) := by decide +kernel
theorem dX6_liftOthers_1 : decode cX6_liftOthers 1 = .ok (.istore_n 3, 1) := by decide +kernel
theorem dX6_liftOthers_2 : decode cX6_liftOthers 2 = .ok (.iload_n 3, 1) := by decide +kernel
theorem dX6_liftOthers_3 : decode cX6_liftOthers 3 = .ok (.aload_n 0, 1) := by decide +kernel
theorem dX6_liftOthers_4 : decode cX6_liftOthers 4 = .ok (.getfield 37, 3) := by decide +kernel
theorem dX6_liftOthers_7 : decode cX6_liftOthers 7 = .ok (.if_icmp .ge 65, 3) := by decide +kernel
theorem dX6_liftOthers_10 : decode cX6_liftOthers 10 = .ok (.aload_n 0, 1) := by decide +kernel
theorem dX6_liftOthers_11 : decode cX6_liftOthers 11 = .ok (.iload_n 3, 1) := by decide +kernel
theorem dX6_liftOthers_12 : decode cX6_liftOthers 12 = .ok (.invokevirtual 41, 3) := by decide +kernel
theorem dX6_liftOthers_15 : decode cX6_liftOthers 15 = .ok (.astore 4, 2) := by decide +kernel
theorem dX6_liftOthers_17 : decode cX6_liftOthers 17 = .ok (.aload 4, 2) := by decide +kernel
theorem dX6_liftOthers_19 : decode cX6_liftOthers 19 = .ok (.ifnull 47, 3) := by decide +kernel
theorem dX6_liftOthers_22 : decode cX6_liftOthers 22 = .ok (.aload_n 0, 1) := by decide +kernel
theorem dX6_liftOthers_23 : decode cX6_liftOthers 23 = .ok (.aload_n 1, 1) := by decide +kernel
theorem dX6_liftOthers_24 : decode cX6_liftOthers 24 = .ok (.aload 4, 2) := by decide +kernel
theorem dX6_liftOthers_26 : decode cX6_liftOthers 26 = .ok (.invokevirtual 77, 3) := by decide +kernel
theorem dX6_liftOthers_29 : decode cX6_liftOthers 29 = .ok (.ifCond .eq 37, 3) := by decide +kernel
theorem dX6_liftOthers_32 : decode cX6_liftOthers 32 = .ok (.aload 4, 2) := by decide +kernel
theorem dX6_liftOthers_34 : decode cX6_liftOthers 34 = .ok (.getfield 55, 3) := by decide +kernel
theorem dX6_liftOthers_37 : decode cX6_liftOthers 37 = .ok (.aload_n 1, 1) := by decide +kernel
theorem dX6_liftOthers_38 : decode cX6_liftOthers 38 = .ok (.getfield 55, 3) := by decide +kernel
theorem dX6_liftOthers_41 : decode cX6_liftOthers 41 = .ok (.iload_n 2, 1) := by decide +kernel
theorem dX6_liftOthers_42 : decode cX6_liftOthers 42 = .ok (.invokestatic 137, 3) := by decide +kernel
theorem dX6_liftOthers_45 : decode cX6_liftOthers 45 = .ok (.istore 5, 2) := by decide +kernel
theorem dX6_liftOthers_47 : decode cX6_liftOthers 47 = .ok (.aload 4, 2) := by decide +kernel
theorem dX6_liftOthers_49 : decode cX6_liftOthers 49 = .ok (.iload 5, 2) := by decide +kernel
theorem dX6_liftOthers_51 : decode cX6_liftOthers 51 = .ok (.invokevirtual 140, 3) := by decide +kernel
theorem dX6_liftOthers_54 : decode cX6_liftOthers 54 = .ok (.aload_n 0, 1) := by decide +kernel
theorem dX6_liftOthers_55 : decode cX6_liftOthers 55 = .ok (.dup, 1) := by decide +kernel
theorem dX6_liftOthers_56 : decode cX6_liftOthers 56 = .ok (.getfield 144, 3) := by decide +kernel
theorem dX6_liftOthers_59 : decode cX6_liftOthers 59 = .ok (.iload 5, 2) := by decide +kernel
theorem dX6_liftOthers_61 : decode cX6_liftOthers 61 = .ok (.i2l, 1) := by decide +kernel
theorem dX6_liftOthers_62 : decode cX6_liftOthers 62 = .ok (.ladd, 1) := by decide +kernel
theorem dX6_liftOthers_63 : decode cX6_liftOthers 63 = .ok (.putfield 144, 3) := by decide +kernel
theorem dX6_liftOthers_66 : decode cX6_liftOthers 66 = .ok (.iinc 3 1, 3) := by decide +kernel
theorem dX6_liftOthers_69 : decode cX6_liftOthers 69 = .ok (.goto (-67), 3) := by decide +kernel
theorem dX6_liftOthers_72 : decode cX6_liftOthers 72 = .ok (.return_, 1) := by decide +kernel
theorem dX6_hitSeveral_0 : decode cX6_hitSeveral 0 = .ok (.aload_n 0, 1) := by decide +kernel
theorem dX6_hitSeveral_1 : decode cX6_hitSeveral 1 = .ok (.iload_n 1, 1) := by decide +kernel
theorem dX6_hitSeveral_2 : decode cX6_hitSeveral 2 = .ok (.invokevirtual 41, 3) := by decide +kernel
theorem dX6_hitSeveral_5 : decode cX6_hitSeveral 5 = .ok (.astore 4, 2) := by decide +kernel
theorem dX6_hitSeveral_7 : decode cX6_hitSeveral 7 = .ok (.aload 4, 2) := by decide +kernel
theorem dX6_hitSeveral_9 : decode cX6_hitSeveral 9 = .ok (.ifnonnull 5, 3) := by decide +kernel
theorem dX6_hitSeveral_12 : decode cX6_hitSeveral 12 = .ok (.iconst 0, 1) := by decide +kernel
theorem dX6_hitSeveral_13 : decode cX6_hitSeveral 13 = .ok (.ireturn, 1) := by decide +kernel
theorem dX6_hitSeveral_14 : decode cX6_hitSeveral 14 = .ok (.iconst 0, 1) := by decide +kernel
theorem dX6_hitSeveral_15 : decode cX6_hitSeveral 15 = .ok (.istore 5, 2) := by decide +kernel
theorem dX6_hitSeveral_17 : decode cX6_hitSeveral 17 = .ok (.iload 5, 2) := by decide +kernel
theorem dX6_hitSeveral_19 : decode cX6_hitSeveral 19 = .ok (.iload_n 3, 1) := by decide +kernel
theorem dX6_hitSeveral_20 : decode cX6_hitSeveral 20 = .ok (.if_icmp .ge 25, 3) := by decide +kernel
theorem dX6_hitSeveral_23 : decode cX6_hitSeveral 23 = .ok (.aload 4, 2) := by decide +kernel
theorem dX6_hitSeveral_25 : decode cX6_hitSeveral 25 = .ok (.invokevirtual 147, 3) := by decide +kernel
theorem dX6_hitSeveral_28 : decode cX6_hitSeveral 28 = .ok (.ifCond .le 17, 3) := by decide +kernel
theorem dX6_hitSeveral_31 : decode cX6_hitSeveral 31 = .ok (.aload_n 0, 1) := by decide +kernel
theorem dX6_hitSeveral_32 : decode cX6_hitSeveral 32 = .ok (.aload 4, 2) := by decide +kernel
theorem dX6_hitSeveral_34 : decode cX6_hitSeveral 34 = .ok (.iload_n 2, 1) := by decide +kernel
theorem dX6_hitSeveral_35 : decode cX6_hitSeveral 35 = .ok (.invokevirtual 151, 3) := by decide +kernel
theorem dX6_hitSeveral_38 : decode cX6_hitSeveral 38 = .ok (.pop, 1) := by decide +kernel
theorem dX6_hitSeveral_39 : decode cX6_hitSeveral 39 = .ok (.iinc 5 1, 3) := by decide +kernel
theorem dX6_hitSeveral_42 : decode cX6_hitSeveral 42 = .ok (.goto (-25), 3) := by decide +kernel
theorem dX6_hitSeveral_45 : decode cX6_hitSeveral 45 = .ok (.iload 5, 2) := by decide +kernel
theorem dX6_hitSeveral_47 : decode cX6_hitSeveral 47 = .ok (.ireturn, 1) := by decide +kernel
theorem dX6_blowsDown_0 : decode cX6_blowsDown 0 = .ok (.iload_n 1, 1) := by decide +kernel
theorem dX6_blowsDown_1 : decode cX6_blowsDown 1 = .ok (.istore 4, 2) := by decide +kernel
theorem dX6_blowsDown_3 : decode cX6_blowsDown 3 = .ok (.iconst 0, 1) := by decide +kernel
theorem dX6_blowsDown_4 : decode cX6_blowsDown 4 = .ok (.istore 5, 2) := by decide +kernel
theorem dX6_blowsDown_6 : decode cX6_blowsDown 6 = .ok (.aload_n 0, 1) := by decide +kernel
theorem dX6_blowsDown_7 : decode cX6_blowsDown 7 = .ok (.getfield 12, 3) := by decide +kernel
theorem dX6_blowsDown_10 : decode cX6_blowsDown 10 = .ok (.iload_n 1, 1) := by decide +kernel
theorem dX6_blowsDown_11 : decode cX6_blowsDown 11 = .ok (.invokevirtual 58, 3) := by decide +kernel
theorem dX6_blowsDown_14 : decode cX6_blowsDown 14 = .ok (.istore 6, 2) := by decide +kernel
theorem dX6_blowsDown_16 : decode cX6_blowsDown 16 = .ok (.iload 6, 2) := by decide +kernel
theorem dX6_blowsDown_18 : decode cX6_blowsDown 18 = .ok (.aload_n 0, 1) := by decide +kernel
theorem dX6_blowsDown_19 : decode cX6_blowsDown 19 = .ok (.getfield 12, 3) := by decide +kernel
theorem dX6_blowsDown_22 : decode cX6_blowsDown 22 = .ok (.getfield 155, 3) := by decide +kernel
theorem dX6_blowsDown_25 : decode cX6_blowsDown 25 = .ok (.if_icmp .gt 111, 3) := by decide +kernel
theorem dX6_blowsDown_28 : decode cX6_blowsDown 28 = .ok (.iload 4, 2) := by decide +kernel
theorem dX6_blowsDown_30 : decode cX6_blowsDown 30 = .ok (.iload_n 2, 1) := by decide +kernel
theorem dX6_blowsDown_31 : decode cX6_blowsDown 31 = .ok (.if_icmp .ge 105, 3) := by decide +kernel
theorem dX6_blowsDown_34 : decode cX6_blowsDown 34 = .ok (.iload 6, 2) := by decide +kernel
theorem dX6_blowsDown_36 : decode cX6_blowsDown 36 = .ok (.aload_n 0, 1) := by decide +kernel
theorem dX6_blowsDown_37 : decode cX6_blowsDown 37 = .ok (.getfield 12, 3) := by decide +kernel
theorem dX6_blowsDown_40 : decode cX6_blowsDown 40 = .ok (.getfield 155, 3) := by decide +kernel
theorem dX6_blowsDown_43 : decode cX6_blowsDown 43 = .ok (.if_icmp .ge 21, 3) := by decide +kernel
theorem dX6_blowsDown_46 : decode cX6_blowsDown 46 = .ok (.iload_n 2, 1) := by decide +kernel
theorem dX6_blowsDown_47 : decode cX6_blowsDown 47 = .ok (.aload_n 0, 1) := by decide +kernel
theorem dX6_blowsDown_48 : decode cX6_blowsDown 48 = .ok (.getfield 12, 3) := by decide +kernel
theorem dX6_blowsDown_51 : decode cX6_blowsDown 51 = .ok (.iload 6, 2) := by decide +kernel
theorem dX6_blowsDown_53 : decode cX6_blowsDown 53 = .ok (.iconst 1, 1) := by decide +kernel
theorem dX6_blowsDown_54 : decode cX6_blowsDown 54 = .ok (.iadd, 1) := by decide +kernel
theorem dX6_blowsDown_55 : decode cX6_blowsDown 55 = .ok (.invokevirtual 158, 3) := by decide +kernel
theorem dX6_blowsDown_58 : decode cX6_blowsDown 58 = .ok (.invokestatic 87, 3) := by decide +kernel
theorem dX6_blowsDown_61 : decode cX6_blowsDown 61 = .ok (.goto 4, 3) := by decide +kernel
theorem dX6_blowsDown_64 : decode cX6_blowsDown 64 = .ok (.iload_n 2, 1) := by decide +kernel
theorem dX6_blowsDown_65 : decode cX6_blowsDown 65 = .ok (.istore 7, 2) := by decide +kernel
theorem dX6_blowsDown_67 : decode cX6_blowsDown 67 = .ok (.iload 4, 2) := by decide +kernel
theorem dX6_blowsDown_69 : decode cX6_blowsDown 69 = .ok (.iload 7, 2) := by decide +kernel
theorem dX6_blowsDown_71 : decode cX6_blowsDown 71 = .ok (.if_icmp .ge 59, 3) := by decide +kernel
theorem dX6_blowsDown_74 : decode cX6_blowsDown 74 = .ok (.aload_n 0, 1) := by decide +kernel
theorem dX6_blowsDown_75 : decode cX6_blowsDown 75 = .ok (.iload_n 3, 1) := by decide +kernel
theorem dX6_blowsDown_76 : decode cX6_blowsDown 76 = .ok (.aload_n 0, 1) := by decide +kernel
theorem dX6_blowsDown_77 : decode cX6_blowsDown 77 = .ok (.getfield 12, 3) := by decide +kernel
theorem dX6_blowsDown_80 : decode cX6_blowsDown 80 = .ok (.iload 6, 2) := by decide +kernel
theorem dX6_blowsDown_82 : decode cX6_blowsDown 82 = .ok (.invokevirtual 161, 3) := by decide +kernel
theorem dX6_blowsDown_85 : decode cX6_blowsDown 85 = .ok (.invokevirtual 93, 3) := by decide +kernel
theorem dX6_blowsDown_88 : decode cX6_blowsDown 88 = .ok (.istore 8, 2) := by decide +kernel
theorem dX6_blowsDown_90 : decode cX6_blowsDown 90 = .ok (.iload 8, 2) := by decide +kernel
theorem dX6_blowsDown_92 : decode cX6_blowsDown 92 = .ok (.ifCond .gt 6, 3) := by decide +kernel
theorem dX6_blowsDown_95 : decode cX6_blowsDown 95 = .ok (.bipush (-4), 2) := by decide +kernel
theorem dX6_blowsDown_97 : decode cX6_blowsDown 97 = .ok (.ireturn, 1) := by decide +kernel
theorem dX6_blowsDown_98 : decode cX6_blowsDown 98 = .ok (.iload 7, 2) := by decide +kernel
theorem dX6_blowsDown_100 : decode cX6_blowsDown 100 = .ok (.iload 4, 2) := by decide +kernel
theorem dX6_blowsDown_102 : decode cX6_blowsDown 102 = .ok (.isub, 1) := by decide +kernel
theorem dX6_blowsDown_103 : decode cX6_blowsDown 103 = .ok (.iload 8, 2) := by decide +kernel
theorem dX6_blowsDown_105 : decode cX6_blowsDown 105 = .ok (.iadd, 1) := by decide +kernel
theorem dX6_blowsDown_106 : decode cX6_blowsDown 106 = .ok (.iconst 1, 1) := by decide +kernel
theorem dX6_blowsDown_107 : decode cX6_blowsDown 107 = .ok (.isub, 1) := by decide +kernel
theorem dX6_blowsDown_108 : decode cX6_blowsDown 108 = .ok (.iload 8, 2) := by decide +kernel
theorem dX6_blowsDown_110 : decode cX6_blowsDown 110 = .ok (.idiv, 1) := by decide +kernel
theorem dX6_blowsDown_111 : decode cX6_blowsDown 111 = .ok (.istore 9, 2) := by decide +kernel
theorem dX6_blowsDown_113 : decode cX6_blowsDown 113 = .ok (.iload 5, 2) := by decide +kernel
theorem dX6_blowsDown_115 : decode cX6_blowsDown 115 = .ok (.iload 9, 2) := by decide +kernel
theorem dX6_blowsDown_117 : decode cX6_blowsDown 117 = .ok (.iadd, 1) := by decide +kernel
theorem dX6_blowsDown_118 : decode cX6_blowsDown 118 = .ok (.istore 5, 2) := by decide +kernel
theorem dX6_blowsDown_120 : decode cX6_blowsDown 120 = .ok (.iload 4, 2) := by decide +kernel
theorem dX6_blowsDown_122 : decode cX6_blowsDown 122 = .ok (.iload 9, 2) := by decide +kernel
theorem dX6_blowsDown_124 : decode cX6_blowsDown 124 = .ok (.iload 8, 2) := by decide +kernel
theorem dX6_blowsDown_126 : decode cX6_blowsDown 126 = .ok (.imul, 1) := by decide +kernel
theorem dX6_blowsDown_127 : decode cX6_blowsDown 127 = .ok (.iadd, 1) := by decide +kernel
theorem dX6_blowsDown_128 : decode cX6_blowsDown 128 = .ok (.istore 4, 2) := by decide +kernel
theorem dX6_blowsDown_130 : decode cX6_blowsDown 130 = .ok (.iinc 6 1, 3) := by decide +kernel
theorem dX6_blowsDown_133 : decode cX6_blowsDown 133 = .ok (.goto (-117), 3) := by decide +kernel
theorem dX6_blowsDown_136 : decode cX6_blowsDown 136 = .ok (.iload 5, 2) := by decide +kernel
theorem dX6_blowsDown_138 : decode cX6_blowsDown 138 = .ok (.ireturn, 1) := by decide +kernel
theorem dX6_loadWith_0 : decode cX6_loadWith 0 = .ok (.aload_n 0, 1) := by decide +kernel
theorem dX6_loadWith_1 : decode cX6_loadWith 1 = .ok (.getfield 12, 3) := by decide +kernel
theorem dX6_loadWith_4 : decode cX6_loadWith 4 = .ok (.aload_n 1, 1) := by decide +kernel
theorem dX6_loadWith_5 : decode cX6_loadWith 5 = .ok (.getfield 55, 3) := by decide +kernel
theorem dX6_loadWith_8 : decode cX6_loadWith 8 = .ok (.invokevirtual 90, 3) := by decide +kernel
theorem dX6_loadWith_11 : decode cX6_loadWith 11 = .ok (.bipush 10, 2) := by decide +kernel
theorem dX6_loadWith_13 : decode cX6_loadWith 13 = .ok (.imul, 1) := by decide +kernel
theorem dX6_loadWith_14 : decode cX6_loadWith 14 = .ok (.aload_n 1, 1) := by decide +kernel
theorem dX6_loadWith_15 : decode cX6_loadWith 15 = .ok (.getfield 55, 3) := by decide +kernel
theorem dX6_loadWith_18 : decode cX6_loadWith 18 = .ok (.bipush 100, 2) := by decide +kernel
theorem dX6_loadWith_20 : decode cX6_loadWith 20 = .ok (.idiv, 1) := by decide +kernel
theorem dX6_loadWith_21 : decode cX6_loadWith 21 = .ok (.iadd, 1) := by decide +kernel
theorem dX6_loadWith_22 : decode cX6_loadWith 22 = .ok (.istore_n 3, 1) := by decide +kernel
theorem dX6_loadWith_23 : decode cX6_loadWith 23 = .ok (.iload_n 2, 1) := by decide +kernel
theorem dX6_loadWith_24 : decode cX6_loadWith 24 = .ok (.iload_n 3, 1) := by decide +kernel
theorem dX6_loadWith_25 : decode cX6_loadWith 25 = .ok (.if_icmp .gt 5, 3) := by decide +kernel
theorem dX6_loadWith_28 : decode cX6_loadWith 28 = .ok (.iconst 0, 1) := by decide +kernel
theorem dX6_loadWith_29 : decode cX6_loadWith 29 = .ok (.ireturn, 1) := by decide +kernel
theorem dX6_loadWith_30 : decode cX6_loadWith 30 = .ok (.aload_n 1, 1) := by decide +kernel
theorem dX6_loadWith_31 : decode cX6_loadWith 31 = .ok (.invokevirtual 147, 3) := by decide +kernel
theorem dX6_loadWith_34 : decode cX6_loadWith 34 = .ok (.iload_n 2, 1) := by decide +kernel
theorem dX6_loadWith_35 : decode cX6_loadWith 35 = .ok (.iload_n 3, 1) := by decide +kernel
theorem dX6_loadWith_36 : decode cX6_loadWith 36 = .ok (.isub, 1) := by decide +kernel
theorem dX6_loadWith_37 : decode cX6_loadWith 37 = .ok (.bipush 10, 2) := by decide +kernel
theorem dX6_loadWith_39 : decode cX6_loadWith 39 = .ok (.idiv, 1) := by decide +kernel
theorem dX6_loadWith_40 : decode cX6_loadWith 40 = .ok (.iconst 1, 1) := by decide +kernel
theorem dX6_loadWith_41 : decode cX6_loadWith 41 = .ok (.iadd, 1) := by decide +kernel
theorem dX6_loadWith_42 : decode cX6_loadWith 42 = .ok (.invokestatic 87, 3) := by decide +kernel
theorem dX6_loadWith_45 : decode cX6_loadWith 45 = .ok (.istore 4, 2) := by decide +kernel
theorem dX6_loadWith_47 : decode cX6_loadWith 47 = .ok (.aload_n 1, 1) := by decide +kernel
theorem dX6_loadWith_48 : decode cX6_loadWith 48 = .ok (.iload 4, 2) := by decide +kernel
theorem dX6_loadWith_50 : decode cX6_loadWith 50 = .ok (.invokevirtual 164, 3) := by decide +kernel
theorem dX6_loadWith_53 : decode cX6_loadWith 53 = .ok (.aload_n 0, 1) := by decide +kernel
theorem dX6_loadWith_54 : decode cX6_loadWith 54 = .ok (.dup, 1) := by decide +kernel
theorem dX6_loadWith_55 : decode cX6_loadWith 55 = .ok (.getfield 167, 3) := by decide +kernel
theorem dX6_loadWith_58 : decode cX6_loadWith 58 = .ok (.iload 4, 2) := by decide +kernel
theorem dX6_loadWith_60 : decode cX6_loadWith 60 = .ok (.i2l, 1) := by decide +kernel
theorem dX6_loadWith_61 : decode cX6_loadWith 61 = .ok (.ladd, 1) := by decide +kernel
theorem dX6_loadWith_62 : decode cX6_loadWith 62 = .ok (.putfield 167, 3) := by decide +kernel
theorem dX6_loadWith_65 : decode cX6_loadWith 65 = .ok (.iload 4, 2) := by decide +kernel
theorem dX6_loadWith_67 : decode cX6_loadWith 67 = .ok (.ireturn, 1) := by decide +kernel
theorem dX6_copyFrom_0 : decode cX6_copyFrom 0 = .ok (.aload_n 0, 1) := by decide +kernel
theorem dX6_copyFrom_1 : decode cX6_copyFrom 1 = .ok (.getfield 12, 3) := by decide +kernel
theorem dX6_copyFrom_4 : decode cX6_copyFrom 4 = .ok (.aload_n 1, 1) := by decide +kernel
theorem dX6_copyFrom_5 : decode cX6_copyFrom 5 = .ok (.getfield 12, 3) := by decide +kernel
theorem dX6_copyFrom_8 : decode cX6_copyFrom 8 = .ok (.invokevirtual 170, 3) := by decide +kernel
theorem dX6_copyFrom_11 : decode cX6_copyFrom 11 = .ok (.aload_n 1, 1) := by decide +kernel
theorem dX6_copyFrom_12 : decode cX6_copyFrom 12 = .ok (.getfield 27, 3) := by decide +kernel
theorem dX6_copyFrom_15 : decode cX6_copyFrom 15 = .ok (.iconst 0, 1) := by decide +kernel
theorem dX6_copyFrom_16 : decode cX6_copyFrom 16 = .ok (.aload_n 0, 1) := by decide +kernel
theorem dX6_copyFrom_17 : decode cX6_copyFrom 17 = .ok (.getfield 27, 3) := by decide +kernel
theorem dX6_copyFrom_20 : decode cX6_copyFrom 20 = .ok (.iconst 0, 1) := by decide +kernel
theorem dX6_copyFrom_21 : decode cX6_copyFrom 21 = .ok (.getstatic 18, 3) := by decide +kernel
theorem dX6_copyFrom_24 : decode cX6_copyFrom 24 = .ok (.arraylength, 1) := by decide +kernel
theorem dX6_copyFrom_25 : decode cX6_copyFrom 25 = .ok (.invokestatic 174, 3) := by decide +kernel
theorem dX6_copyFrom_28 : decode cX6_copyFrom 28 = .ok (.aload_n 0, 1) := by decide +kernel
theorem dX6_copyFrom_29 : decode cX6_copyFrom 29 = .ok (.aload_n 1, 1) := by decide +kernel
theorem dX6_copyFrom_30 : decode cX6_copyFrom 30 = .ok (.getfield 37, 3) := by decide +kernel
theorem dX6_copyFrom_33 : decode cX6_copyFrom 33 = .ok (.putfield 37, 3) := by decide +kernel
theorem dX6_copyFrom_36 : decode cX6_copyFrom 36 = .ok (.iconst 0, 1) := by decide +kernel
theorem dX6_copyFrom_37 : decode cX6_copyFrom 37 = .ok (.istore_n 2, 1) := by decide +kernel
theorem dX6_copyFrom_38 : decode cX6_copyFrom 38 = .ok (.iload_n 2, 1) := by decide +kernel
theorem dX6_copyFrom_39 : decode cX6_copyFrom 39 = .ok (.aload_n 0, 1) := by decide +kernel
theorem dX6_copyFrom_40 : decode cX6_copyFrom 40 = .ok (.getfield 37, 3) := by decide +kernel
theorem dX6_copyFrom_43 : decode cX6_copyFrom 43 = .ok (.if_icmp .ge 37, 3) := by decide +kernel
theorem dX6_copyFrom_46 : decode cX6_copyFrom 46 = .ok (.aload_n 0, 1) := by decide +kernel
theorem dX6_copyFrom_47 : decode cX6_copyFrom 47 = .ok (.iload_n 2, 1) := by decide +kernel
theorem dX6_copyFrom_48 : decode cX6_copyFrom 48 = .ok (.invokevirtual 41, 3) := by decide +kernel
theorem dX6_copyFrom_51 : decode cX6_copyFrom 51 = .ok (.astore_n 3, 1) := by decide +kernel
theorem dX6_copyFrom_52 : decode cX6_copyFrom 52 = .ok (.aload_n 1, 1) := by decide +kernel
theorem dX6_copyFrom_53 : decode cX6_copyFrom 53 = .ok (.iload_n 2, 1) := by decide +kernel
theorem dX6_copyFrom_54 : decode cX6_copyFrom 54 = .ok (.invokevirtual 41, 3) := by decide +kernel
theorem dX6_copyFrom_57 : decode cX6_copyFrom 57 = .ok (.astore 4, 2) := by decide +kernel
theorem dX6_copyFrom_59 : decode cX6_copyFrom 59 = .ok (.aload_n 3, 1) := by decide +kernel
theorem dX6_copyFrom_60 : decode cX6_copyFrom 60 = .ok (.ifnull 14, 3) := by decide +kernel
theorem dX6_copyFrom_63 : decode cX6_copyFrom 63 = .ok (.aload 4, 2) := by decide +kernel
theorem dX6_copyFrom_65 : decode cX6_copyFrom 65 = .ok (.ifnull 9, 3) := by decide +kernel
theorem dX6_copyFrom_68 : decode cX6_copyFrom 68 = .ok (.aload_n 3, 1) := by decide +kernel
theorem dX6_copyFrom_69 : decode cX6_copyFrom 69 = .ok (.aload 4, 2) := by decide +kernel
theorem dX6_copyFrom_71 : decode cX6_copyFrom 71 = .ok (.invokevirtual 180, 3) := by decide +kernel
theorem dX6_copyFrom_74 : decode cX6_copyFrom 74 = .ok (.iinc 2 1, 3) := by decide +kernel
theorem dX6_copyFrom_77 : decode cX6_copyFrom 77 = .ok (.goto (-39), 3) := by decide +kernel
theorem dX6_copyFrom_80 : decode cX6_copyFrom 80 = .ok (.aload_n 0, 1) := by decide +kernel
theorem dX6_copyFrom_81 : decode cX6_copyFrom 81 = .ok (.aload_n 1, 1) := by decide +kernel
theorem dX6_copyFrom_82 : decode cX6_copyFrom 82 = .ok (.getfield 117, 3) := by decide +kernel
theorem dX6_copyFrom_85 : decode cX6_copyFrom 85 = .ok (.putfield 117, 3) := by decide +kernel
theorem dX6_copyFrom_88 : decode cX6_copyFrom 88 = .ok (.aload_n 0, 1) := by decide +kernel
theorem dX6_copyFrom_89 : decode cX6_copyFrom 89 = .ok (.aload_n 1, 1) := by decide +kernel
theorem dX6_copyFrom_90 : decode cX6_copyFrom 90 = .ok (.getfield 121, 3) := by decide +kernel
theorem dX6_copyFrom_93 : decode cX6_copyFrom 93 = .ok (.putfield 121, 3) := by decide +kernel
theorem dX6_copyFrom_96 : decode cX6_copyFrom 96 = .ok (.aload_n 0, 1) := by decide +kernel
theorem dX6_copyFrom_97 : decode cX6_copyFrom 97 = .ok (.aload_n 1, 1) := by decide +kernel
theorem dX6_copyFrom_98 : decode cX6_copyFrom 98 = .ok (.getfield 124, 3) := by decide +kernel
theorem dX6_copyFrom_101 : decode cX6_copyFrom 101 = .ok (.putfield 124, 3) := by decide +kernel
theorem dX6_copyFrom_104 : decode cX6_copyFrom 104 = .ok (.aload_n 0, 1) := by decide +kernel
theorem dX6_copyFrom_105 : decode cX6_copyFrom 105 = .ok (.aload_n 1, 1) := by decide +kernel
theorem dX6_copyFrom_106 : decode cX6_copyFrom 106 = .ok (.getfield 127, 3) := by decide +kernel
theorem dX6_copyFrom_109 : decode cX6_copyFrom 109 = .ok (.putfield 127, 3) := by decide +kernel
theorem dX6_copyFrom_112 : decode cX6_copyFrom 112 = .ok (.aload_n 0, 1) := by decide +kernel
theorem dX6_copyFrom_113 : decode cX6_copyFrom 113 = .ok (.aload_n 1, 1) := by decide +kernel
theorem dX6_copyFrom_114 : decode cX6_copyFrom 114 = .ok (.getfield 144, 3) := by decide +kernel
theorem dX6_copyFrom_117 : decode cX6_copyFrom 117 = .ok (.putfield 144, 3) := by decide +kernel
theorem dX6_copyFrom_120 : decode cX6_copyFrom 120 = .ok (.aload_n 0, 1) := by decide +kernel
theorem dX6_copyFrom_121 : decode cX6_copyFrom 121 = .ok (.aload_n 1, 1) := by decide +kernel
theorem dX6_copyFrom_122 : decode cX6_copyFrom 122 = .ok (.getfield 167, 3) := by decide +kernel
theorem dX6_copyFrom_125 : decode cX6_copyFrom 125 = .ok (.putfield 167, 3) := by decide +kernel
theorem dX6_copyFrom_128 : decode cX6_copyFrom 128 = .ok (.return_, 1) := by decide +kernel
