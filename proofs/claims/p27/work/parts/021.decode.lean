theorem dX0_init_0 : decode cX0_init 0 = .ok (.aload_n 0, 1) := by decide +kernel
theorem dX0_init_1 : decode cX0_init 1 = .ok (.invokespecial 3, 3) := by decide +kernel
theorem dX0_init_4 : decode cX0_init 4 = .ok (.aload_n 0, 1) := by decide +kernel
theorem dX0_init_5 : decode cX0_init 5 = .ok (.bipush 80, 2) := by decide +kernel
theorem dX0_init_7 : decode cX0_init 7 = .ok (.newarray .char, 2) := by decide +kernel
theorem dX0_init_9 : decode cX0_init 9 = .ok (.putfield 9, 3) := by decide +kernel
theorem dX0_init_12 : decode cX0_init 12 = .ok (.return_, 1) := by decide +kernel
theorem dX0_append_0 : decode cX0_append 0 = .ok (.aload_n 0, 1) := by decide +kernel
theorem dX0_append_1 : decode cX0_append 1 = .ok (.getfield 15, 3) := by decide +kernel
theorem dX0_append_4 : decode cX0_append 4 = .ok (.ifCond .lt 35, 3) := by decide +kernel
theorem dX0_append_7 : decode cX0_append 7 = .ok (.aload_n 0, 1) := by decide +kernel
theorem dX0_append_8 : decode cX0_append 8 = .ok (.getfield 15, 3) := by decide +kernel
theorem dX0_append_11 : decode cX0_append 11 = .ok (.aload_n 0, 1) := by decide +kernel
theorem dX0_append_12 : decode cX0_append 12 = .ok (.getfield 9, 3) := by decide +kernel
theorem dX0_append_15 : decode cX0_append 15 = .ok (.arraylength, 1) := by decide +kernel
theorem dX0_append_16 : decode cX0_append 16 = .ok (.if_icmp .ge 23, 3) := by decide +kernel
theorem dX0_append_19 : decode cX0_append 19 = .ok (.aload_n 0, 1) := by decide +kernel
theorem dX0_append_20 : decode cX0_append 20 = .ok (.getfield 9, 3) := by decide +kernel
theorem dX0_append_23 : decode cX0_append 23 = .ok (.aload_n 0, 1) := by decide +kernel
theorem dX0_append_24 : decode cX0_append 24 = .ok (.getfield 15, 3) := by decide +kernel
theorem dX0_append_27 : decode cX0_append 27 = .ok (.iload_n 1, 1) := by decide +kernel
theorem dX0_append_28 : decode cX0_append 28 = .ok (.castore, 1) := by decide +kernel
theorem dX0_append_29 : decode cX0_append 29 = .ok (.aload_n 0, 1) := by decide +kernel
theorem dX0_append_30 : decode cX0_append 30 = .ok (.dup, 1) := by decide +kernel
theorem dX0_append_31 : decode cX0_append 31 = .ok (.getfield 15, 3) := by decide +kernel
theorem dX0_append_34 : decode cX0_append 34 = .ok (.iconst 1, 1) := by decide +kernel
theorem dX0_append_35 : decode cX0_append 35 = .ok (.iadd, 1) := by decide +kernel
theorem dX0_append_36 : decode cX0_append 36 = .ok (.putfield 15, 3) := by decide +kernel
theorem dX0_append_39 : decode cX0_append 39 = .ok (.return_, 1) := by decide +kernel
theorem dX0_empty_0 : decode cX0_empty 0 = .ok (.aload_n 0, 1) := by decide +kernel
theorem dX0_empty_1 : decode cX0_empty 1 = .ok (.iconst 0, 1) := by decide +kernel
theorem dX0_empty_2 : decode cX0_empty 2 = .ok (.putfield 15, 3) := by decide +kernel
theorem dX0_empty_5 : decode cX0_empty 5 = .ok (.return_, 1) := by decide +kernel
theorem dX0_findFault_0 : decode cX0_findFault 0 = .ok (.iconst 0, 1) := by decide +kernel
theorem dX0_findFault_1 : decode cX0_findFault 1 = .ok (.istore_n 2, 1) := by decide +kernel
theorem dX0_findFault_2 : decode cX0_findFault 2 = .ok (.iconst 0, 1) := by decide +kernel
theorem dX0_findFault_3 : decode cX0_findFault 3 = .ok (.istore_n 3, 1) := by decide +kernel
theorem dX0_findFault_4 : decode cX0_findFault 4 = .ok (.iload_n 3, 1) := by decide +kernel
theorem dX0_findFault_5 : decode cX0_findFault 5 = .ok (.bipush 80, 2) := by decide +kernel
theorem dX0_findFault_7 : decode cX0_findFault 7 = .ok (.if_icmp .ge 43, 3) := by decide +kernel
theorem dX0_findFault_10 : decode cX0_findFault 10 = .ok (.iload_n 2, 1) := by decide +kernel
theorem dX0_findFault_11 : decode cX0_findFault 11 = .ok (.aload_n 0, 1) := by decide +kernel
theorem dX0_findFault_12 : decode cX0_findFault 12 = .ok (.getfield 15, 3) := by decide +kernel
theorem dX0_findFault_15 : decode cX0_findFault 15 = .ok (.if_icmp .ge 35, 3) := by decide +kernel
theorem dX0_findFault_18 : decode cX0_findFault 18 = .ok (.aload_n 0, 1) := by decide +kernel
theorem dX0_findFault_19 : decode cX0_findFault 19 = .ok (.iload_n 2, 1) := by decide +kernel
theorem dX0_findFault_20 : decode cX0_findFault 20 = .ok (.iload_n 1, 1) := by decide +kernel
theorem dX0_findFault_21 : decode cX0_findFault 21 = .ok (.invokevirtual 19, 3) := by decide +kernel
theorem dX0_findFault_24 : decode cX0_findFault 24 = .ok (.istore 4, 2) := by decide +kernel
theorem dX0_findFault_26 : decode cX0_findFault 26 = .ok (.iload 4, 2) := by decide +kernel
theorem dX0_findFault_28 : decode cX0_findFault 28 = .ok (.ifCond .eq 11, 3) := by decide +kernel
theorem dX0_findFault_31 : decode cX0_findFault 31 = .ok (.aload_n 0, 1) := by decide +kernel
theorem dX0_findFault_32 : decode cX0_findFault 32 = .ok (.iload_n 2, 1) := by decide +kernel
theorem dX0_findFault_33 : decode cX0_findFault 33 = .ok (.putfield 23, 3) := by decide +kernel
theorem dX0_findFault_36 : decode cX0_findFault 36 = .ok (.iload 4, 2) := by decide +kernel
theorem dX0_findFault_38 : decode cX0_findFault 38 = .ok (.ireturn, 1) := by decide +kernel
theorem dX0_findFault_39 : decode cX0_findFault 39 = .ok (.aload_n 0, 1) := by decide +kernel
theorem dX0_findFault_40 : decode cX0_findFault 40 = .ok (.getfield 26, 3) := by decide +kernel
theorem dX0_findFault_43 : decode cX0_findFault 43 = .ok (.istore_n 2, 1) := by decide +kernel
theorem dX0_findFault_44 : decode cX0_findFault 44 = .ok (.iinc 3 1, 3) := by decide +kernel
theorem dX0_findFault_47 : decode cX0_findFault 47 = .ok (.goto (-43), 3) := by decide +kernel
theorem dX0_findFault_50 : decode cX0_findFault 50 = .ok (.iconst 0, 1) := by decide +kernel
theorem dX0_findFault_51 : decode cX0_findFault 51 = .ok (.ireturn, 1) := by decide +kernel
theorem dX0_reasonOf_0 : decode cX0_reasonOf 0 = .ok (.aload_n 0, 1) := by decide +kernel
theorem dX0_reasonOf_1 : decode cX0_reasonOf 1 = .ok (.iload_n 1, 1) := by decide +kernel
theorem dX0_reasonOf_2 : decode cX0_reasonOf 2 = .ok (.invokevirtual 29, 3) := by decide +kernel
theorem dX0_reasonOf_5 : decode cX0_reasonOf 5 = .ok (.ifCond .ne 5, 3) := by decide +kernel
theorem dX0_reasonOf_8 : decode cX0_reasonOf 8 = .ok (.iconst 1, 1) := by decide +kernel
theorem dX0_reasonOf_9 : decode cX0_reasonOf 9 = .ok (.ireturn, 1) := by decide +kernel
theorem dX0_reasonOf_10 : decode cX0_reasonOf 10 = .ok (.aload_n 0, 1) := by decide +kernel
theorem dX0_reasonOf_11 : decode cX0_reasonOf 11 = .ok (.getfield 33, 3) := by decide +kernel
theorem dX0_reasonOf_14 : decode cX0_reasonOf 14 = .ok (.iload_n 2, 1) := by decide +kernel
theorem dX0_reasonOf_15 : decode cX0_reasonOf 15 = .ok (.if_icmp .lt 5, 3) := by decide +kernel
theorem dX0_reasonOf_18 : decode cX0_reasonOf 18 = .ok (.iconst 2, 1) := by decide +kernel
theorem dX0_reasonOf_19 : decode cX0_reasonOf 19 = .ok (.ireturn, 1) := by decide +kernel
theorem dX0_reasonOf_20 : decode cX0_reasonOf 20 = .ok (.aload_n 0, 1) := by decide +kernel
theorem dX0_reasonOf_21 : decode cX0_reasonOf 21 = .ok (.getfield 36, 3) := by decide +kernel
theorem dX0_reasonOf_24 : decode cX0_reasonOf 24 = .ok (.invokestatic 39, 3) := by decide +kernel
theorem dX0_reasonOf_27 : decode cX0_reasonOf 27 = .ok (.ifCond .eq 20, 3) := by decide +kernel
theorem dX0_reasonOf_30 : decode cX0_reasonOf 30 = .ok (.aload_n 0, 1) := by decide +kernel
theorem dX0_reasonOf_31 : decode cX0_reasonOf 31 = .ok (.getfield 42, 3) := by decide +kernel
theorem dX0_reasonOf_34 : decode cX0_reasonOf 34 = .ok (.iconst 1, 1) := by decide +kernel
theorem dX0_reasonOf_35 : decode cX0_reasonOf 35 = .ok (.bipush 40, 2) := by decide +kernel
theorem dX0_reasonOf_37 : decode cX0_reasonOf 37 = .ok (.invokestatic 45, 3) := by decide +kernel
theorem dX0_reasonOf_40 : decode cX0_reasonOf 40 = .ok (.ifCond .eq 7, 3) := by decide +kernel
theorem dX0_reasonOf_43 : decode cX0_reasonOf 43 = .ok (.iconst 0, 1) := by decide +kernel
theorem dX0_reasonOf_44 : decode cX0_reasonOf 44 = .ok (.goto 4, 3) := by decide +kernel
theorem dX0_reasonOf_47 : decode cX0_reasonOf 47 = .ok (.iconst 3, 1) := by decide +kernel
theorem dX0_reasonOf_48 : decode cX0_reasonOf 48 = .ok (.ireturn, 1) := by decide +kernel
theorem dX0_readPart_0 : decode cX0_readPart 0 = .ok (.aload_n 0, 1) := by decide +kernel
theorem dX0_readPart_1 : decode cX0_readPart 1 = .ok (.iload_n 1, 1) := by decide +kernel
theorem dX0_readPart_2 : decode cX0_readPart 2 = .ok (.invokevirtual 49, 3) := by decide +kernel
theorem dX0_readPart_5 : decode cX0_readPart 5 = .ok (.iconst 1, 1) := by decide +kernel
theorem dX0_readPart_6 : decode cX0_readPart 6 = .ok (.if_icmp .ne 15, 3) := by decide +kernel
theorem dX0_readPart_9 : decode cX0_readPart 9 = .ok (.aload_n 0, 1) := by decide +kernel
theorem dX0_readPart_10 : decode cX0_readPart 10 = .ok (.iload_n 1, 1) := by decide +kernel
theorem dX0_readPart_11 : decode cX0_readPart 11 = .ok (.iconst 1, 1) := by decide +kernel
theorem dX0_readPart_12 : decode cX0_readPart 12 = .ok (.iadd, 1) := by decide +kernel
theorem dX0_readPart_13 : decode cX0_readPart 13 = .ok (.invokevirtual 53, 3) := by decide +kernel
theorem dX0_readPart_16 : decode cX0_readPart 16 = .ok (.bipush 58, 2) := by decide +kernel
theorem dX0_readPart_18 : decode cX0_readPart 18 = .ok (.if_icmp .eq 5, 3) := by decide +kernel
theorem dX0_readPart_21 : decode cX0_readPart 21 = .ok (.iconst 0, 1) := by decide +kernel
theorem dX0_readPart_22 : decode cX0_readPart 22 = .ok (.ireturn, 1) := by decide +kernel
theorem dX0_readPart_23 : decode cX0_readPart 23 = .ok (.aload_n 0, 1) := by decide +kernel
theorem dX0_readPart_24 : decode cX0_readPart 24 = .ok (.aload_n 0, 1) := by decide +kernel
theorem dX0_readPart_25 : decode cX0_readPart 25 = .ok (.iload_n 1, 1) := by decide +kernel
theorem dX0_readPart_26 : decode cX0_readPart 26 = .ok (.iconst 1, 1) := by decide +kernel
theorem dX0_readPart_27 : decode cX0_readPart 27 = .ok (.invokevirtual 57, 3) := by decide +kernel
theorem dX0_readPart_30 : decode cX0_readPart 30 = .ok (.putfield 33, 3) := by decide +kernel
theorem dX0_readPart_33 : decode cX0_readPart 33 = .ok (.iload_n 1, 1) := by decide +kernel
theorem dX0_readPart_34 : decode cX0_readPart 34 = .ok (.iconst 2, 1) := by decide +kernel
theorem dX0_readPart_35 : decode cX0_readPart 35 = .ok (.iadd, 1) := by decide +kernel
theorem dX0_readPart_36 : decode cX0_readPart 36 = .ok (.istore_n 2, 1) := by decide +kernel
theorem dX0_readPart_37 : decode cX0_readPart 37 = .ok (.aload_n 0, 1) := by decide +kernel
theorem dX0_readPart_38 : decode cX0_readPart 38 = .ok (.iload_n 2, 1) := by decide +kernel
theorem dX0_readPart_39 : decode cX0_readPart 39 = .ok (.invokevirtual 49, 3) := by decide +kernel
theorem dX0_readPart_42 : decode cX0_readPart 42 = .ok (.istore_n 3, 1) := by decide +kernel
theorem dX0_readPart_43 : decode cX0_readPart 43 = .ok (.iload_n 3, 1) := by decide +kernel
theorem dX0_readPart_44 : decode cX0_readPart 44 = .ok (.iconst 3, 1) := by decide +kernel
theorem dX0_readPart_45 : decode cX0_readPart 45 = .ok (.iconst 4, 1) := by decide +kernel
theorem dX0_readPart_46 : decode cX0_readPart 46 = .ok (.invokestatic 45, 3) := by decide +kernel
theorem dX0_readPart_49 : decode cX0_readPart 49 = .ok (.ifCond .ne 5, 3) := by decide +kernel
theorem dX0_readPart_52 : decode cX0_readPart 52 = .ok (.iconst 0, 1) := by decide +kernel
theorem dX0_readPart_53 : decode cX0_readPart 53 = .ok (.ireturn, 1) := by decide +kernel
theorem dX0_readPart_54 : decode cX0_readPart 54 = .ok (.aload_n 0, 1) := by decide +kernel
theorem dX0_readPart_55 : decode cX0_readPart 55 = .ok (.aload_n 0, 1) := by decide +kernel
theorem dX0_readPart_56 : decode cX0_readPart 56 = .ok (.iload_n 2, 1) := by decide +kernel
theorem dX0_readPart_57 : decode cX0_readPart 57 = .ok (.iload_n 3, 1) := by decide +kernel
theorem dX0_readPart_58 : decode cX0_readPart 58 = .ok (.invokevirtual 57, 3) := by decide +kernel
theorem dX0_readPart_61 : decode cX0_readPart 61 = .ok (.putfield 36, 3) := by decide +kernel
theorem dX0_readPart_64 : decode cX0_readPart 64 = .ok (.iload_n 2, 1) := by decide +kernel
theorem dX0_readPart_65 : decode cX0_readPart 65 = .ok (.iload_n 3, 1) := by decide +kernel
theorem dX0_readPart_66 : decode cX0_readPart 66 = .ok (.iadd, 1) := by decide +kernel
theorem dX0_readPart_67 : decode cX0_readPart 67 = .ok (.istore_n 2, 1) := by decide +kernel
theorem dX0_readPart_68 : decode cX0_readPart 68 = .ok (.aload_n 0, 1) := by decide +kernel
theorem dX0_readPart_69 : decode cX0_readPart 69 = .ok (.iconst 1, 1) := by decide +kernel
theorem dX0_readPart_70 : decode cX0_readPart 70 = .ok (.putfield 42, 3) := by decide +kernel
theorem dX0_readPart_73 : decode cX0_readPart 73 = .ok (.aload_n 0, 1) := by decide +kernel
theorem dX0_readPart_74 : decode cX0_readPart 74 = .ok (.iload_n 2, 1) := by decide +kernel
theorem dX0_readPart_75 : decode cX0_readPart 75 = .ok (.invokevirtual 53, 3) := by decide +kernel
theorem dX0_readPart_78 : decode cX0_readPart 78 = .ok (.bipush 42, 2) := by decide +kernel
theorem dX0_readPart_80 : decode cX0_readPart 80 = .ok (.if_icmp .ne 37, 3) := by decide +kernel
theorem dX0_readPart_83 : decode cX0_readPart 83 = .ok (.iinc 2 1, 3) := by decide +kernel
theorem dX0_readPart_86 : decode cX0_readPart 86 = .ok (.aload_n 0, 1) := by decide +kernel
theorem dX0_readPart_87 : decode cX0_readPart 87 = .ok (.iload_n 2, 1) := by decide +kernel
theorem dX0_readPart_88 : decode cX0_readPart 88 = .ok (.invokevirtual 49, 3) := by decide +kernel
theorem dX0_readPart_91 : decode cX0_readPart 91 = .ok (.istore_n 3, 1) := by decide +kernel
theorem dX0_readPart_92 : decode cX0_readPart 92 = .ok (.iload_n 3, 1) := by decide +kernel
theorem dX0_readPart_93 : decode cX0_readPart 93 = .ok (.iconst 1, 1) := by decide +kernel
theorem dX0_readPart_94 : decode cX0_readPart 94 = .ok (.iconst 2, 1) := by decide +kernel
theorem dX0_readPart_95 : decode cX0_readPart 95 = .ok (.invokestatic 45, 3) := by decide +kernel
theorem dX0_readPart_98 : decode cX0_readPart 98 = .ok (.ifCond .ne 5, 3) := by decide +kernel
theorem dX0_readPart_101 : decode cX0_readPart 101 = .ok (.iconst 0, 1) := by decide +kernel
theorem dX0_readPart_102 : decode cX0_readPart 102 = .ok (.ireturn, 1) := by decide +kernel
theorem dX0_readPart_103 : decode cX0_readPart 103 = .ok (.aload_n 0, 1) := by decide +kernel
theorem dX0_readPart_104 : decode cX0_readPart 104 = .ok (.aload_n 0, 1) := by decide +kernel
theorem dX0_readPart_105 : decode cX0_readPart 105 = .ok (.iload_n 2, 1) := by decide +kernel
theorem dX0_readPart_106 : decode cX0_readPart 106 = .ok (.iload_n 3, 1) := by decide +kernel
theorem dX0_readPart_107 : decode cX0_readPart 107 = .ok (.invokevirtual 57, 3) := by decide +kernel
theorem dX0_readPart_110 : decode cX0_readPart 110 = .ok (.putfield 42, 3) := by decide +kernel
theorem dX0_readPart_113 : decode cX0_readPart 113 = .ok (.iload_n 2, 1) := by decide +kernel
theorem dX0_readPart_114 : decode cX0_readPart 114 = .ok (.iload_n 3, 1) := by decide +kernel
theorem dX0_readPart_115 : decode cX0_readPart 115 = .ok (.iadd, 1) := by decide +kernel
theorem dX0_readPart_116 : decode cX0_readPart 116 = .ok (.istore_n 2, 1) := by decide +kernel
theorem dX0_readPart_117 : decode cX0_readPart 117 = .ok (.aload_n 0, 1) := by decide +kernel
theorem dX0_readPart_118 : decode cX0_readPart 118 = .ok (.iload_n 2, 1) := by decide +kernel
theorem dX0_readPart_119 : decode cX0_readPart 119 = .ok (.iconst 1, 1) := by decide +kernel
theorem dX0_readPart_120 : decode cX0_readPart 120 = .ok (.iadd, 1) := by decide +kernel
theorem dX0_readPart_121 : decode cX0_readPart 121 = .ok (.putfield 26, 3) := by decide +kernel
theorem dX0_readPart_124 : decode cX0_readPart 124 = .ok (.aload_n 0, 1) := by decide +kernel
theorem dX0_readPart_125 : decode cX0_readPart 125 = .ok (.iload_n 2, 1) := by decide +kernel
theorem dX0_readPart_126 : decode cX0_readPart 126 = .ok (.invokevirtual 53, 3) := by decide +kernel
theorem dX0_readPart_129 : decode cX0_readPart 129 = .ok (.bipush 59, 2) := by decide +kernel
theorem dX0_readPart_131 : decode cX0_readPart 131 = .ok (.if_icmp .ne 7, 3) := by decide +kernel
theorem dX0_readPart_134 : decode cX0_readPart 134 = .ok (.iconst 1, 1) := by decide +kernel
theorem dX0_readPart_135 : decode cX0_readPart 135 = .ok (.goto 4, 3) := by decide +kernel
theorem dX0_readPart_138 : decode cX0_readPart 138 = .ok (.iconst 0, 1) := by decide +kernel
theorem dX0_readPart_139 : decode cX0_readPart 139 = .ok (.ireturn, 1) := by decide +kernel
theorem dX0_characterAt_0 : decode cX0_characterAt 0 = .ok (.iload_n 1, 1) := by decide +kernel
theorem dX0_characterAt_1 : decode cX0_characterAt 1 = .ok (.ifCond .lt 29, 3) := by decide +kernel
theorem dX0_characterAt_4 : decode cX0_characterAt 4 = .ok (.iload_n 1, 1) := by decide +kernel
theorem dX0_characterAt_5 : decode cX0_characterAt 5 = .ok (.aload_n 0, 1) := by decide +kernel
theorem dX0_characterAt_6 : decode cX0_characterAt 6 = .ok (.getfield 15, 3) := by decide +kernel
theorem dX0_characterAt_9 : decode cX0_characterAt 9 = .ok (.if_icmp .ge 21, 3) := by decide +kernel
theorem dX0_characterAt_12 : decode cX0_characterAt 12 = .ok (.iload_n 1, 1) := by decide +kernel
theorem dX0_characterAt_13 : decode cX0_characterAt 13 = .ok (.aload_n 0, 1) := by decide +kernel
theorem dX0_characterAt_14 : decode cX0_characterAt 14 = .ok (.getfield 9, 3) := by decide +kernel
theorem dX0_characterAt_17 : decode cX0_characterAt 17 = .ok (.arraylength, 1) := by decide +kernel
theorem dX0_characterAt_18 : decode cX0_characterAt 18 = .ok (.if_icmp .ge 12, 3) := by decide +kernel
theorem dX0_characterAt_21 : decode cX0_characterAt 21 = .ok (.aload_n 0, 1) := by decide +kernel
theorem dX0_characterAt_22 : decode cX0_characterAt 22 = .ok (.getfield 9, 3) := by decide +kernel
theorem dX0_characterAt_25 : decode cX0_characterAt 25 = .ok (.iload_n 1, 1) := by decide +kernel
theorem dX0_characterAt_26 : decode cX0_characterAt 26 = .ok (.caload, 1) := by decide +kernel
theorem dX0_characterAt_27 : decode cX0_characterAt 27 = .ok (.goto 4, 3) := by decide +kernel
theorem dX0_characterAt_30 : decode cX0_characterAt 30 = .ok (.iconst 0, 1) := by decide +kernel
theorem dX0_characterAt_31 : decode cX0_characterAt 31 = .ok (.ireturn, 1) := by decide +kernel
theorem dX0_isDigit_0 : decode cX0_isDigit 0 = .ok (.iload_n 1, 1) := by decide +kernel
theorem dX0_isDigit_1 : decode cX0_isDigit 1 = .ok (.bipush 48, 2) := by decide +kernel
theorem dX0_isDigit_3 : decode cX0_isDigit 3 = .ok (.if_icmp .lt 13, 3) := by decide +kernel
theorem dX0_isDigit_6 : decode cX0_isDigit 6 = .ok (.iload_n 1, 1) := by decide +kernel
theorem dX0_isDigit_7 : decode cX0_isDigit 7 = .ok (.bipush 57, 2) := by decide +kernel
theorem dX0_isDigit_9 : decode cX0_isDigit 9 = .ok (.if_icmp .gt 7, 3) := by decide +kernel
theorem dX0_isDigit_12 : decode cX0_isDigit 12 = .ok (.iconst 1, 1) := by decide +kernel
theorem dX0_isDigit_13 : decode cX0_isDigit 13 = .ok (.goto 4, 3) := by decide +kernel
theorem dX0_isDigit_16 : decode cX0_isDigit 16 = .ok (.iconst 0, 1) := by decide +kernel
theorem dX0_isDigit_17 : decode cX0_isDigit 17 = .ok (.ireturn, 1) := by decide +kernel
theorem dX0_digitsFrom_0 : decode cX0_digitsFrom 0 = .ok (.iconst 0, 1) := by decide +kernel
theorem dX0_digitsFrom_1 : decode cX0_digitsFrom 1 = .ok (.istore_n 2, 1) := by decide +kernel
theorem dX0_digitsFrom_2 : decode cX0_digitsFrom 2 = .ok (.iload_n 2, 1) := by decide +kernel
theorem dX0_digitsFrom_3 : decode cX0_digitsFrom 3 = .ok (.bipush 80, 2) := by decide +kernel
theorem dX0_digitsFrom_5 : decode cX0_digitsFrom 5 = .ok (.if_icmp .ge 23, 3) := by decide +kernel
theorem dX0_digitsFrom_8 : decode cX0_digitsFrom 8 = .ok (.aload_n 0, 1) := by decide +kernel
theorem dX0_digitsFrom_9 : decode cX0_digitsFrom 9 = .ok (.aload_n 0, 1) := by decide +kernel
theorem dX0_digitsFrom_10 : decode cX0_digitsFrom 10 = .ok (.iload_n 1, 1) := by decide +kernel
theorem dX0_digitsFrom_11 : decode cX0_digitsFrom 11 = .ok (.iload_n 2, 1) := by decide +kernel
theorem dX0_digitsFrom_12 : decode cX0_digitsFrom 12 = .ok (.iadd, 1) := by decide +kernel
theorem dX0_digitsFrom_13 : decode cX0_digitsFrom 13 = .ok (.invokevirtual 53, 3) := by decide +kernel
theorem dX0_digitsFrom_16 : decode cX0_digitsFrom 16 = .ok (.invokevirtual 60, 3) := by decide +kernel
theorem dX0_digitsFrom_19 : decode cX0_digitsFrom 19 = .ok (.ifCond .eq 9, 3) := by decide +kernel
theorem dX0_digitsFrom_22 : decode cX0_digitsFrom 22 = .ok (.iinc 2 1, 3) := by decide +kernel
theorem dX0_digitsFrom_25 : decode cX0_digitsFrom 25 = .ok (.goto (-23), 3) := by decide +kernel
theorem dX0_digitsFrom_28 : decode cX0_digitsFrom 28 = .ok (.iload_n 2, 1) := by decide +kernel
theorem dX0_digitsFrom_29 : decode cX0_digitsFrom 29 = .ok (.ireturn, 1) := by decide +kernel
theorem dX0_numberIn_0 : decode cX0_numberIn 0 = .ok (.iconst 0, 1) := by decide +kernel
theorem dX0_numberIn_1 : decode cX0_numberIn 1 = .ok (.istore_n 3, 1) := by decide +kernel
theorem dX0_numberIn_2 : decode cX0_numberIn 2 = .ok (.iconst 0, 1) := by decide +kernel
theorem dX0_numberIn_3 : decode cX0_numberIn 3 = .ok (.istore 4, 2) := by decide +kernel
theorem dX0_numberIn_5 : decode cX0_numberIn 5 = .ok (.iload 4, 2) := by decide +kernel
theorem dX0_numberIn_7 : decode cX0_numberIn 7 = .ok (.iload_n 2, 1) := by decide +kernel
theorem dX0_numberIn_8 : decode cX0_numberIn 8 = .ok (.if_icmp .ge 26, 3) := by decide +kernel
theorem dX0_numberIn_11 : decode cX0_numberIn 11 = .ok (.iload_n 3, 1) := by decide +kernel
theorem dX0_numberIn_12 : decode cX0_numberIn 12 = .ok (.bipush 10, 2) := by decide +kernel
theorem dX0_numberIn_14 : decode cX0_numberIn 14 = .ok (.imul, 1) := by decide +kernel
theorem dX0_numberIn_15 : decode cX0_numberIn 15 = .ok (.aload_n 0, 1) := by decide +kernel
theorem dX0_numberIn_16 : decode cX0_numberIn 16 = .ok (.iload_n 1, 1) := by decide +kernel
theorem dX0_numberIn_17 : decode cX0_numberIn 17 = .ok (.iload 4, 2) := by decide +kernel
theorem dX0_numberIn_19 : decode cX0_numberIn 19 = .ok (.iadd, 1) := by decide +kernel
theorem dX0_numberIn_20 : decode cX0_numberIn 20 = .ok (.invokevirtual 53, 3) := by decide +kernel
theorem dX0_numberIn_23 : decode cX0_numberIn 23 = .ok (.iadd, 1) := by decide +kernel
theorem dX0_numberIn_24 : decode cX0_numberIn 24 = .ok (.bipush 48, 2) := by decide +kernel
theorem dX0_numberIn_26 : decode cX0_numberIn 26 = .ok (.isub, 1) := by decide +kernel
theorem dX0_numberIn_27 : decode cX0_numberIn 27 = .ok (.istore_n 3, 1) := by decide +kernel
theorem dX0_numberIn_28 : decode cX0_numberIn 28 = .ok (.iinc 4 1, 3) := by decide +kernel
theorem dX0_numberIn_31 : decode cX0_numberIn 31 = .ok (.goto (-26), 3) := by decide +kernel
theorem dX0_numberIn_34 : decode cX0_numberIn 34 = .ok (.iload_n 3, 1) := by decide +kernel
theorem dX0_numberIn_35 : decode cX0_numberIn 35 = .ok (.ireturn, 1) := by decide +kernel
theorem dX1_init_0 : decode cX1_init 0 = .ok (.aload_n 0, 1) := by decide +kernel
theorem dX1_init_1 : decode cX1_init 1 = .ok (.invokespecial 3, 3) := by decide +kernel
theorem dX1_init_4 : decode cX1_init 4 = .ok (.aload_n 0, 1) := by decide +kernel
theorem dX1_init_5 : decode cX1_init 5 = .ok (.bipush 6, 2) := by decide +kernel
theorem dX1_init_7 : decode cX1_init 7 = .ok (.newarray .int, 2) := by decide +kernel
theorem dX1_init_9 : decode cX1_init 9 = .ok (.putfield 9, 3) := by decide +kernel
theorem dX1_init_12 : decode cX1_init 12 = .ok (.aload_n 0, 1) := by decide +kernel
theorem dX1_init_13 : decode cX1_init 13 = .ok (.bipush 6, 2) := by decide +kernel
theorem dX1_init_15 : decode cX1_init 15 = .ok (.newarray .int, 2) := by decide +kernel
theorem dX1_init_17 : decode cX1_init 17 = .ok (.putfield 15, 3) := by decide +kernel
theorem dX1_init_20 : decode cX1_init 20 = .ok (.aload_n 0, 1) := by decide +kernel
theorem dX1_init_21 : decode cX1_init 21 = .ok (.iconst 0, 1) := by decide +kernel
theorem dX1_init_22 : decode cX1_init 22 = .ok (.sipush 10000, 3) := by decide +kernel
theorem dX1_init_25 : decode cX1_init 25 = .ok (.bipush 50, 2) := by decide +kernel
theorem dX1_init_27 : decode cX1_init 27 = .ok (.invokevirtual 18, 3) := by decide +kernel
theorem dX1_init_30 : decode cX1_init 30 = .ok (.return_, 1) := by decide +kernel
theorem dX1_put_0 : decode cX1_put 0 = .ok (.iload_n 1, 1) := by decide +kernel
theorem dX1_put_1 : decode cX1_put 1 = .ok (.ifCond .lt 21, 3) := by decide +kernel
theorem dX1_put_4 : decode cX1_put 4 = .ok (.iload_n 1, 1) := by decide +kernel
theorem dX1_put_5 : decode cX1_put 5 = .ok (.aload_n 0, 1) := by decide +kernel
theorem dX1_put_6 : decode cX1_put 6 = .ok (.getfield 9, 3) := by decide +kernel
theorem dX1_put_9 : decode cX1_put 9 = .ok (.arraylength, 1) := by decide +kernel
theorem dX1_put_10 : decode cX1_put 10 = .ok (.if_icmp .ge 12, 3) := by decide +kernel
theorem dX1_put_13 : decode cX1_put 13 = .ok (.iload_n 1, 1) := by decide +kernel
theorem dX1_put_14 : decode cX1_put 14 = .ok (.aload_n 0, 1) := by decide +kernel
theorem dX1_put_15 : decode cX1_put 15 = .ok (.getfield 15, 3) := by decide +kernel
theorem dX1_put_18 : decode cX1_put 18 = .ok (.arraylength, 1) := by decide +kernel
theorem dX1_put_19 : decode cX1_put 19 = .ok (.if_icmp .lt 4, 3) := by decide +kernel
theorem dX1_put_22 : decode cX1_put 22 = .ok (.return_, 1) := by decide +kernel
theorem dX1_put_23 : decode cX1_put 23 = .ok (.aload_n 0, 1) := by decide +kernel
theorem dX1_put_24 : decode cX1_put 24 = .ok (.getfield 9, 3) := by decide +kernel
theorem dX1_put_27 : decode cX1_put 27 = .ok (.iload_n 1, 1) := by decide +kernel
theorem dX1_put_28 : decode cX1_put 28 = .ok (.iload_n 2, 1) := by decide +kernel
theorem dX1_put_29 : decode cX1_put 29 = .ok (.iastore, 1) := by decide +kernel
theorem dX1_put_30 : decode cX1_put 30 = .ok (.aload_n 0, 1) := by decide +kernel
theorem dX1_put_31 : decode cX1_put 31 = .ok (.getfield 15, 3) := by decide +kernel
theorem dX1_put_34 : decode cX1_put 34 = .ok (.iload_n 1, 1) := by decide +kernel
theorem dX1_put_35 : decode cX1_put 35 = .ok (.iload_n 3, 1) := by decide +kernel
theorem dX1_put_36 : decode cX1_put 36 = .ok (.iastore, 1) := by decide +kernel
theorem dX1_put_37 : decode cX1_put 37 = .ok (.aload_n 0, 1) := by decide +kernel
theorem dX1_put_38 : decode cX1_put 38 = .ok (.aload_n 0, 1) := by decide +kernel
theorem dX1_put_39 : decode cX1_put 39 = .ok (.getfield 22, 3) := by decide +kernel
theorem dX1_put_42 : decode cX1_put 42 = .ok (.iload_n 1, 1) := by decide +kernel
theorem dX1_put_43 : decode cX1_put 43 = .ok (.iconst 1, 1) := by decide +kernel
theorem dX1_put_44 : decode cX1_put 44 = .ok (.iadd, 1) := by decide +kernel
theorem dX1_put_45 : decode cX1_put 45 = .ok (.invokestatic 26, 3) := by decide +kernel
theorem dX1_put_48 : decode cX1_put 48 = .ok (.putfield 22, 3) := by decide +kernel
theorem dX1_put_51 : decode cX1_put 51 = .ok (.return_, 1) := by decide +kernel
theorem dX1_removeLast_0 : decode cX1_removeLast 0 = .ok (.aload_n 0, 1) := by decide +kernel
theorem dX1_removeLast_1 : decode cX1_removeLast 1 = .ok (.dup, 1) := by decide +kernel
theorem dX1_removeLast_2 : decode cX1_removeLast 2 = .ok (.getfield 22, 3) := by decide +kernel
theorem dX1_removeLast_5 : decode cX1_removeLast 5 = .ok (.iconst 1, 1) := by decide +kernel
theorem dX1_removeLast_6 : decode cX1_removeLast 6 = .ok (.isub, 1) := by decide +kernel
theorem dX1_removeLast_7 : decode cX1_removeLast 7 = .ok (.putfield 22, 3) := by decide +kernel
theorem dX1_removeLast_10 : decode cX1_removeLast 10 = .ok (.return_, 1) := by decide +kernel
theorem dX1_thicknessOf_0 : decode cX1_thicknessOf 0 = .ok (.iload_n 1, 1) := by decide +kernel
theorem dX1_thicknessOf_1 : decode cX1_thicknessOf 1 = .ok (.ifCond .lt 21, 3) := by decide +kernel
theorem dX1_thicknessOf_4 : decode cX1_thicknessOf 4 = .ok (.iload_n 1, 1) := by decide +kernel
theorem dX1_thicknessOf_5 : decode cX1_thicknessOf 5 = .ok (.aload_n 0, 1) := by decide +kernel
theorem dX1_thicknessOf_6 : decode cX1_thicknessOf 6 = .ok (.getfield 9, 3) := by decide +kernel
theorem dX1_thicknessOf_9 : decode cX1_thicknessOf 9 = .ok (.arraylength, 1) := by decide +kernel
theorem dX1_thicknessOf_10 : decode cX1_thicknessOf 10 = .ok (.if_icmp .ge 12, 3) := by decide +kernel
theorem dX1_thicknessOf_13 : decode cX1_thicknessOf 13 = .ok (.aload_n 0, 1) := by decide +kernel
theorem dX1_thicknessOf_14 : decode cX1_thicknessOf 14 = .ok (.getfield 9, 3) := by decide +kernel
theorem dX1_thicknessOf_17 : decode cX1_thicknessOf 17 = .ok (.iload_n 1, 1) := by decide +kernel
theorem dX1_thicknessOf_18 : decode cX1_thicknessOf 18 = .ok (.iaload, 1) := by decide +kernel
theorem dX1_thicknessOf_19 : decode cX1_thicknessOf 19 = .ok (.goto 4, 3) := by decide +kernel
theorem dX1_thicknessOf_22 : decode cX1_thicknessOf 22 = .ok (.iconst 0, 1) := by decide +kernel
theorem dX1_thicknessOf_23 : decode cX1_thicknessOf 23 = .ok (.ireturn, 1) := by decide +kernel
theorem dX1_resistanceOf_0 : decode cX1_resistanceOf 0 = .ok (.iload_n 1, 1) := by decide +kernel
theorem dX1_resistanceOf_1 : decode cX1_resistanceOf 1 = .ok (.ifCond .lt 29, 3) := by decide +kernel
theorem dX1_resistanceOf_4 : decode cX1_resistanceOf 4 = .ok (.iload_n 1, 1) := by decide +kernel
theorem dX1_resistanceOf_5 : decode cX1_resistanceOf 5 = .ok (.aload_n 0, 1) := by decide +kernel
theorem dX1_resistanceOf_6 : decode cX1_resistanceOf 6 = .ok (.getfield 22, 3) := by decide +kernel
theorem dX1_resistanceOf_9 : decode cX1_resistanceOf 9 = .ok (.if_icmp .ge 21, 3) := by decide +kernel
theorem dX1_resistanceOf_12 : decode cX1_resistanceOf 12 = .ok (.iload_n 1, 1) := by decide +kernel
theorem dX1_resistanceOf_13 : decode cX1_resistanceOf 13 = .ok (.aload_n 0, 1) := by decide +kernel
theorem dX1_resistanceOf_14 : decode cX1_resistanceOf 14 = .ok (.getfield 15, 3) := by decide +kernel
theorem dX1_resistanceOf_17 : decode cX1_resistanceOf 17 = .ok (.arraylength, 1) := by decide +kernel
theorem dX1_resistanceOf_18 : decode cX1_resistanceOf 18 = .ok (.if_icmp .ge 12, 3) := by decide +kernel
theorem dX1_resistanceOf_21 : decode cX1_resistanceOf 21 = .ok (.aload_n 0, 1) := by decide +kernel
theorem dX1_resistanceOf_22 : decode cX1_resistanceOf 22 = .ok (.getfield 15, 3) := by decide +kernel
theorem dX1_resistanceOf_25 : decode cX1_resistanceOf 25 = .ok (.iload_n 1, 1) := by decide +kernel
theorem dX1_resistanceOf_26 : decode cX1_resistanceOf 26 = .ok (.iaload, 1) := by decide +kernel
theorem dX1_resistanceOf_27 : decode cX1_resistanceOf 27 = .ok (.goto 6, 3) := by decide +kernel
theorem dX1_resistanceOf_30 : decode cX1_resistanceOf 30 = .ok (.sipush 2000, 3) := by decide +kernel
theorem dX1_resistanceOf_33 : decode cX1_resistanceOf 33 = .ok (.ireturn, 1) := by decide +kernel
theorem dX1_topOf_0 : decode cX1_topOf 0 = .ok (.iconst 0, 1) := by decide +kernel
theorem dX1_topOf_1 : decode cX1_topOf 1 = .ok (.istore_n 2, 1) := by decide +kernel
theorem dX1_topOf_2 : decode cX1_topOf 2 = .ok (.iconst 0, 1) := by decide +kernel
theorem dX1_topOf_3 : decode cX1_topOf 3 = .ok (.istore_n 3, 1) := by decide +kernel
theorem dX1_topOf_4 : decode cX1_topOf 4 = .ok (.iload_n 3, 1) := by decide +kernel
theorem dX1_topOf_5 : decode cX1_topOf 5 = .ok (.iload_n 1, 1) := by decide +kernel
theorem dX1_topOf_6 : decode cX1_topOf 6 = .ok (.if_icmp .ge 27, 3) := by decide +kernel
theorem dX1_topOf_9 : decode cX1_topOf 9 = .ok (.iload_n 3, 1) := by decide +kernel
theorem dX1_topOf_10 : decode cX1_topOf 10 = .ok (.aload_n 0, 1) := by decide +kernel
theorem dX1_topOf_11 : decode cX1_topOf 11 = .ok (.getfield 9, 3) := by decide +kernel
theorem dX1_topOf_14 : decode cX1_topOf 14 = .ok (.arraylength, 1) := by decide +kernel
theorem dX1_topOf_15 : decode cX1_topOf 15 = .ok (.if_icmp .ge 18, 3) := by decide +kernel
theorem dX1_topOf_18 : decode cX1_topOf 18 = .ok (.iload_n 2, 1) := by decide +kernel
theorem dX1_topOf_19 : decode cX1_topOf 19 = .ok (.aload_n 0, 1) := by decide +kernel
theorem dX1_topOf_20 : decode cX1_topOf 20 = .ok (.getfield 9, 3) := by decide +kernel
theorem dX1_topOf_23 : decode cX1_topOf 23 = .ok (.iload_n 3, 1) := by decide +kernel
theorem dX1_topOf_24 : decode cX1_topOf 24 = .ok (.iaload, 1) := by decide +kernel
theorem dX1_topOf_25 : decode cX1_topOf 25 = .ok (.iadd, 1) := by decide +kernel
theorem dX1_topOf_26 : decode cX1_topOf 26 = .ok (.istore_n 2, 1) := by decide +kernel
theorem dX1_topOf_27 : decode cX1_topOf 27 = .ok (.iinc 3 1, 3) := by decide +kernel
theorem dX1_topOf_30 : decode cX1_topOf 30 = .ok (.goto (-26), 3) := by decide +kernel
theorem dX1_topOf_33 : decode cX1_topOf 33 = .ok (.iload_n 2, 1) := by decide +kernel
theorem dX1_topOf_34 : decode cX1_topOf 34 = .ok (.ireturn, 1) := by decide +kernel
theorem dX1_layerAt_0 : decode cX1_layerAt 0 = .ok (.iconst 0, 1) := by decide +kernel
theorem dX1_layerAt_1 : decode cX1_layerAt 1 = .ok (.istore_n 2, 1) := by decide +kernel
theorem dX1_layerAt_2 : decode cX1_layerAt 2 = .ok (.iconst 0, 1) := by decide +kernel
theorem dX1_layerAt_3 : decode cX1_layerAt 3 = .ok (.istore_n 3, 1) := by decide +kernel
theorem dX1_layerAt_4 : decode cX1_layerAt 4 = .ok (.iload_n 3, 1) := by decide +kernel
theorem dX1_layerAt_5 : decode cX1_layerAt 5 = .ok (.aload_n 0, 1) := by decide +kernel
theorem dX1_layerAt_6 : decode cX1_layerAt 6 = .ok (.getfield 22, 3) := by decide +kernel
theorem dX1_layerAt_9 : decode cX1_layerAt 9 = .ok (.if_icmp .ge 34, 3) := by decide +kernel
theorem dX1_layerAt_12 : decode cX1_layerAt 12 = .ok (.iload_n 3, 1) := by decide +kernel
theorem dX1_layerAt_13 : decode cX1_layerAt 13 = .ok (.aload_n 0, 1) := by decide +kernel
theorem dX1_layerAt_14 : decode cX1_layerAt 14 = .ok (.getfield 9, 3) := by decide +kernel
theorem dX1_layerAt_17 : decode cX1_layerAt 17 = .ok (.arraylength, 1) := by decide +kernel
theorem dX1_layerAt_18 : decode cX1_layerAt 18 = .ok (.if_icmp .ge 25, 3) := by decide +kernel
theorem dX1_layerAt_21 : decode cX1_layerAt 21 = .ok (.iload_n 2, 1) := by decide +kernel
theorem dX1_layerAt_22 : decode cX1_layerAt 22 = .ok (.aload_n 0, 1) := by decide +kernel
theorem dX1_layerAt_23 : decode cX1_layerAt 23 = .ok (.getfield 9, 3) := by decide +kernel
theorem dX1_layerAt_26 : decode cX1_layerAt 26 = .ok (.iload_n 3, 1) := by decide +kernel
theorem dX1_layerAt_27 : decode cX1_layerAt 27 = .ok (.iaload, 1) := by decide +kernel
theorem dX1_layerAt_28 : decode cX1_layerAt 28 = .ok (.iadd, 1) := by decide +kernel
theorem dX1_layerAt_29 : decode cX1_layerAt 29 = .ok (.istore_n 2, 1) := by decide +kernel
theorem dX1_layerAt_30 : decode cX1_layerAt 30 = .ok (.iload_n 1, 1) := by decide +kernel
theorem dX1_layerAt_31 : decode cX1_layerAt 31 = .ok (.iload_n 2, 1) := by decide +kernel
theorem dX1_layerAt_32 : decode cX1_layerAt 32 = .ok (.if_icmp .ge 5, 3) := by decide +kernel
theorem dX1_layerAt_35 : decode cX1_layerAt 35 = .ok (.iload_n 3, 1) := by decide +kernel
theorem dX1_layerAt_36 : decode cX1_layerAt 36 = .ok (.ireturn, 1) := by decide +kernel
theorem dX1_layerAt_37 : decode cX1_layerAt 37 = .ok (.iinc 3 1, 3) := by decide +kernel
theorem dX1_layerAt_40 : decode cX1_layerAt 40 = .ok (.goto (-36), 3) := by decide +kernel
theorem dX1_layerAt_43 : decode cX1_layerAt 43 = .ok (.aload_n 0, 1) := by decide +kernel
theorem dX1_layerAt_44 : decode cX1_layerAt 44 = .ok (.getfield 22, 3) := by decide +kernel
theorem dX1_layerAt_47 : decode cX1_layerAt 47 = .ok (.ireturn, 1) := by decide +kernel
theorem dX1_resistanceAt_0 : decode cX1_resistanceAt 0 = .ok (.aload_n 0, 1) := by decide +kernel
theorem dX1_resistanceAt_1 : decode cX1_resistanceAt 1 = .ok (.aload_n 0, 1) := by decide +kernel
theorem dX1_resistanceAt_2 : decode cX1_resistanceAt 2 = .ok (.iload_n 1, 1) := by decide +kernel
theorem dX1_resistanceAt_3 : decode cX1_resistanceAt 3 = .ok (.invokevirtual 32, 3) := by decide +kernel
theorem dX1_resistanceAt_6 : decode cX1_resistanceAt 6 = .ok (.invokevirtual 36, 3) := by decide +kernel
theorem dX1_resistanceAt_9 : decode cX1_resistanceAt 9 = .ok (.ireturn, 1) := by decide +kernel
theorem dX1_copyFrom_0 : decode cX1_copyFrom 0 = .ok (.aload_n 1, 1) := by decide +kernel
theorem dX1_copyFrom_1 : decode cX1_copyFrom 1 = .ok (.getfield 9, 3) := by decide +kernel
theorem dX1_copyFrom_4 : decode cX1_copyFrom 4 = .ok (.iconst 0, 1) := by decide +kernel
theorem dX1_copyFrom_5 : decode cX1_copyFrom 5 = .ok (.aload_n 0, 1) := by decide +kernel
theorem dX1_copyFrom_6 : decode cX1_copyFrom 6 = .ok (.getfield 9, 3) := by decide +kernel
theorem dX1_copyFrom_9 : decode cX1_copyFrom 9 = .ok (.iconst 0, 1) := by decide +kernel
theorem dX1_copyFrom_10 : decode cX1_copyFrom 10 = .ok (.bipush 6, 2) := by decide +kernel
theorem dX1_copyFrom_12 : decode cX1_copyFrom 12 = .ok (.invokestatic 39, 3) := by decide +kernel
theorem dX1_copyFrom_15 : decode cX1_copyFrom 15 = .ok (.aload_n 1, 1) := by decide +kernel
theorem dX1_copyFrom_16 : decode cX1_copyFrom 16 = .ok (.getfield 15, 3) := by decide +kernel
theorem dX1_copyFrom_19 : decode cX1_copyFrom 19 = .ok (.iconst 0, 1) := by decide +kernel
theorem dX1_copyFrom_20 : decode cX1_copyFrom 20 = .ok (.aload_n 0, 1) := by decide +kernel
theorem dX1_copyFrom_21 : decode cX1_copyFrom 21 = .ok (.getfield 15, 3) := by decide +kernel
theorem dX1_copyFrom_24 : decode cX1_copyFrom 24 = .ok (.iconst 0, 1) := by decide +kernel
theorem dX1_copyFrom_25 : decode cX1_copyFrom 25 = .ok (.bipush 6, 2) := by decide +kernel
theorem dX1_copyFrom_27 : decode cX1_copyFrom 27 = .ok (.invokestatic 39, 3) := by decide +kernel
theorem dX1_copyFrom_30 : decode cX1_copyFrom 30 = .ok (.aload_n 0, 1) := by decide +kernel
theorem dX1_copyFrom_31 : decode cX1_copyFrom 31 = .ok (.aload_n 1, 1) := by decide +kernel
theorem dX1_copyFrom_32 : decode cX1_copyFrom 32 = .ok (.getfield 22, 3) := by decide +kernel
theorem dX1_copyFrom_35 : decode cX1_copyFrom 35 = .ok (.putfield 22, 3) := by decide +kernel
theorem dX1_copyFrom_38 : decode cX1_copyFrom 38 = .ok (.return_, 1) := by decide +kernel
theorem dX2_init_0 : decode cX2_init 0 = .ok (.aload_n 0, 1) := by decide +kernel
theorem dX2_init_1 : decode cX2_init 1 = .ok (.invokespecial 3, 3) := by decide +kernel
theorem dX2_init_4 : decode cX2_init 4 = .ok (.aload_n 0, 1) := by decide +kernel
theorem dX2_init_5 : decode cX2_init 5 = .ok (.iconst 4, 1) := by decide +kernel
theorem dX2_init_6 : decode cX2_init 6 = .ok (.anewarray 9, 3) := by decide +kernel
theorem dX2_init_9 : decode cX2_init 9 = .ok (.putfield 11, 3) := by decide +kernel
theorem dX2_init_12 : decode cX2_init 12 = .ok (.iconst 0, 1) := by decide +kernel
theorem dX2_init_13 : decode cX2_init 13 = .ok (.istore_n 1, 1) := by decide +kernel
theorem dX2_init_14 : decode cX2_init 14 = .ok (.iload_n 1, 1) := by decide +kernel
theorem dX2_init_15 : decode cX2_init 15 = .ok (.aload_n 0, 1) := by decide +kernel
theorem dX2_init_16 : decode cX2_init 16 = .ok (.getfield 11, 3) := by decide +kernel
theorem dX2_init_19 : decode cX2_init 19 = .ok (.arraylength, 1) := by decide +kernel
theorem dX2_init_20 : decode cX2_init 20 = .ok (.if_icmp .ge 22, 3) := by decide +kernel
theorem dX2_init_23 : decode cX2_init 23 = .ok (.aload_n 0, 1) := by decide +kernel
theorem dX2_init_24 : decode cX2_init 24 = .ok (.getfield 11, 3) := by decide +kernel
theorem dX2_init_27 : decode cX2_init 27 = .ok (.iload_n 1, 1) := by decide +kernel
theorem dX2_init_28 : decode cX2_init 28 = .ok (.new 9, 3) := by decide +kernel
theorem dX2_init_31 : decode cX2_init 31 = .ok (.dup, 1) := by decide +kernel
theorem dX2_init_32 : decode cX2_init 32 = .ok (.invokespecial 17, 3) := by decide +kernel
theorem dX2_init_35 : decode cX2_init 35 = .ok (.aastore, 1) := by decide +kernel
theorem dX2_init_36 : decode cX2_init 36 = .ok (.iinc 1 1, 3) := by decide +kernel
theorem dX2_init_39 : decode cX2_init 39 = .ok (.goto (-25), 3) := by decide +kernel
theorem dX2_init_42 : decode cX2_init 42 = .ok (.return_, 1) := by decide +kernel
theorem dX2_remember_0 : decode cX2_remember 0 = .ok (.aload_n 0, 1) := by decide +kernel
theorem dX2_remember_1 : decode cX2_remember 1 = .ok (.aload_n 0, 1) := by decide +kernel
theorem dX2_remember_2 : decode cX2_remember 2 = .ok (.getfield 18, 3) := by decide +kernel
theorem dX2_remember_5 : decode cX2_remember 5 = .ok (.invokevirtual 22, 3) := by decide +kernel
theorem dX2_remember_8 : decode cX2_remember 8 = .ok (.astore_n 2, 1) := by decide +kernel
theorem dX2_remember_9 : decode cX2_remember 9 = .ok (.aload_n 2, 1) := by decide +kernel
theorem dX2_remember_10 : decode cX2_remember 10 = .ok (.ifnull 34, 3) := by decide +kernel
theorem dX2_remember_13 : decode cX2_remember 13 = .ok (.aload_n 2, 1) := by decide +kernel
theorem dX2_remember_14 : decode cX2_remember 14 = .ok (.aload_n 1, 1) := by decide +kernel
theorem dX2_remember_15 : decode cX2_remember 15 = .ok (.invokevirtual 26, 3) := by decide +kernel
theorem dX2_remember_18 : decode cX2_remember 18 = .ok (.aload_n 0, 1) := by decide +kernel
theorem dX2_remember_19 : decode cX2_remember 19 = .ok (.aload_n 0, 1) := by decide +kernel
theorem dX2_remember_20 : decode cX2_remember 20 = .ok (.getfield 18, 3) := by decide +kernel
theorem dX2_remember_23 : decode cX2_remember 23 = .ok (.iconst 1, 1) := by decide +kernel
theorem dX2_remember_24 : decode cX2_remember 24 = .ok (.iadd, 1) := by decide +kernel
theorem dX2_remember_25 : decode cX2_remember 25 = .ok (.iconst 4, 1) := by decide +kernel
theorem dX2_remember_26 : decode cX2_remember 26 = .ok (.irem, 1) := by decide +kernel
theorem dX2_remember_27 : decode cX2_remember 27 = .ok (.putfield 18, 3) := by decide +kernel
theorem dX2_remember_30 : decode cX2_remember 30 = .ok (.aload_n 0, 1) := by decide +kernel
theorem dX2_remember_31 : decode cX2_remember 31 = .ok (.iconst 4, 1) := by decide +kernel
theorem dX2_remember_32 : decode cX2_remember 32 = .ok (.aload_n 0, 1) := by decide +kernel
theorem dX2_remember_33 : decode cX2_remember 33 = .ok (.getfield 30, 3) := by decide +kernel
theorem dX2_remember_36 : decode cX2_remember 36 = .ok (.iconst 1, 1) := by decide +kernel
theorem dX2_remember_37 : decode cX2_remember 37 = .ok (.iadd, 1) := by decide +kernel
theorem dX2_remember_38 : decode cX2_remember 38 = .ok (.invokestatic 33, 3) := by decide +kernel
theorem dX2_remember_41 : decode cX2_remember 41 = .ok (.putfield 30, 3) := by decide +kernel
theorem dX2_remember_44 : decode cX2_remember 44 = .ok (.return_, 1) := by decide +kernel
theorem dX2_restore_0 : decode cX2_restore 0 = .ok (.aload_n 0, 1) := by decide +kernel
theorem dX2_restore_1 : decode cX2_restore 1 = .ok (.getfield 18, 3) := by decide +kernel
theorem dX2_restore_4 : decode cX2_restore 4 = .ok (.iconst 4, 1) := by decide +kernel
theorem dX2_restore_5 : decode cX2_restore 5 = .ok (.iadd, 1) := by decide +kernel
theorem dX2_restore_6 : decode cX2_restore 6 = .ok (.iconst 1, 1) := by decide +kernel
theorem dX2_restore_7 : decode cX2_restore 7 = .ok (.isub, 1) := by decide +kernel
theorem dX2_restore_8 : decode cX2_restore 8 = .ok (.iconst 4, 1) := by decide +kernel
theorem dX2_restore_9 : decode cX2_restore 9 = .ok (.irem, 1) := by decide +kernel
theorem dX2_restore_10 : decode cX2_restore 10 = .ok (.istore_n 2, 1) := by decide +kernel
theorem dX2_restore_11 : decode cX2_restore 11 = .ok (.aload_n 0, 1) := by decide +kernel
theorem dX2_restore_12 : decode cX2_restore 12 = .ok (.iload_n 2, 1) := by decide +kernel
theorem dX2_restore_13 : decode cX2_restore 13 = .ok (.invokevirtual 22, 3) := by decide +kernel
theorem dX2_restore_16 : decode cX2_restore 16 = .ok (.astore_n 3, 1) := by decide +kernel
theorem dX2_restore_17 : decode cX2_restore 17 = .ok (.aload_n 3, 1) := by decide +kernel
theorem dX2_restore_18 : decode cX2_restore 18 = .ok (.ifnull 30, 3) := by decide +kernel
theorem dX2_restore_21 : decode cX2_restore 21 = .ok (.aload_n 0, 1) := by decide +kernel
theorem dX2_restore_22 : decode cX2_restore 22 = .ok (.getfield 30, 3) := by decide +kernel
theorem dX2_restore_25 : decode cX2_restore 25 = .ok (.ifCond .le 23, 3) := by decide +kernel
theorem dX2_restore_28 : decode cX2_restore 28 = .ok (.aload_n 1, 1) := by decide +kernel
theorem dX2_restore_29 : decode cX2_restore 29 = .ok (.aload_n 3, 1) := by decide +kernel
theorem dX2_restore_30 : decode cX2_restore 30 = .ok (.invokevirtual 26, 3) := by decide +kernel
theorem dX2_restore_33 : decode cX2_restore 33 = .ok (.aload_n 0, 1) := by decide +kernel
theorem dX2_restore_34 : decode cX2_restore 34 = .ok (.iload_n 2, 1) := by decide +kernel
theorem dX2_restore_35 : decode cX2_restore 35 = .ok (.putfield 18, 3) := by decide +kernel
theorem dX2_restore_38 : decode cX2_restore 38 = .ok (.aload_n 0, 1) := by decide +kernel
theorem dX2_restore_39 : decode cX2_restore 39 = .ok (.dup, 1) := by decide +kernel
theorem dX2_restore_40 : decode cX2_restore 40 = .ok (.getfield 30, 3) := by decide +kernel
theorem dX2_restore_43 : decode cX2_restore 43 = .ok (.iconst 1, 1) := by decide +kernel
theorem dX2_restore_44 : decode cX2_restore 44 = .ok (.isub, 1) := by decide +kernel
theorem dX2_restore_45 : decode cX2_restore 45 = .ok (.putfield 30, 3) := by decide +kernel
theorem dX2_restore_48 : decode cX2_restore 48 = .ok (.return_, 1) := by decide +kernel
theorem dX2_roomAt_0 : decode cX2_roomAt 0 = .ok (.iload_n 1, 1) := by decide +kernel
theorem dX2_roomAt_1 : decode cX2_roomAt 1 = .ok (.ifCond .lt 21, 3) := by decide +kernel
theorem dX2_roomAt_4 : decode cX2_roomAt 4 = .ok (.iload_n 1, 1) := by decide +kernel
theorem dX2_roomAt_5 : decode cX2_roomAt 5 = .ok (.aload_n 0, 1) := by decide +kernel
theorem dX2_roomAt_6 : decode cX2_roomAt 6 = .ok (.getfield 11, 3) := by decide +kernel
theorem dX2_roomAt_9 : decode cX2_roomAt 9 = .ok (.arraylength, 1) := by decide +kernel
theorem dX2_roomAt_10 : decode cX2_roomAt 10 = .ok (.if_icmp .ge 12, 3) := by decide +kernel
theorem dX2_roomAt_13 : decode cX2_roomAt 13 = .ok (.aload_n 0, 1) := by decide +kernel
theorem dX2_roomAt_14 : decode cX2_roomAt 14 = .ok (.getfield 11, 3) := by decide +kernel
theorem dX2_roomAt_17 : decode cX2_roomAt 17 = .ok (.iload_n 1, 1) := by decide +kernel
theorem dX2_roomAt_18 : decode cX2_roomAt 18 = .ok (.aaload, 1) := by decide +kernel
theorem dX2_roomAt_19 : decode cX2_roomAt 19 = .ok (.goto 4, 3) := by decide +kernel
theorem dX2_roomAt_22 : decode cX2_roomAt 22 = .ok (.aconst_null, 1) := by decide +kernel
theorem dX2_roomAt_23 : decode cX2_roomAt 23 = .ok (.areturn, 1) := by decide +kernel
theorem dX3_init_0 : decode cX3_init 0 = .ok (.aload_n 0, 1) := by decide +kernel
theorem dX3_init_1 : decode cX3_init 1 = .ok (.invokespecial 3, 3) := by decide +kernel
theorem dX3_init_4 : decode cX3_init 4 = .ok (.aload_n 0, 1) := by decide +kernel
theorem dX3_init_5 : decode cX3_init 5 = .ok (.bipush 10, 2) := by decide +kernel
theorem dX3_init_7 : decode cX3_init 7 = .ok (.newarray .int, 2) := by decide +kernel
theorem dX3_init_9 : decode cX3_init 9 = .ok (.putfield 9, 3) := by decide +kernel
theorem dX3_init_12 : decode cX3_init 12 = .ok (.aload_n 0, 1) := by decide +kernel
theorem dX3_init_13 : decode cX3_init 13 = .ok (.bipush 10, 2) := by decide +kernel
theorem dX3_init_15 : decode cX3_init 15 = .ok (.newarray .int, 2) := by decide +kernel
theorem dX3_init_17 : decode cX3_init 17 = .ok (.putfield 15, 3) := by decide +kernel
theorem dX3_init_20 : decode cX3_init 20 = .ok (.aload_n 0, 1) := by decide +kernel
theorem dX3_init_21 : decode cX3_init 21 = .ok (.iconst 5, 1) := by decide +kernel
theorem dX3_init_22 : decode cX3_init 22 = .ok (.newarray .int, 2) := by decide +kernel
theorem dX3_init_24 : decode cX3_init 24 = .ok (.putfield 18, 3) := by decide +kernel
theorem dX3_init_27 : decode cX3_init 27 = .ok (.aload_n 0, 1) := by decide +kernel
theorem dX3_init_28 : decode cX3_init 28 = .ok (.iconst 5, 1) := by decide +kernel
theorem dX3_init_29 : decode cX3_init 29 = .ok (.newarray .int, 2) := by decide +kernel
theorem dX3_init_31 : decode cX3_init 31 = .ok (.putfield 21, 3) := by decide +kernel
theorem dX3_init_34 : decode cX3_init 34 = .ok (.return_, 1) := by decide +kernel
theorem dX3_search_0 : decode cX3_search 0 = .ok (.aload_n 0, 1) := by decide +kernel
theorem dX3_search_1 : decode cX3_search 1 = .ok (.aload_n 1, 1) := by decide +kernel
theorem dX3_search_2 : decode cX3_search 2 = .ok (.invokevirtual 24, 3) := by decide +kernel
theorem dX3_search_5 : decode cX3_search 5 = .ok (.aload_n 1, 1) := by decide +kernel
theorem dX3_search_6 : decode cX3_search 6 = .ok (.iload_n 2, 1) := by decide +kernel
theorem dX3_search_7 : decode cX3_search 7 = .ok (.invokevirtual 28, 3) := by decide +kernel
theorem dX3_search_10 : decode cX3_search 10 = .ok (.istore 4, 2) := by decide +kernel
theorem dX3_search_12 : decode cX3_search 12 = .ok (.aload_n 0, 1) := by decide +kernel
theorem dX3_search_13 : decode cX3_search 13 = .ok (.ldc 36, 2) := by decide +kernel
theorem dX3_search_15 : decode cX3_search 15 = .ok (.putfield 37, 3) := by decide +kernel
theorem dX3_search_18 : decode cX3_search 18 = .ok (.iconst 1, 1) := by decide +kernel
theorem dX3_search_19 : decode cX3_search 19 = .ok (.istore 5, 2) := by decide +kernel
theorem dX3_search_21 : decode cX3_search 21 = .ok (.iconst 0, 1) := by decide +kernel
theorem dX3_search_22 : decode cX3_search 22 = .ok (.istore 6, 2) := by decide +kernel
theorem dX3_search_24 : decode cX3_search 24 = .ok (.iload 6, 2) := by decide +kernel
theorem dX3_search_26 : decode cX3_search 26 = .ok (.bipush 120, 2) := by decide +kernel
theorem dX3_search_28 : decode cX3_search 28 = .ok (.if_icmp .ge 74, 3) := by decide +kernel
theorem dX3_search_31 : decode cX3_search 31 = .ok (.iload 5, 2) := by decide +kernel
theorem dX3_search_33 : decode cX3_search 33 = .ok (.ifCond .eq 69, 3) := by decide +kernel
theorem dX3_search_36 : decode cX3_search 36 = .ok (.aload_n 0, 1) := by decide +kernel
theorem dX3_search_37 : decode cX3_search 37 = .ok (.aload_n 1, 1) := by decide +kernel
theorem dX3_search_38 : decode cX3_search 38 = .ok (.iload 4, 2) := by decide +kernel
theorem dX3_search_40 : decode cX3_search 40 = .ok (.iload_n 3, 1) := by decide +kernel
theorem dX3_search_41 : decode cX3_search 41 = .ok (.invokevirtual 41, 3) := by decide +kernel
theorem dX3_search_44 : decode cX3_search 44 = .ok (.istore 7, 2) := by decide +kernel
theorem dX3_search_46 : decode cX3_search 46 = .ok (.iload 7, 2) := by decide +kernel
theorem dX3_search_48 : decode cX3_search 48 = .ok (.aload_n 0, 1) := by decide +kernel
theorem dX3_search_49 : decode cX3_search 49 = .ok (.getfield 37, 3) := by decide +kernel
theorem dX3_search_52 : decode cX3_search 52 = .ok (.if_icmp .ge 23, 3) := by decide +kernel
theorem dX3_search_55 : decode cX3_search 55 = .ok (.aload_n 0, 1) := by decide +kernel
theorem dX3_search_56 : decode cX3_search 56 = .ok (.iload 7, 2) := by decide +kernel
theorem dX3_search_58 : decode cX3_search 58 = .ok (.putfield 37, 3) := by decide +kernel
theorem dX3_search_61 : decode cX3_search 61 = .ok (.aload_n 0, 1) := by decide +kernel
theorem dX3_search_62 : decode cX3_search 62 = .ok (.getfield 18, 3) := by decide +kernel
theorem dX3_search_65 : decode cX3_search 65 = .ok (.iconst 0, 1) := by decide +kernel
theorem dX3_search_66 : decode cX3_search 66 = .ok (.aload_n 0, 1) := by decide +kernel
theorem dX3_search_67 : decode cX3_search 67 = .ok (.getfield 21, 3) := by decide +kernel
theorem dX3_search_70 : decode cX3_search 70 = .ok (.iconst 0, 1) := by decide +kernel
theorem dX3_search_71 : decode cX3_search 71 = .ok (.iconst 5, 1) := by decide +kernel
theorem dX3_search_72 : decode cX3_search 72 = .ok (.invokestatic 45, 3) := by decide +kernel
theorem dX3_search_75 : decode cX3_search 75 = .ok (.aload_n 0, 1) := by decide +kernel
theorem dX3_search_76 : decode cX3_search 76 = .ok (.getfield 37, 3) := by decide +kernel
theorem dX3_search_79 : decode cX3_search 79 = .ok (.ifCond .le 14, 3) := by decide +kernel
theorem dX3_search_82 : decode cX3_search 82 = .ok (.aload_n 0, 1) := by decide +kernel
theorem dX3_search_83 : decode cX3_search 83 = .ok (.invokevirtual 51, 3) := by decide +kernel
theorem dX3_search_86 : decode cX3_search 86 = .ok (.ifCond .eq 7, 3) := by decide +kernel
theorem dX3_search_89 : decode cX3_search 89 = .ok (.iconst 1, 1) := by decide +kernel
theorem dX3_search_90 : decode cX3_search 90 = .ok (.goto 4, 3) := by decide +kernel
theorem dX3_search_93 : decode cX3_search 93 = .ok (.iconst 0, 1) := by decide +kernel
theorem dX3_search_94 : decode cX3_search 94 = .ok (.istore 5, 2) := by decide +kernel
theorem dX3_search_96 : decode cX3_search 96 = .ok (.iinc 6 1, 3) := by decide +kernel
theorem dX3_search_99 : decode cX3_search 99 = .ok (.goto (-75), 3) := by decide +kernel
theorem dX3_search_102 : decode cX3_search 102 = .ok (.return_, 1) := by decide +kernel
theorem dX3_bestAt_0 : decode cX3_bestAt 0 = .ok (.iload_n 1, 1) := by decide +kernel
theorem dX3_bestAt_1 : decode cX3_bestAt 1 = .ok (.ifCond .lt 29, 3) := by decide +kernel
theorem dX3_bestAt_4 : decode cX3_bestAt 4 = .ok (.iload_n 1, 1) := by decide +kernel
theorem dX3_bestAt_5 : decode cX3_bestAt 5 = .ok (.aload_n 0, 1) := by decide +kernel
theorem dX3_bestAt_6 : decode cX3_bestAt 6 = .ok (.getfield 55, 3) := by decide +kernel
theorem dX3_bestAt_9 : decode cX3_bestAt 9 = .ok (.if_icmp .ge 21, 3) := by decide +kernel
theorem dX3_bestAt_12 : decode cX3_bestAt 12 = .ok (.iload_n 1, 1) := by decide +kernel
theorem dX3_bestAt_13 : decode cX3_bestAt 13 = .ok (.aload_n 0, 1) := by decide +kernel
theorem dX3_bestAt_14 : decode cX3_bestAt 14 = .ok (.getfield 21, 3) := by decide +kernel
theorem dX3_bestAt_17 : decode cX3_bestAt 17 = .ok (.arraylength, 1) := by decide +kernel
theorem dX3_bestAt_18 : decode cX3_bestAt 18 = .ok (.if_icmp .ge 12, 3) := by decide +kernel
theorem dX3_bestAt_21 : decode cX3_bestAt 21 = .ok (.aload_n 0, 1) := by decide +kernel
theorem dX3_bestAt_22 : decode cX3_bestAt 22 = .ok (.getfield 21, 3) := by decide +kernel
theorem dX3_bestAt_25 : decode cX3_bestAt 25 = .ok (.iload_n 1, 1) := by decide +kernel
theorem dX3_bestAt_26 : decode cX3_bestAt 26 = .ok (.iaload, 1) := by decide +kernel
theorem dX3_bestAt_27 : decode cX3_bestAt 27 = .ok (.goto 5, 3) := by decide +kernel
theorem dX3_bestAt_30 : decode cX3_bestAt 30 = .ok (.bipush (-4), 2) := by decide +kernel
theorem dX3_bestAt_32 : decode cX3_bestAt 32 = .ok (.ireturn, 1) := by decide +kernel
theorem dX3_collect_0 : decode cX3_collect 0 = .ok (.aload_n 0, 1) := by decide +kernel
theorem dX3_collect_1 : decode cX3_collect 1 = .ok (.iconst 0, 1) := by decide +kernel
theorem dX3_collect_2 : decode cX3_collect 2 = .ok (.putfield 55, 3) := by decide +kernel
theorem dX3_collect_5 : decode cX3_collect 5 = .ok (.iconst 0, 1) := by decide +kernel
theorem dX3_collect_6 : decode cX3_collect 6 = .ok (.istore_n 2, 1) := by decide +kernel
theorem dX3_collect_7 : decode cX3_collect 7 = .ok (.iload_n 2, 1) := by decide +kernel
theorem dX3_collect_8 : decode cX3_collect 8 = .ok (.aload_n 1, 1) := by decide +kernel
theorem dX3_collect_9 : decode cX3_collect 9 = .ok (.getfield 58, 3) := by decide +kernel
theorem dX3_collect_12 : decode cX3_collect 12 = .ok (.if_icmp .ge 58, 3) := by decide +kernel
theorem dX3_collect_15 : decode cX3_collect 15 = .ok (.aload_n 1, 1) := by decide +kernel
theorem dX3_collect_16 : decode cX3_collect 16 = .ok (.iload_n 2, 1) := by decide +kernel
theorem dX3_collect_17 : decode cX3_collect 17 = .ok (.invokevirtual 61, 3) := by decide +kernel
theorem dX3_collect_20 : decode cX3_collect 20 = .ok (.astore_n 3, 1) := by decide +kernel
theorem dX3_collect_21 : decode cX3_collect 21 = .ok (.aload_n 3, 1) := by decide +kernel
theorem dX3_collect_22 : decode cX3_collect 22 = .ok (.ifnull 42, 3) := by decide +kernel
theorem dX3_collect_25 : decode cX3_collect 25 = .ok (.aload_n 3, 1) := by decide +kernel
theorem dX3_collect_26 : decode cX3_collect 26 = .ok (.getfield 65, 3) := by decide +kernel
theorem dX3_collect_29 : decode cX3_collect 29 = .ok (.ifCond .ne 35, 3) := by decide +kernel
theorem dX3_collect_32 : decode cX3_collect 32 = .ok (.aload_n 0, 1) := by decide +kernel
theorem dX3_collect_33 : decode cX3_collect 33 = .ok (.getfield 55, 3) := by decide +kernel
theorem dX3_collect_36 : decode cX3_collect 36 = .ok (.aload_n 0, 1) := by decide +kernel
theorem dX3_collect_37 : decode cX3_collect 37 = .ok (.getfield 18, 3) := by decide +kernel
theorem dX3_collect_40 : decode cX3_collect 40 = .ok (.arraylength, 1) := by decide +kernel
theorem dX3_collect_41 : decode cX3_collect 41 = .ok (.if_icmp .ge 23, 3) := by decide +kernel
theorem dX3_collect_44 : decode cX3_collect 44 = .ok (.aload_n 0, 1) := by decide +kernel
theorem dX3_collect_45 : decode cX3_collect 45 = .ok (.getfield 18, 3) := by decide +kernel
theorem dX3_collect_48 : decode cX3_collect 48 = .ok (.aload_n 0, 1) := by decide +kernel
theorem dX3_collect_49 : decode cX3_collect 49 = .ok (.getfield 55, 3) := by decide +kernel
theorem dX3_collect_52 : decode cX3_collect 52 = .ok (.iload_n 2, 1) := by decide +kernel
theorem dX3_collect_53 : decode cX3_collect 53 = .ok (.iastore, 1) := by decide +kernel
theorem dX3_collect_54 : decode cX3_collect 54 = .ok (.aload_n 0, 1) := by decide +kernel
theorem dX3_collect_55 : decode cX3_collect 55 = .ok (.dup, 1) := by decide +kernel
theorem dX3_collect_56 : decode cX3_collect 56 = .ok (.getfield 55, 3) := by decide +kernel
theorem dX3_collect_59 : decode cX3_collect 59 = .ok (.iconst 1, 1) := by decide +kernel
theorem dX3_collect_60 : decode cX3_collect 60 = .ok (.iadd, 1) := by decide +kernel
theorem dX3_collect_61 : decode cX3_collect 61 = .ok (.putfield 55, 3) := by decide +kernel
theorem dX3_collect_64 : decode cX3_collect 64 = .ok (.iinc 2 1, 3) := by decide +kernel
theorem dX3_collect_67 : decode cX3_collect 67 = .ok (.goto (-60), 3) := by decide +kernel
theorem dX3_collect_70 : decode cX3_collect 70 = .ok (.return_, 1) := by decide +kernel
theorem dX3_liftsOfTried_0 : decode cX3_liftsOfTried 0 = .ok (.iconst 0, 1) := by decide +kernel
theorem dX3_liftsOfTried_1 : decode cX3_liftsOfTried 1 = .ok (.istore 4, 2) := by decide +kernel
theorem dX3_liftsOfTried_3 : decode cX3_liftsOfTried 3 = .ok (.iload 4, 2) := by decide +kernel
theorem dX3_liftsOfTried_5 : decode cX3_liftsOfTried 5 = .ok (.aload_n 1, 1) := by decide +kernel
theorem dX3_liftsOfTried_6 : decode cX3_liftsOfTried 6 = .ok (.getfield 58, 3) := by decide +kernel
theorem dX3_liftsOfTried_9 : decode cX3_liftsOfTried 9 = .ok (.if_icmp .ge 48, 3) := by decide +kernel
theorem dX3_liftsOfTried_12 : decode cX3_liftsOfTried 12 = .ok (.iload 4, 2) := by decide +kernel
theorem dX3_liftsOfTried_14 : decode cX3_liftsOfTried 14 = .ok (.aload_n 0, 1) := by decide +kernel
theorem dX3_liftsOfTried_15 : decode cX3_liftsOfTried 15 = .ok (.getfield 9, 3) := by decide +kernel
theorem dX3_liftsOfTried_18 : decode cX3_liftsOfTried 18 = .ok (.arraylength, 1) := by decide +kernel
theorem dX3_liftsOfTried_19 : decode cX3_liftsOfTried 19 = .ok (.if_icmp .ge 38, 3) := by decide +kernel
theorem dX3_liftsOfTried_22 : decode cX3_liftsOfTried 22 = .ok (.aload_n 1, 1) := by decide +kernel
theorem dX3_liftsOfTried_23 : decode cX3_liftsOfTried 23 = .ok (.iload 4, 2) := by decide +kernel
theorem dX3_liftsOfTried_25 : decode cX3_liftsOfTried 25 = .ok (.invokevirtual 61, 3) := by decide +kernel
theorem dX3_liftsOfTried_28 : decode cX3_liftsOfTried 28 = .ok (.astore 5, 2) := by decide +kernel
theorem dX3_liftsOfTried_30 : decode cX3_liftsOfTried 30 = .ok (.aload_n 0, 1) := by decide +kernel
theorem dX3_liftsOfTried_31 : decode cX3_liftsOfTried 31 = .ok (.getfield 9, 3) := by decide +kernel
theorem dX3_liftsOfTried_34 : decode cX3_liftsOfTried 34 = .ok (.iload 4, 2) := by decide +kernel
theorem dX3_liftsOfTried_36 : decode cX3_liftsOfTried 36 = .ok (.aload 5, 2) := by decide +kernel
theorem dX3_liftsOfTried_38 : decode cX3_liftsOfTried 38 = .ok (.ifnonnull 7, 3) := by decide +kernel
theorem dX3_liftsOfTried_41 : decode cX3_liftsOfTried 41 = .ok (.iconst 0, 1) := by decide +kernel
theorem dX3_liftsOfTried_42 : decode cX3_liftsOfTried 42 = .ok (.goto 8, 3) := by decide +kernel
theorem dX3_liftsOfTried_45 : decode cX3_liftsOfTried 45 = .ok (.aload 5, 2) := by decide +kernel
theorem dX3_liftsOfTried_47 : decode cX3_liftsOfTried 47 = .ok (.getfield 70, 3) := by decide +kernel
theorem dX3_liftsOfTried_50 : decode cX3_liftsOfTried 50 = .ok (.iastore, 1) := by decide +kernel
theorem dX3_liftsOfTried_51 : decode cX3_liftsOfTried 51 = .ok (.iinc 4 1, 3) := by decide +kernel
theorem dX3_liftsOfTried_54 : decode cX3_liftsOfTried 54 = .ok (.goto (-51), 3) := by decide +kernel
theorem dX3_liftsOfTried_57 : decode cX3_liftsOfTried 57 = .ok (.iconst 0, 1) := by decide +kernel
theorem dX3_liftsOfTried_58 : decode cX3_liftsOfTried 58 = .ok (.istore 4, 2) := by decide +kernel
theorem dX3_liftsOfTried_60 : decode cX3_liftsOfTried 60 = .ok (.iconst 0, 1) := by decide +kernel
theorem dX3_liftsOfTried_61 : decode cX3_liftsOfTried 61 = .ok (.istore 5, 2) := by decide +kernel
theorem dX3_liftsOfTried_63 : decode cX3_liftsOfTried 63 = .ok (.iload 5, 2) := by decide +kernel
theorem dX3_liftsOfTried_65 : decode cX3_liftsOfTried 65 = .ok (.aload_n 0, 1) := by decide +kernel
theorem dX3_liftsOfTried_66 : decode cX3_liftsOfTried 66 = .ok (.getfield 55, 3) := by decide +kernel
theorem dX3_liftsOfTried_69 : decode cX3_liftsOfTried 69 = .ok (.if_icmp .ge 36, 3) := by decide +kernel
theorem dX3_liftsOfTried_72 : decode cX3_liftsOfTried 72 = .ok (.iload 4, 2) := by decide +kernel
theorem dX3_liftsOfTried_74 : decode cX3_liftsOfTried 74 = .ok (.aload_n 0, 1) := by decide +kernel
theorem dX3_liftsOfTried_75 : decode cX3_liftsOfTried 75 = .ok (.getfield 37, 3) := by decide +kernel
theorem dX3_liftsOfTried_78 : decode cX3_liftsOfTried 78 = .ok (.if_icmp .ge 27, 3) := by decide +kernel
theorem dX3_liftsOfTried_81 : decode cX3_liftsOfTried 81 = .ok (.iload 4, 2) := by decide +kernel
theorem dX3_liftsOfTried_83 : decode cX3_liftsOfTried 83 = .ok (.aload_n 0, 1) := by decide +kernel
theorem dX3_liftsOfTried_84 : decode cX3_liftsOfTried 84 = .ok (.aload_n 1, 1) := by decide +kernel
theorem dX3_liftsOfTried_85 : decode cX3_liftsOfTried 85 = .ok (.aload_n 0, 1) := by decide +kernel
theorem dX3_liftsOfTried_86 : decode cX3_liftsOfTried 86 = .ok (.iload 5, 2) := by decide +kernel
theorem dX3_liftsOfTried_88 : decode cX3_liftsOfTried 88 = .ok (.invokevirtual 73, 3) := by decide +kernel
theorem dX3_liftsOfTried_91 : decode cX3_liftsOfTried 91 = .ok (.iload_n 2, 1) := by decide +kernel
theorem dX3_liftsOfTried_92 : decode cX3_liftsOfTried 92 = .ok (.iload_n 3, 1) := by decide +kernel
theorem dX3_liftsOfTried_93 : decode cX3_liftsOfTried 93 = .ok (.invokevirtual 76, 3) := by decide +kernel
theorem dX3_liftsOfTried_96 : decode cX3_liftsOfTried 96 = .ok (.iadd, 1) := by decide +kernel
theorem dX3_liftsOfTried_97 : decode cX3_liftsOfTried 97 = .ok (.istore 4, 2) := by decide +kernel
theorem dX3_liftsOfTried_99 : decode cX3_liftsOfTried 99 = .ok (.iinc 5 1, 3) := by decide +kernel
theorem dX3_liftsOfTried_102 : decode cX3_liftsOfTried 102 = .ok (.goto (-39), 3) := by decide +kernel
theorem dX3_liftsOfTried_105 : decode cX3_liftsOfTried 105 = .ok (.iload 4, 2) := by decide +kernel
theorem dX3_liftsOfTried_107 : decode cX3_liftsOfTried 107 = .ok (.ireturn, 1) := by decide +kernel
theorem dX3_liftsOfPile_0 : decode cX3_liftsOfPile 0 = .ok (.aload_n 1, 1) := by decide +kernel
theorem dX3_liftsOfPile_1 : decode cX3_liftsOfPile 1 = .ok (.iload_n 2, 1) := by decide +kernel
theorem dX3_liftsOfPile_2 : decode cX3_liftsOfPile 2 = .ok (.invokevirtual 61, 3) := by decide +kernel
theorem dX3_liftsOfPile_5 : decode cX3_liftsOfPile 5 = .ok (.astore 5, 2) := by decide +kernel
theorem dX3_liftsOfPile_7 : decode cX3_liftsOfPile 7 = .ok (.aload 5, 2) := by decide +kernel
theorem dX3_liftsOfPile_9 : decode cX3_liftsOfPile 9 = .ok (.ifnull 16, 3) := by decide +kernel
theorem dX3_liftsOfPile_12 : decode cX3_liftsOfPile 12 = .ok (.iload_n 2, 1) := by decide +kernel
theorem dX3_liftsOfPile_13 : decode cX3_liftsOfPile 13 = .ok (.ifCond .lt 12, 3) := by decide +kernel
theorem dX3_liftsOfPile_16 : decode cX3_liftsOfPile 16 = .ok (.iload_n 2, 1) := by decide +kernel
theorem dX3_liftsOfPile_17 : decode cX3_liftsOfPile 17 = .ok (.aload_n 0, 1) := by decide +kernel
theorem dX3_liftsOfPile_18 : decode cX3_liftsOfPile 18 = .ok (.getfield 9, 3) := by decide +kernel
theorem dX3_liftsOfPile_21 : decode cX3_liftsOfPile 21 = .ok (.arraylength, 1) := by decide +kernel
theorem dX3_liftsOfPile_22 : decode cX3_liftsOfPile 22 = .ok (.if_icmp .lt 5, 3) := by decide +kernel
theorem dX3_liftsOfPile_25 : decode cX3_liftsOfPile 25 = .ok (.iconst 0, 1) := by decide +kernel
theorem dX3_liftsOfPile_26 : decode cX3_liftsOfPile 26 = .ok (.ireturn, 1) := by decide +kernel
theorem dX3_liftsOfPile_27 : decode cX3_liftsOfPile 27 = .ok (.aload_n 0, 1) := by decide +kernel
theorem dX3_liftsOfPile_28 : decode cX3_liftsOfPile 28 = .ok (.aload_n 1, 1) := by decide +kernel
theorem dX3_liftsOfPile_29 : decode cX3_liftsOfPile 29 = .ok (.aload 5, 2) := by decide +kernel
theorem dX3_liftsOfPile_31 : decode cX3_liftsOfPile 31 = .ok (.invokevirtual 80, 3) := by decide +kernel
theorem dX3_liftsOfPile_34 : decode cX3_liftsOfPile 34 = .ok (.iconst 0, 1) := by decide +kernel
theorem dX3_liftsOfPile_35 : decode cX3_liftsOfPile 35 = .ok (.istore 6, 2) := by decide +kernel
theorem dX3_liftsOfPile_37 : decode cX3_liftsOfPile 37 = .ok (.iconst 0, 1) := by decide +kernel
theorem dX3_liftsOfPile_38 : decode cX3_liftsOfPile 38 = .ok (.istore 7, 2) := by decide +kernel
theorem dX3_liftsOfPile_40 : decode cX3_liftsOfPile 40 = .ok (.iload 7, 2) := by decide +kernel
theorem dX3_liftsOfPile_42 : decode cX3_liftsOfPile 42 = .ok (.iload 4, 2) := by decide +kernel
theorem dX3_liftsOfPile_44 : decode cX3_liftsOfPile 44 = .ok (.if_icmp .ge 73, 3) := by decide +kernel
theorem dX3_liftsOfPile_47 : decode cX3_liftsOfPile 47 = .ok (.aload_n 0, 1) := by decide +kernel
theorem dX3_liftsOfPile_48 : decode cX3_liftsOfPile 48 = .ok (.getfield 9, 3) := by decide +kernel
theorem dX3_liftsOfPile_51 : decode cX3_liftsOfPile 51 = .ok (.iload_n 2, 1) := by decide +kernel
theorem dX3_liftsOfPile_52 : decode cX3_liftsOfPile 52 = .ok (.iaload, 1) := by decide +kernel
theorem dX3_liftsOfPile_53 : decode cX3_liftsOfPile 53 = .ok (.aload 5, 2) := by decide +kernel
theorem dX3_liftsOfPile_55 : decode cX3_liftsOfPile 55 = .ok (.getfield 84, 3) := by decide +kernel
theorem dX3_liftsOfPile_58 : decode cX3_liftsOfPile 58 = .ok (.if_icmp .ge 59, 3) := by decide +kernel
theorem dX3_liftsOfPile_61 : decode cX3_liftsOfPile 61 = .ok (.aload_n 1, 1) := by decide +kernel
theorem dX3_liftsOfPile_62 : decode cX3_liftsOfPile 62 = .ok (.iload_n 3, 1) := by decide +kernel
theorem dX3_liftsOfPile_63 : decode cX3_liftsOfPile 63 = .ok (.aload_n 0, 1) := by decide +kernel
theorem dX3_liftsOfPile_64 : decode cX3_liftsOfPile 64 = .ok (.getfield 9, 3) := by decide +kernel
theorem dX3_liftsOfPile_67 : decode cX3_liftsOfPile 67 = .ok (.iload_n 2, 1) := by decide +kernel
theorem dX3_liftsOfPile_68 : decode cX3_liftsOfPile 68 = .ok (.iaload, 1) := by decide +kernel
theorem dX3_liftsOfPile_69 : decode cX3_liftsOfPile 69 = .ok (.aload 5, 2) := by decide +kernel
theorem dX3_liftsOfPile_71 : decode cX3_liftsOfPile 71 = .ok (.getfield 84, 3) := by decide +kernel
theorem dX3_liftsOfPile_74 : decode cX3_liftsOfPile 74 = .ok (.invokevirtual 87, 3) := by decide +kernel
theorem dX3_liftsOfPile_77 : decode cX3_liftsOfPile 77 = .ok (.istore 8, 2) := by decide +kernel
theorem dX3_liftsOfPile_79 : decode cX3_liftsOfPile 79 = .ok (.aload_n 0, 1) := by decide +kernel
theorem dX3_liftsOfPile_80 : decode cX3_liftsOfPile 80 = .ok (.getfield 9, 3) := by decide +kernel
theorem dX3_liftsOfPile_83 : decode cX3_liftsOfPile 83 = .ok (.iload_n 2, 1) := by decide +kernel
theorem dX3_liftsOfPile_84 : decode cX3_liftsOfPile 84 = .ok (.dup2, 1) := by decide +kernel
theorem dX3_liftsOfPile_85 : decode cX3_liftsOfPile 85 = .ok (.iaload, 1) := by decide +kernel
theorem dX3_liftsOfPile_86 : decode cX3_liftsOfPile 86 = .ok (.iload 8, 2) := by decide +kernel
theorem dX3_liftsOfPile_88 : decode cX3_liftsOfPile 88 = .ok (.iadd, 1) := by decide +kernel
theorem dX3_liftsOfPile_89 : decode cX3_liftsOfPile 89 = .ok (.iastore, 1) := by decide +kernel
theorem dX3_liftsOfPile_90 : decode cX3_liftsOfPile 90 = .ok (.iload 6, 2) := by decide +kernel
theorem dX3_liftsOfPile_92 : decode cX3_liftsOfPile 92 = .ok (.aload_n 0, 1) := by decide +kernel
theorem dX3_liftsOfPile_93 : decode cX3_liftsOfPile 93 = .ok (.aload_n 0, 1) := by decide +kernel
theorem dX3_liftsOfPile_94 : decode cX3_liftsOfPile 94 = .ok (.getfield 9, 3) := by decide +kernel
theorem dX3_liftsOfPile_97 : decode cX3_liftsOfPile 97 = .ok (.iload_n 2, 1) := by decide +kernel
theorem dX3_liftsOfPile_98 : decode cX3_liftsOfPile 98 = .ok (.iaload, 1) := by decide +kernel
theorem dX3_liftsOfPile_99 : decode cX3_liftsOfPile 99 = .ok (.aload_n 1, 1) := by decide +kernel
theorem dX3_liftsOfPile_100 : decode cX3_liftsOfPile 100 = .ok (.iload 8, 2) := by decide +kernel
theorem dX3_liftsOfPile_102 : decode cX3_liftsOfPile 102 = .ok (.invokevirtual 91, 3) := by decide +kernel
theorem dX3_liftsOfPile_105 : decode cX3_liftsOfPile 105 = .ok (.invokevirtual 94, 3) := by decide +kernel
theorem dX3_liftsOfPile_108 : decode cX3_liftsOfPile 108 = .ok (.iadd, 1) := by decide +kernel
theorem dX3_liftsOfPile_109 : decode cX3_liftsOfPile 109 = .ok (.istore 6, 2) := by decide +kernel
theorem dX3_liftsOfPile_111 : decode cX3_liftsOfPile 111 = .ok (.iinc 7 1, 3) := by decide +kernel
theorem dX3_liftsOfPile_114 : decode cX3_liftsOfPile 114 = .ok (.goto (-74), 3) := by decide +kernel
theorem dX3_liftsOfPile_117 : decode cX3_liftsOfPile 117 = .ok (.iload 6, 2) := by decide +kernel
theorem dX3_liftsOfPile_119 : decode cX3_liftsOfPile 119 = .ok (.ireturn, 1) := by decide +kernel
theorem dX3_findNear_0 : decode cX3_findNear 0 = .ok (.aload_n 0, 1) := by decide +kernel
theorem dX3_findNear_1 : decode cX3_findNear 1 = .ok (.iconst 0, 1) := by decide +kernel
theorem dX3_findNear_2 : decode cX3_findNear 2 = .ok (.putfield 98, 3) := by decide +kernel
theorem dX3_findNear_5 : decode cX3_findNear 5 = .ok (.iconst 0, 1) := by decide +kernel
theorem dX3_findNear_6 : decode cX3_findNear 6 = .ok (.istore_n 3, 1) := by decide +kernel
theorem dX3_findNear_7 : decode cX3_findNear 7 = .ok (.iload_n 3, 1) := by decide +kernel
theorem dX3_findNear_8 : decode cX3_findNear 8 = .ok (.aload_n 1, 1) := by decide +kernel
theorem dX3_findNear_9 : decode cX3_findNear 9 = .ok (.getfield 58, 3) := by decide +kernel
theorem dX3_findNear_12 : decode cX3_findNear 12 = .ok (.if_icmp .ge 63, 3) := by decide +kernel
theorem dX3_findNear_15 : decode cX3_findNear 15 = .ok (.aload_n 0, 1) := by decide +kernel
theorem dX3_findNear_16 : decode cX3_findNear 16 = .ok (.getfield 98, 3) := by decide +kernel
theorem dX3_findNear_19 : decode cX3_findNear 19 = .ok (.aload_n 0, 1) := by decide +kernel
theorem dX3_findNear_20 : decode cX3_findNear 20 = .ok (.getfield 15, 3) := by decide +kernel
theorem dX3_findNear_23 : decode cX3_findNear 23 = .ok (.arraylength, 1) := by decide +kernel
theorem dX3_findNear_24 : decode cX3_findNear 24 = .ok (.if_icmp .ge 51, 3) := by decide +kernel
theorem dX3_findNear_27 : decode cX3_findNear 27 = .ok (.aload_n 1, 1) := by decide +kernel
theorem dX3_findNear_28 : decode cX3_findNear 28 = .ok (.iload_n 3, 1) := by decide +kernel
theorem dX3_findNear_29 : decode cX3_findNear 29 = .ok (.invokevirtual 61, 3) := by decide +kernel
theorem dX3_findNear_32 : decode cX3_findNear 32 = .ok (.astore 4, 2) := by decide +kernel
theorem dX3_findNear_34 : decode cX3_findNear 34 = .ok (.aload 4, 2) := by decide +kernel
theorem dX3_findNear_36 : decode cX3_findNear 36 = .ok (.ifnull 33, 3) := by decide +kernel
theorem dX3_findNear_39 : decode cX3_findNear 39 = .ok (.aload_n 1, 1) := by decide +kernel
theorem dX3_findNear_40 : decode cX3_findNear 40 = .ok (.aload_n 2, 1) := by decide +kernel
theorem dX3_findNear_41 : decode cX3_findNear 41 = .ok (.aload 4, 2) := by decide +kernel
theorem dX3_findNear_43 : decode cX3_findNear 43 = .ok (.invokevirtual 101, 3) := by decide +kernel
theorem dX3_findNear_46 : decode cX3_findNear 46 = .ok (.ifCond .eq 23, 3) := by decide +kernel
theorem dX3_findNear_49 : decode cX3_findNear 49 = .ok (.aload_n 0, 1) := by decide +kernel
theorem dX3_findNear_50 : decode cX3_findNear 50 = .ok (.getfield 15, 3) := by decide +kernel
theorem dX3_findNear_53 : decode cX3_findNear 53 = .ok (.aload_n 0, 1) := by decide +kernel
theorem dX3_findNear_54 : decode cX3_findNear 54 = .ok (.getfield 98, 3) := by decide +kernel
theorem dX3_findNear_57 : decode cX3_findNear 57 = .ok (.iload_n 3, 1) := by decide +kernel
theorem dX3_findNear_58 : decode cX3_findNear 58 = .ok (.iastore, 1) := by decide +kernel
theorem dX3_findNear_59 : decode cX3_findNear 59 = .ok (.aload_n 0, 1) := by decide +kernel
theorem dX3_findNear_60 : decode cX3_findNear 60 = .ok (.dup, 1) := by decide +kernel
theorem dX3_findNear_61 : decode cX3_findNear 61 = .ok (.getfield 98, 3) := by decide +kernel
theorem dX3_findNear_64 : decode cX3_findNear 64 = .ok (.iconst 1, 1) := by decide +kernel
theorem dX3_findNear_65 : decode cX3_findNear 65 = .ok (.iadd, 1) := by decide +kernel
theorem dX3_findNear_66 : decode cX3_findNear 66 = .ok (.putfield 98, 3) := by decide +kernel
theorem dX3_findNear_69 : decode cX3_findNear 69 = .ok (.iinc 3 1, 3) := by decide +kernel
theorem dX3_findNear_72 : decode cX3_findNear 72 = .ok (.goto (-65), 3) := by decide +kernel
theorem dX3_findNear_75 : decode cX3_findNear 75 = .ok (.return_, 1) := by decide +kernel
theorem dX3_liftNear_0 : decode cX3_liftNear 0 = .ok (.iconst 0, 1) := by decide +kernel
theorem dX3_liftNear_1 : decode cX3_liftNear 1 = .ok (.istore_n 3, 1) := by decide +kernel
theorem dX3_liftNear_2 : decode cX3_liftNear 2 = .ok (.iconst 0, 1) := by decide +kernel
theorem dX3_liftNear_3 : decode cX3_liftNear 3 = .ok (.istore 4, 2) := by decide +kernel
theorem dX3_liftNear_5 : decode cX3_liftNear 5 = .ok (.iload 4, 2) := by decide +kernel
theorem dX3_liftNear_7 : decode cX3_liftNear 7 = .ok (.aload_n 0, 1) := by decide +kernel
theorem dX3_liftNear_8 : decode cX3_liftNear 8 = .ok (.getfield 98, 3) := by decide +kernel
theorem dX3_liftNear_11 : decode cX3_liftNear 11 = .ok (.if_icmp .ge 78, 3) := by decide +kernel
theorem dX3_liftNear_14 : decode cX3_liftNear 14 = .ok (.iload 4, 2) := by decide +kernel
theorem dX3_liftNear_16 : decode cX3_liftNear 16 = .ok (.aload_n 0, 1) := by decide +kernel
theorem dX3_liftNear_17 : decode cX3_liftNear 17 = .ok (.getfield 15, 3) := by decide +kernel
theorem dX3_liftNear_20 : decode cX3_liftNear 20 = .ok (.arraylength, 1) := by decide +kernel
theorem dX3_liftNear_21 : decode cX3_liftNear 21 = .ok (.if_icmp .ge 68, 3) := by decide +kernel
theorem dX3_liftNear_24 : decode cX3_liftNear 24 = .ok (.iload_n 2, 1) := by decide +kernel
theorem dX3_liftNear_25 : decode cX3_liftNear 25 = .ok (.ifCond .le 64, 3) := by decide +kernel
theorem dX3_liftNear_28 : decode cX3_liftNear 28 = .ok (.aload_n 0, 1) := by decide +kernel
theorem dX3_liftNear_29 : decode cX3_liftNear 29 = .ok (.getfield 15, 3) := by decide +kernel
theorem dX3_liftNear_32 : decode cX3_liftNear 32 = .ok (.iload 4, 2) := by decide +kernel
theorem dX3_liftNear_34 : decode cX3_liftNear 34 = .ok (.iaload, 1) := by decide +kernel
theorem dX3_liftNear_35 : decode cX3_liftNear 35 = .ok (.istore 5, 2) := by decide +kernel
theorem dX3_liftNear_37 : decode cX3_liftNear 37 = .ok (.iload 5, 2) := by decide +kernel
theorem dX3_liftNear_39 : decode cX3_liftNear 39 = .ok (.ifCond .lt 44, 3) := by decide +kernel
theorem dX3_liftNear_42 : decode cX3_liftNear 42 = .ok (.iload 5, 2) := by decide +kernel
theorem dX3_liftNear_44 : decode cX3_liftNear 44 = .ok (.aload_n 0, 1) := by decide +kernel
theorem dX3_liftNear_45 : decode cX3_liftNear 45 = .ok (.getfield 9, 3) := by decide +kernel
theorem dX3_liftNear_48 : decode cX3_liftNear 48 = .ok (.arraylength, 1) := by decide +kernel
theorem dX3_liftNear_49 : decode cX3_liftNear 49 = .ok (.if_icmp .ge 34, 3) := by decide +kernel
theorem dX3_liftNear_52 : decode cX3_liftNear 52 = .ok (.aload_n 0, 1) := by decide +kernel
theorem dX3_liftNear_53 : decode cX3_liftNear 53 = .ok (.getfield 9, 3) := by decide +kernel
theorem dX3_liftNear_56 : decode cX3_liftNear 56 = .ok (.iload 5, 2) := by decide +kernel
theorem dX3_liftNear_58 : decode cX3_liftNear 58 = .ok (.iaload, 1) := by decide +kernel
theorem dX3_liftNear_59 : decode cX3_liftNear 59 = .ok (.iload_n 1, 1) := by decide +kernel
theorem dX3_liftNear_60 : decode cX3_liftNear 60 = .ok (.iload_n 2, 1) := by decide +kernel
theorem dX3_liftNear_61 : decode cX3_liftNear 61 = .ok (.invokestatic 105, 3) := by decide +kernel
theorem dX3_liftNear_64 : decode cX3_liftNear 64 = .ok (.istore 6, 2) := by decide +kernel
theorem dX3_liftNear_66 : decode cX3_liftNear 66 = .ok (.aload_n 0, 1) := by decide +kernel
theorem dX3_liftNear_67 : decode cX3_liftNear 67 = .ok (.getfield 9, 3) := by decide +kernel
theorem dX3_liftNear_70 : decode cX3_liftNear 70 = .ok (.iload 5, 2) := by decide +kernel
theorem dX3_liftNear_72 : decode cX3_liftNear 72 = .ok (.dup2, 1) := by decide +kernel
theorem dX3_liftNear_73 : decode cX3_liftNear 73 = .ok (.iaload, 1) := by decide +kernel
theorem dX3_liftNear_74 : decode cX3_liftNear 74 = .ok (.iload 6, 2) := by decide +kernel
theorem dX3_liftNear_76 : decode cX3_liftNear 76 = .ok (.isub, 1) := by decide +kernel
theorem dX3_liftNear_77 : decode cX3_liftNear 77 = .ok (.iastore, 1) := by decide +kernel
theorem dX3_liftNear_78 : decode cX3_liftNear 78 = .ok (.iload_n 3, 1) := by decide +kernel
theorem dX3_liftNear_79 : decode cX3_liftNear 79 = .ok (.iload 6, 2) := by decide +kernel
theorem dX3_liftNear_81 : decode cX3_liftNear 81 = .ok (.iadd, 1) := by decide +kernel
theorem dX3_liftNear_82 : decode cX3_liftNear 82 = .ok (.istore_n 3, 1) := by decide +kernel
theorem dX3_liftNear_83 : decode cX3_liftNear 83 = .ok (.iinc 4 1, 3) := by decide +kernel
theorem dX3_liftNear_86 : decode cX3_liftNear 86 = .ok (.goto (-81), 3) := by decide +kernel
theorem dX3_liftNear_89 : decode cX3_liftNear 89 = .ok (.iload_n 3, 1) := by decide +kernel
theorem dX3_liftNear_90 : decode cX3_liftNear 90 = .ok (.ireturn, 1) := by decide +kernel
theorem dX3_nextOrder_0 : decode cX3_nextOrder 0 = .ok (.aload_n 0, 1) := by decide +kernel
theorem dX3_nextOrder_1 : decode cX3_nextOrder 1 = .ok (.getfield 55, 3) := by decide +kernel
theorem dX3_nextOrder_4 : decode cX3_nextOrder 4 = .ok (.iconst 2, 1) := by decide +kernel
theorem dX3_nextOrder_5 : decode cX3_nextOrder 5 = .ok (.isub, 1) := by decide +kernel
theorem dX3_nextOrder_6 : decode cX3_nextOrder 6 = .ok (.istore_n 1, 1) := by decide +kernel
theorem dX3_nextOrder_7 : decode cX3_nextOrder 7 = .ok (.iload_n 1, 1) := by decide +kernel
theorem dX3_nextOrder_8 : decode cX3_nextOrder 8 = .ok (.ifCond .lt 24, 3) := by decide +kernel
theorem dX3_nextOrder_11 : decode cX3_nextOrder 11 = .ok (.aload_n 0, 1) := by decide +kernel
theorem dX3_nextOrder_12 : decode cX3_nextOrder 12 = .ok (.iload_n 1, 1) := by decide +kernel
theorem dX3_nextOrder_13 : decode cX3_nextOrder 13 = .ok (.invokevirtual 73, 3) := by decide +kernel
theorem dX3_nextOrder_16 : decode cX3_nextOrder 16 = .ok (.aload_n 0, 1) := by decide +kernel
theorem dX3_nextOrder_17 : decode cX3_nextOrder 17 = .ok (.iload_n 1, 1) := by decide +kernel
theorem dX3_nextOrder_18 : decode cX3_nextOrder 18 = .ok (.iconst 1, 1) := by decide +kernel
theorem dX3_nextOrder_19 : decode cX3_nextOrder 19 = .ok (.iadd, 1) := by decide +kernel
theorem dX3_nextOrder_20 : decode cX3_nextOrder 20 = .ok (.invokevirtual 73, 3) := by decide +kernel
theorem dX3_nextOrder_23 : decode cX3_nextOrder 23 = .ok (.if_icmp .le 9, 3) := by decide +kernel
theorem dX3_nextOrder_26 : decode cX3_nextOrder 26 = .ok (.iinc 1 (-1), 3) := by decide +kernel
theorem dX3_nextOrder_29 : decode cX3_nextOrder 29 = .ok (.goto (-22), 3) := by decide +kernel
theorem dX3_nextOrder_32 : decode cX3_nextOrder 32 = .ok (.iload_n 1, 1) := by decide +kernel
theorem dX3_nextOrder_33 : decode cX3_nextOrder 33 = .ok (.ifCond .ge 5, 3) := by decide +kernel
theorem dX3_nextOrder_36 : decode cX3_nextOrder 36 = .ok (.iconst 0, 1) := by decide +kernel
theorem dX3_nextOrder_37 : decode cX3_nextOrder 37 = .ok (.ireturn, 1) := by decide +kernel
theorem dX3_nextOrder_38 : decode cX3_nextOrder 38 = .ok (.aload_n 0, 1) := by decide +kernel
theorem dX3_nextOrder_39 : decode cX3_nextOrder 39 = .ok (.getfield 55, 3) := by decide +kernel
theorem dX3_nextOrder_42 : decode cX3_nextOrder 42 = .ok (.iconst 1, 1) := by decide +kernel
theorem dX3_nextOrder_43 : decode cX3_nextOrder 43 = .ok (.isub, 1) := by decide +kernel
theorem dX3_nextOrder_44 : decode cX3_nextOrder 44 = .ok (.istore_n 2, 1) := by decide +kernel
theorem dX3_nextOrder_45 : decode cX3_nextOrder 45 = .ok (.iload_n 2, 1) := by decide +kernel
theorem dX3_nextOrder_46 : decode cX3_nextOrder 46 = .ok (.iload_n 1, 1) := by decide +kernel
theorem dX3_nextOrder_47 : decode cX3_nextOrder 47 = .ok (.if_icmp .le 22, 3) := by decide +kernel
theorem dX3_nextOrder_50 : decode cX3_nextOrder 50 = .ok (.aload_n 0, 1) := by decide +kernel
theorem dX3_nextOrder_51 : decode cX3_nextOrder 51 = .ok (.iload_n 2, 1) := by decide +kernel
theorem dX3_nextOrder_52 : decode cX3_nextOrder 52 = .ok (.invokevirtual 73, 3) := by decide +kernel
theorem dX3_nextOrder_55 : decode cX3_nextOrder 55 = .ok (.aload_n 0, 1) := by decide +kernel
theorem dX3_nextOrder_56 : decode cX3_nextOrder 56 = .ok (.iload_n 1, 1) := by decide +kernel
theorem dX3_nextOrder_57 : decode cX3_nextOrder 57 = .ok (.invokevirtual 73, 3) := by decide +kernel
theorem dX3_nextOrder_60 : decode cX3_nextOrder 60 = .ok (.if_icmp .ge 9, 3) := by decide +kernel
theorem dX3_nextOrder_63 : decode cX3_nextOrder 63 = .ok (.iinc 2 (-1), 3) := by decide +kernel
theorem dX3_nextOrder_66 : decode cX3_nextOrder 66 = .ok (.goto (-21), 3) := by decide +kernel
theorem dX3_nextOrder_69 : decode cX3_nextOrder 69 = .ok (.aload_n 0, 1) := by decide +kernel
theorem dX3_nextOrder_70 : decode cX3_nextOrder 70 = .ok (.iload_n 1, 1) := by decide +kernel
theorem dX3_nextOrder_71 : decode cX3_nextOrder 71 = .ok (.iload_n 2, 1) := by decide +kernel
theorem dX3_nextOrder_72 : decode cX3_nextOrder 72 = .ok (.invokevirtual 108, 3) := by decide +kernel
theorem dX3_nextOrder_75 : decode cX3_nextOrder 75 = .ok (.iload_n 1, 1) := by decide +kernel
theorem dX3_nextOrder_76 : decode cX3_nextOrder 76 = .ok (.iconst 1, 1) := by decide +kernel
theorem dX3_nextOrder_77 : decode cX3_nextOrder 77 = .ok (.iadd, 1) := by decide +kernel
theorem dX3_nextOrder_78 : decode cX3_nextOrder 78 = .ok (.istore_n 3, 1) := by decide +kernel
theorem dX3_nextOrder_79 : decode cX3_nextOrder 79 = .ok (.aload_n 0, 1) := by decide +kernel
theorem dX3_nextOrder_80 : decode cX3_nextOrder 80 = .ok (.getfield 55, 3) := by decide +kernel
theorem dX3_nextOrder_83 : decode cX3_nextOrder 83 = .ok (.iconst 1, 1) := by decide +kernel
theorem dX3_nextOrder_84 : decode cX3_nextOrder 84 = .ok (.isub, 1) := by decide +kernel
theorem dX3_nextOrder_85 : decode cX3_nextOrder 85 = .ok (.istore 4, 2) := by decide +kernel
theorem dX3_nextOrder_87 : decode cX3_nextOrder 87 = .ok (.iload_n 3, 1) := by decide +kernel
theorem dX3_nextOrder_88 : decode cX3_nextOrder 88 = .ok (.iload 4, 2) := by decide +kernel
theorem dX3_nextOrder_90 : decode cX3_nextOrder 90 = .ok (.if_icmp .ge 19, 3) := by decide +kernel
theorem dX3_nextOrder_93 : decode cX3_nextOrder 93 = .ok (.aload_n 0, 1) := by decide +kernel
theorem dX3_nextOrder_94 : decode cX3_nextOrder 94 = .ok (.iload_n 3, 1) := by decide +kernel
theorem dX3_nextOrder_95 : decode cX3_nextOrder 95 = .ok (.iload 4, 2) := by decide +kernel
theorem dX3_nextOrder_97 : decode cX3_nextOrder 97 = .ok (.invokevirtual 108, 3) := by decide +kernel
theorem dX3_nextOrder_100 : decode cX3_nextOrder 100 = .ok (.iinc 3 1, 3) := by decide +kernel
theorem dX3_nextOrder_103 : decode cX3_nextOrder 103 = .ok (.iinc 4 (-1), 3) := by decide +kernel
theorem dX3_nextOrder_106 : decode cX3_nextOrder 106 = .ok (.goto (-19), 3) := by decide +kernel
theorem dX3_nextOrder_109 : decode cX3_nextOrder 109 = .ok (.iconst 1, 1) := by decide +kernel
theorem dX3_nextOrder_110 : decode cX3_nextOrder 110 = .ok (.ireturn, 1) := by decide +kernel
theorem dX3_triedAt_0 : decode cX3_triedAt 0 = .ok (.iload_n 1, 1) := by decide +kernel
theorem dX3_triedAt_1 : decode cX3_triedAt 1 = .ok (.ifCond .lt 29, 3) := by decide +kernel
theorem dX3_triedAt_4 : decode cX3_triedAt 4 = .ok (.iload_n 1, 1) := by decide +kernel
theorem dX3_triedAt_5 : decode cX3_triedAt 5 = .ok (.aload_n 0, 1) := by decide +kernel
theorem dX3_triedAt_6 : decode cX3_triedAt 6 = .ok (.getfield 55, 3) := by decide +kernel
theorem dX3_triedAt_9 : decode cX3_triedAt 9 = .ok (.if_icmp .ge 21, 3) := by decide +kernel
theorem dX3_triedAt_12 : decode cX3_triedAt 12 = .ok (.iload_n 1, 1) := by decide +kernel
theorem dX3_triedAt_13 : decode cX3_triedAt 13 = .ok (.aload_n 0, 1) := by decide +kernel
theorem dX3_triedAt_14 : decode cX3_triedAt 14 = .ok (.getfield 18, 3) := by decide +kernel
theorem dX3_triedAt_17 : decode cX3_triedAt 17 = .ok (.arraylength, 1) := by decide +kernel
theorem dX3_triedAt_18 : decode cX3_triedAt 18 = .ok (.if_icmp .ge 12, 3) := by decide +kernel
theorem dX3_triedAt_21 : decode cX3_triedAt 21 = .ok (.aload_n 0, 1) := by decide +kernel
theorem dX3_triedAt_22 : decode cX3_triedAt 22 = .ok (.getfield 18, 3) := by decide +kernel
theorem dX3_triedAt_25 : decode cX3_triedAt 25 = .ok (.iload_n 1, 1) := by decide +kernel
theorem dX3_triedAt_26 : decode cX3_triedAt 26 = .ok (.iaload, 1) := by decide +kernel
theorem dX3_triedAt_27 : decode cX3_triedAt 27 = .ok (.goto 4, 3) := by decide +kernel
theorem dX3_triedAt_30 : decode cX3_triedAt 30 = .ok (.iconst (-1), 1) := by decide +kernel
theorem dX3_triedAt_31 : decode cX3_triedAt 31 = .ok (.ireturn, 1) := by decide +kernel
theorem dX3_swap_0 : decode cX3_swap 0 = .ok (.iload_n 1, 1) := by decide +kernel
theorem dX3_swap_1 : decode cX3_swap 1 = .ok (.ifCond .lt 51, 3) := by decide +kernel
theorem dX3_swap_4 : decode cX3_swap 4 = .ok (.iload_n 1, 1) := by decide +kernel
theorem dX3_swap_5 : decode cX3_swap 5 = .ok (.aload_n 0, 1) := by decide +kernel
theorem dX3_swap_6 : decode cX3_swap 6 = .ok (.getfield 18, 3) := by decide +kernel
theorem dX3_swap_9 : decode cX3_swap 9 = .ok (.arraylength, 1) := by decide +kernel
theorem dX3_swap_10 : decode cX3_swap 10 = .ok (.if_icmp .ge 42, 3) := by decide +kernel
theorem dX3_swap_13 : decode cX3_swap 13 = .ok (.iload_n 2, 1) := by decide +kernel
theorem dX3_swap_14 : decode cX3_swap 14 = .ok (.ifCond .lt 38, 3) := by decide +kernel
theorem dX3_swap_17 : decode cX3_swap 17 = .ok (.iload_n 2, 1) := by decide +kernel
theorem dX3_swap_18 : decode cX3_swap 18 = .ok (.aload_n 0, 1) := by decide +kernel
theorem dX3_swap_19 : decode cX3_swap 19 = .ok (.getfield 18, 3) := by decide +kernel
theorem dX3_swap_22 : decode cX3_swap 22 = .ok (.arraylength, 1) := by decide +kernel
theorem dX3_swap_23 : decode cX3_swap 23 = .ok (.if_icmp .ge 29, 3) := by decide +kernel
theorem dX3_swap_26 : decode cX3_swap 26 = .ok (.aload_n 0, 1) := by decide +kernel
theorem dX3_swap_27 : decode cX3_swap 27 = .ok (.getfield 18, 3) := by decide +kernel
theorem dX3_swap_30 : decode cX3_swap 30 = .ok (.iload_n 1, 1) := by decide +kernel
theorem dX3_swap_31 : decode cX3_swap 31 = .ok (.iaload, 1) := by decide +kernel
theorem dX3_swap_32 : decode cX3_swap 32 = .ok (.istore_n 3, 1) := by decide +kernel
theorem dX3_swap_33 : decode cX3_swap 33 = .ok (.aload_n 0, 1) := by decide +kernel
theorem dX3_swap_34 : decode cX3_swap 34 = .ok (.getfield 18, 3) := by decide +kernel
theorem dX3_swap_37 : decode cX3_swap 37 = .ok (.iload_n 1, 1) := by decide +kernel
theorem dX3_swap_38 : decode cX3_swap 38 = .ok (.aload_n 0, 1) := by decide +kernel
theorem dX3_swap_39 : decode cX3_swap 39 = .ok (.getfield 18, 3) := by decide +kernel
theorem dX3_swap_42 : decode cX3_swap 42 = .ok (.iload_n 2, 1) := by decide +kernel
theorem dX3_swap_43 : decode cX3_swap 43 = .ok (.iaload, 1) := by decide +kernel
theorem dX3_swap_44 : decode cX3_swap 44 = .ok (.iastore, 1) := by decide +kernel
theorem dX3_swap_45 : decode cX3_swap 45 = .ok (.aload_n 0, 1) := by decide +kernel
theorem dX3_swap_46 : decode cX3_swap 46 = .ok (.getfield 18, 3) := by decide +kernel
theorem dX3_swap_49 : decode cX3_swap 49 = .ok (.iload_n 2, 1) := by decide +kernel
theorem dX3_swap_50 : decode cX3_swap 50 = .ok (.iload_n 3, 1) := by decide +kernel
theorem dX3_swap_51 : decode cX3_swap 51 = .ok (.iastore, 1) := by decide +kernel
theorem dX3_swap_52 : decode cX3_swap 52 = .ok (.return_, 1) := by decide +kernel
