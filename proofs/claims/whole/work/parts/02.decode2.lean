theorem dX7_init_7 : decode cX7_init 7 = .ok (.newarray .int, 2) := by decide +kernel
theorem dX7_init_9 : decode cX7_init 9 = .ok (.putfield 7, 3) := by decide +kernel
theorem dX7_init_12 : decode cX7_init 12 = .ok (.aload_n 0, 1) := by decide +kernel
theorem dX7_init_13 : decode cX7_init 13 = .ok (.bipush 126, 2) := by decide +kernel
theorem dX7_init_15 : decode cX7_init 15 = .ok (.newarray .int, 2) := by decide +kernel
theorem dX7_init_17 : decode cX7_init 17 = .ok (.putfield 13, 3) := by decide +kernel
theorem dX7_init_20 : decode cX7_init 20 = .ok (.aload_n 0, 1) := by decide +kernel
theorem dX7_init_21 : decode cX7_init 21 = .ok (.sipush 2520, 3) := by decide +kernel
theorem dX7_init_24 : decode cX7_init 24 = .ok (.newarray .int, 2) := by decide +kernel
theorem dX7_init_26 : decode cX7_init 26 = .ok (.putfield 16, 3) := by decide +kernel
theorem dX7_init_29 : decode cX7_init 29 = .ok (.aload_n 0, 1) := by decide +kernel
theorem dX7_init_30 : decode cX7_init 30 = .ok (.sipush 254, 3) := by decide +kernel
theorem dX7_init_33 : decode cX7_init 33 = .ok (.newarray .int, 2) := by decide +kernel
theorem dX7_init_35 : decode cX7_init 35 = .ok (.putfield 19, 3) := by decide +kernel
theorem dX7_init_38 : decode cX7_init 38 = .ok (.aload_n 0, 1) := by decide +kernel
theorem dX7_init_39 : decode cX7_init 39 = .ok (.iconst 2, 1) := by decide +kernel
theorem dX7_init_40 : decode cX7_init 40 = .ok (.newarray .boolean, 2) := by decide +kernel
theorem dX7_init_42 : decode cX7_init 42 = .ok (.putfield 22, 3) := by decide +kernel
theorem dX7_init_45 : decode cX7_init 45 = .ok (.aload_n 0, 1) := by decide +kernel
theorem dX7_init_46 : decode cX7_init 46 = .ok (.bipush 60, 2) := by decide +kernel
theorem dX7_init_48 : decode cX7_init 48 = .ok (.newarray .int, 2) := by decide +kernel
theorem dX7_init_50 : decode cX7_init 50 = .ok (.putfield 26, 3) := by decide +kernel
theorem dX7_init_53 : decode cX7_init 53 = .ok (.aload_n 0, 1) := by decide +kernel
theorem dX7_init_54 : decode cX7_init 54 = .ok (.bipush 40, 2) := by decide +kernel
theorem dX7_init_56 : decode cX7_init 56 = .ok (.newarray .int, 2) := by decide +kernel
theorem dX7_init_58 : decode cX7_init 58 = .ok (.putfield 29, 3) := by decide +kernel
theorem dX7_init_61 : decode cX7_init 61 = .ok (.aload_n 0, 1) := by decide +kernel
theorem dX7_init_62 : decode cX7_init 62 = .ok (.bipush 40, 2) := by decide +kernel
theorem dX7_init_64 : decode cX7_init 64 = .ok (.newarray .int, 2) := by decide +kernel
theorem dX7_init_66 : decode cX7_init 66 = .ok (.putfield 32, 3) := by decide +kernel
theorem dX7_init_69 : decode cX7_init 69 = .ok (.aload_n 0, 1) := by decide +kernel
theorem dX7_init_70 : decode cX7_init 70 = .ok (.bipush 40, 2) := by decide +kernel
theorem dX7_init_72 : decode cX7_init 72 = .ok (.newarray .int, 2) := by decide +kernel
theorem dX7_init_74 : decode cX7_init 74 = .ok (.putfield 35, 3) := by decide +kernel
theorem dX7_init_77 : decode cX7_init 77 = .ok (.aload_n 0, 1) := by decide +kernel
theorem dX7_init_78 : decode cX7_init 78 = .ok (.bipush 40, 2) := by decide +kernel
theorem dX7_init_80 : decode cX7_init 80 = .ok (.newarray .int, 2) := by decide +kernel
theorem dX7_init_82 : decode cX7_init 82 = .ok (.putfield 38, 3) := by decide +kernel
theorem dX7_init_85 : decode cX7_init 85 = .ok (.aload_n 0, 1) := by decide +kernel
theorem dX7_init_86 : decode cX7_init 86 = .ok (.bipush 40, 2) := by decide +kernel
theorem dX7_init_88 : decode cX7_init 88 = .ok (.newarray .int, 2) := by decide +kernel
theorem dX7_init_90 : decode cX7_init 90 = .ok (.putfield 41, 3) := by decide +kernel
theorem dX7_init_93 : decode cX7_init 93 = .ok (.aload_n 0, 1) := by decide +kernel
theorem dX7_init_94 : decode cX7_init 94 = .ok (.bipush 40, 2) := by decide +kernel
theorem dX7_init_96 : decode cX7_init 96 = .ok (.newarray .int, 2) := by decide +kernel
theorem dX7_init_98 : decode cX7_init 98 = .ok (.putfield 44, 3) := by decide +kernel
theorem dX7_init_101 : decode cX7_init 101 = .ok (.aload_n 0, 1) := by decide +kernel
theorem dX7_init_102 : decode cX7_init 102 = .ok (.bipush 40, 2) := by decide +kernel
theorem dX7_init_104 : decode cX7_init 104 = .ok (.newarray .int, 2) := by decide +kernel
theorem dX7_init_106 : decode cX7_init 106 = .ok (.putfield 47, 3) := by decide +kernel
theorem dX7_init_109 : decode cX7_init 109 = .ok (.aload_n 0, 1) := by decide +kernel
theorem dX7_init_110 : decode cX7_init 110 = .ok (.bipush 40, 2) := by decide +kernel
theorem dX7_init_112 : decode cX7_init 112 = .ok (.newarray .int, 2) := by decide +kernel
theorem dX7_init_114 : decode cX7_init 114 = .ok (.putfield 50, 3) := by decide +kernel
theorem dX7_init_117 : decode cX7_init 117 = .ok (.aload_n 0, 1) := by decide +kernel
theorem dX7_init_118 : decode cX7_init 118 = .ok (.bipush 40, 2) := by decide +kernel
theorem dX7_init_120 : decode cX7_init 120 = .ok (.newarray .int, 2) := by decide +kernel
theorem dX7_init_122 : decode cX7_init 122 = .ok (.putfield 53, 3) := by decide +kernel
theorem dX7_init_125 : decode cX7_init 125 = .ok (.aload_n 0, 1) := by decide +kernel
theorem dX7_init_126 : decode cX7_init 126 = .ok (.bipush 40, 2) := by decide +kernel
theorem dX7_init_128 : decode cX7_init 128 = .ok (.newarray .long, 2) := by decide +kernel
theorem dX7_init_130 : decode cX7_init 130 = .ok (.putfield 56, 3) := by decide +kernel
theorem dX7_init_133 : decode cX7_init 133 = .ok (.aload_n 0, 1) := by decide +kernel
theorem dX7_init_134 : decode cX7_init 134 = .ok (.bipush 40, 2) := by decide +kernel
theorem dX7_init_136 : decode cX7_init 136 = .ok (.newarray .int, 2) := by decide +kernel
theorem dX7_init_138 : decode cX7_init 138 = .ok (.putfield 60, 3) := by decide +kernel
theorem dX7_init_141 : decode cX7_init 141 = .ok (.aload_n 0, 1) := by decide +kernel
theorem dX7_init_142 : decode cX7_init 142 = .ok (.bipush 40, 2) := by decide +kernel
theorem dX7_init_144 : decode cX7_init 144 = .ok (.newarray .int, 2) := by decide +kernel
theorem dX7_init_146 : decode cX7_init 146 = .ok (.putfield 63, 3) := by decide +kernel
theorem dX7_init_149 : decode cX7_init 149 = .ok (.aload_n 0, 1) := by decide +kernel
theorem dX7_init_150 : decode cX7_init 150 = .ok (.getfield 7, 3) := by decide +kernel
theorem dX7_init_153 : decode cX7_init 153 = .ok (.iconst 2, 1) := by decide +kernel
theorem dX7_init_154 : decode cX7_init 154 = .ok (.bipush 99, 2) := by decide +kernel
theorem dX7_init_156 : decode cX7_init 156 = .ok (.iastore, 1) := by decide +kernel
theorem dX7_init_157 : decode cX7_init 157 = .ok (.return_, 1) := by decide +kernel
theorem dX7_in_0 : decode cX7_in 0 = .ok (.iload_n 0, 1) := by decide +kernel
theorem dX7_in_1 : decode cX7_in 1 = .ok (.iload_n 1, 1) := by decide +kernel
theorem dX7_in_2 : decode cX7_in 2 = .ok (.if_icmp .lt 12, 3) := by decide +kernel
theorem dX7_in_5 : decode cX7_in 5 = .ok (.iload_n 0, 1) := by decide +kernel
theorem dX7_in_6 : decode cX7_in 6 = .ok (.iload_n 2, 1) := by decide +kernel
theorem dX7_in_7 : decode cX7_in 7 = .ok (.if_icmp .gt 7, 3) := by decide +kernel
theorem dX7_in_10 : decode cX7_in 10 = .ok (.iconst 1, 1) := by decide +kernel
theorem dX7_in_11 : decode cX7_in 11 = .ok (.goto 4, 3) := by decide +kernel
theorem dX7_in_14 : decode cX7_in 14 = .ok (.iconst 0, 1) := by decide +kernel
theorem dX7_in_15 : decode cX7_in 15 = .ok (.ireturn, 1) := by decide +kernel
theorem dX7_less_0 : decode cX7_less 0 = .ok (.iload_n 0, 1) := by decide +kernel
theorem dX7_less_1 : decode cX7_less 1 = .ok (.iload_n 1, 1) := by decide +kernel
theorem dX7_less_2 : decode cX7_less 2 = .ok (.if_icmp .ge 7, 3) := by decide +kernel
theorem dX7_less_5 : decode cX7_less 5 = .ok (.iload_n 0, 1) := by decide +kernel
theorem dX7_less_6 : decode cX7_less 6 = .ok (.goto 4, 3) := by decide +kernel
theorem dX7_less_9 : decode cX7_less 9 = .ok (.iload_n 1, 1) := by decide +kernel
theorem dX7_less_10 : decode cX7_less 10 = .ok (.ireturn, 1) := by decide +kernel
theorem dX7_more_0 : decode cX7_more 0 = .ok (.iload_n 0, 1) := by decide +kernel
theorem dX7_more_1 : decode cX7_more 1 = .ok (.iload_n 1, 1) := by decide +kernel
theorem dX7_more_2 : decode cX7_more 2 = .ok (.if_icmp .le 7, 3) := by decide +kernel
theorem dX7_more_5 : decode cX7_more 5 = .ok (.iload_n 0, 1) := by decide +kernel
theorem dX7_more_6 : decode cX7_more 6 = .ok (.goto 4, 3) := by decide +kernel
theorem dX7_more_9 : decode cX7_more 9 = .ok (.iload_n 1, 1) := by decide +kernel
theorem dX7_more_10 : decode cX7_more 10 = .ok (.ireturn, 1) := by decide +kernel
theorem dX7_copies_0 : decode cX7_copies 0 = .ok (.iconst 0, 1) := by decide +kernel
theorem dX7_copies_1 : decode cX7_copies 1 = .ok (.istore 4, 2) := by decide +kernel
theorem dX7_copies_3 : decode cX7_copies 3 = .ok (.iload 4, 2) := by decide +kernel
theorem dX7_copies_5 : decode cX7_copies 5 = .ok (.bipush 126, 2) := by decide +kernel
theorem dX7_copies_7 : decode cX7_copies 7 = .ok (.if_icmp .ge 21, 3) := by decide +kernel
theorem dX7_copies_10 : decode cX7_copies 10 = .ok (.aload_n 2, 1) := by decide +kernel
theorem dX7_copies_11 : decode cX7_copies 11 = .ok (.iload_n 3, 1) := by decide +kernel
theorem dX7_copies_12 : decode cX7_copies 12 = .ok (.iload 4, 2) := by decide +kernel
theorem dX7_copies_14 : decode cX7_copies 14 = .ok (.iadd, 1) := by decide +kernel
theorem dX7_copies_15 : decode cX7_copies 15 = .ok (.aload_n 0, 1) := by decide +kernel
theorem dX7_copies_16 : decode cX7_copies 16 = .ok (.iload_n 1, 1) := by decide +kernel
theorem dX7_copies_17 : decode cX7_copies 17 = .ok (.iload 4, 2) := by decide +kernel
theorem dX7_copies_19 : decode cX7_copies 19 = .ok (.iadd, 1) := by decide +kernel
theorem dX7_copies_20 : decode cX7_copies 20 = .ok (.iaload, 1) := by decide +kernel
theorem dX7_copies_21 : decode cX7_copies 21 = .ok (.iastore, 1) := by decide +kernel
theorem dX7_copies_22 : decode cX7_copies 22 = .ok (.iinc 4 1, 3) := by decide +kernel
theorem dX7_copies_25 : decode cX7_copies 25 = .ok (.goto (-22), 3) := by decide +kernel
theorem dX7_copies_28 : decode cX7_copies 28 = .ok (.return_, 1) := by decide +kernel
theorem dX7_orderOf_0 : decode cX7_orderOf 0 = .ok (.iload_n 1, 1) := by decide +kernel
theorem dX7_orderOf_1 : decode cX7_orderOf 1 = .ok (.ldc 66, 2) := by decide +kernel
theorem dX7_orderOf_3 : decode cX7_orderOf 3 = .ok (.if_icmp .ne 15, 3) := by decide +kernel
theorem dX7_orderOf_6 : decode cX7_orderOf 6 = .ok (.aload_n 0, 1) := by decide +kernel
theorem dX7_orderOf_7 : decode cX7_orderOf 7 = .ok (.iconst 5, 1) := by decide +kernel
theorem dX7_orderOf_8 : decode cX7_orderOf 8 = .ok (.iaload, 1) := by decide +kernel
theorem dX7_orderOf_9 : decode cX7_orderOf 9 = .ok (.iconst 1, 1) := by decide +kernel
theorem dX7_orderOf_10 : decode cX7_orderOf 10 = .ok (.if_icmp .ne 8, 3) := by decide +kernel
theorem dX7_orderOf_13 : decode cX7_orderOf 13 = .ok (.ldc 67, 2) := by decide +kernel
theorem dX7_orderOf_15 : decode cX7_orderOf 15 = .ok (.goto 4, 3) := by decide +kernel
theorem dX7_orderOf_18 : decode cX7_orderOf 18 = .ok (.iload_n 1, 1) := by decide +kernel
theorem dX7_orderOf_19 : decode cX7_orderOf 19 = .ok (.ireturn, 1) := by decide +kernel
theorem dX7_isAhead_0 : decode cX7_isAhead 0 = .ok (.aload_n 0, 1) := by decide +kernel
theorem dX7_isAhead_1 : decode cX7_isAhead 1 = .ok (.iload_n 2, 1) := by decide +kernel
theorem dX7_isAhead_2 : decode cX7_isAhead 2 = .ok (.invokestatic 68, 3) := by decide +kernel
theorem dX7_isAhead_5 : decode cX7_isAhead 5 = .ok (.istore 5, 2) := by decide +kernel
theorem dX7_isAhead_7 : decode cX7_isAhead 7 = .ok (.aload_n 0, 1) := by decide +kernel
theorem dX7_isAhead_8 : decode cX7_isAhead 8 = .ok (.aload_n 0, 1) := by decide +kernel
theorem dX7_isAhead_9 : decode cX7_isAhead 9 = .ok (.bipush 46, 2) := by decide +kernel
theorem dX7_isAhead_11 : decode cX7_isAhead 11 = .ok (.iload 4, 2) := by decide +kernel
theorem dX7_isAhead_13 : decode cX7_isAhead 13 = .ok (.iadd, 1) := by decide +kernel
theorem dX7_isAhead_14 : decode cX7_isAhead 14 = .ok (.iaload, 1) := by decide +kernel
theorem dX7_isAhead_15 : decode cX7_isAhead 15 = .ok (.invokestatic 68, 3) := by decide +kernel
theorem dX7_isAhead_18 : decode cX7_isAhead 18 = .ok (.istore 6, 2) := by decide +kernel
theorem dX7_isAhead_20 : decode cX7_isAhead 20 = .ok (.iload_n 1, 1) := by decide +kernel
theorem dX7_isAhead_21 : decode cX7_isAhead 21 = .ok (.aload_n 0, 1) := by decide +kernel
theorem dX7_isAhead_22 : decode cX7_isAhead 22 = .ok (.bipush 6, 2) := by decide +kernel
theorem dX7_isAhead_24 : decode cX7_isAhead 24 = .ok (.iload 4, 2) := by decide +kernel
theorem dX7_isAhead_26 : decode cX7_isAhead 26 = .ok (.iadd, 1) := by decide +kernel
theorem dX7_isAhead_27 : decode cX7_isAhead 27 = .ok (.iaload, 1) := by decide +kernel
theorem dX7_isAhead_28 : decode cX7_isAhead 28 = .ok (.if_icmp .eq 20, 3) := by decide +kernel
theorem dX7_isAhead_31 : decode cX7_isAhead 31 = .ok (.iload_n 1, 1) := by decide +kernel
theorem dX7_isAhead_32 : decode cX7_isAhead 32 = .ok (.aload_n 0, 1) := by decide +kernel
theorem dX7_isAhead_33 : decode cX7_isAhead 33 = .ok (.bipush 6, 2) := by decide +kernel
theorem dX7_isAhead_35 : decode cX7_isAhead 35 = .ok (.iload 4, 2) := by decide +kernel
theorem dX7_isAhead_37 : decode cX7_isAhead 37 = .ok (.iadd, 1) := by decide +kernel
theorem dX7_isAhead_38 : decode cX7_isAhead 38 = .ok (.iaload, 1) := by decide +kernel
theorem dX7_isAhead_39 : decode cX7_isAhead 39 = .ok (.if_icmp .ge 7, 3) := by decide +kernel
theorem dX7_isAhead_42 : decode cX7_isAhead 42 = .ok (.iconst 1, 1) := by decide +kernel
theorem dX7_isAhead_43 : decode cX7_isAhead 43 = .ok (.goto 4, 3) := by decide +kernel
theorem dX7_isAhead_46 : decode cX7_isAhead 46 = .ok (.iconst 0, 1) := by decide +kernel
theorem dX7_isAhead_47 : decode cX7_isAhead 47 = .ok (.ireturn, 1) := by decide +kernel
theorem dX7_isAhead_48 : decode cX7_isAhead 48 = .ok (.iload 5, 2) := by decide +kernel
theorem dX7_isAhead_50 : decode cX7_isAhead 50 = .ok (.iload 6, 2) := by decide +kernel
theorem dX7_isAhead_52 : decode cX7_isAhead 52 = .ok (.if_icmp .eq 18, 3) := by decide +kernel
theorem dX7_isAhead_55 : decode cX7_isAhead 55 = .ok (.iload 5, 2) := by decide +kernel
theorem dX7_isAhead_57 : decode cX7_isAhead 57 = .ok (.iload 6, 2) := by decide +kernel
theorem dX7_isAhead_59 : decode cX7_isAhead 59 = .ok (.if_icmp .ge 7, 3) := by decide +kernel
theorem dX7_isAhead_62 : decode cX7_isAhead 62 = .ok (.iconst 1, 1) := by decide +kernel
theorem dX7_isAhead_63 : decode cX7_isAhead 63 = .ok (.goto 18, 3) := by decide +kernel
theorem dX7_isAhead_66 : decode cX7_isAhead 66 = .ok (.iconst 0, 1) := by decide +kernel
theorem dX7_isAhead_67 : decode cX7_isAhead 67 = .ok (.goto 14, 3) := by decide +kernel
theorem dX7_isAhead_70 : decode cX7_isAhead 70 = .ok (.iload_n 3, 1) := by decide +kernel
theorem dX7_isAhead_71 : decode cX7_isAhead 71 = .ok (.iload 4, 2) := by decide +kernel
theorem dX7_isAhead_73 : decode cX7_isAhead 73 = .ok (.if_icmp .ge 7, 3) := by decide +kernel
theorem dX7_isAhead_76 : decode cX7_isAhead 76 = .ok (.iconst 1, 1) := by decide +kernel
theorem dX7_isAhead_77 : decode cX7_isAhead 77 = .ok (.goto 4, 3) := by decide +kernel
theorem dX7_isAhead_80 : decode cX7_isAhead 80 = .ok (.iconst 0, 1) := by decide +kernel
theorem dX7_isAhead_81 : decode cX7_isAhead 81 = .ok (.ireturn, 1) := by decide +kernel
theorem dX7_stands_0 : decode cX7_stands 0 = .ok (.aload_n 1, 1) := by decide +kernel
theorem dX7_stands_1 : decode cX7_stands 1 = .ok (.iconst 0, 1) := by decide +kernel
theorem dX7_stands_2 : decode cX7_stands 2 = .ok (.iaload, 1) := by decide +kernel
theorem dX7_stands_3 : decode cX7_stands 3 = .ok (.istore_n 2, 1) := by decide +kernel
theorem dX7_stands_4 : decode cX7_stands 4 = .ok (.iconst 0, 1) := by decide +kernel
theorem dX7_stands_5 : decode cX7_stands 5 = .ok (.istore_n 3, 1) := by decide +kernel
theorem dX7_stands_6 : decode cX7_stands 6 = .ok (.iload_n 3, 1) := by decide +kernel
theorem dX7_stands_7 : decode cX7_stands 7 = .ok (.iload_n 2, 1) := by decide +kernel
theorem dX7_stands_8 : decode cX7_stands 8 = .ok (.if_icmp .ge 83, 3) := by decide +kernel
theorem dX7_stands_11 : decode cX7_stands 11 = .ok (.iconst 0, 1) := by decide +kernel
theorem dX7_stands_12 : decode cX7_stands 12 = .ok (.istore 4, 2) := by decide +kernel
theorem dX7_stands_14 : decode cX7_stands 14 = .ok (.iconst 0, 1) := by decide +kernel
theorem dX7_stands_15 : decode cX7_stands 15 = .ok (.istore 5, 2) := by decide +kernel
theorem dX7_stands_17 : decode cX7_stands 17 = .ok (.iload 5, 2) := by decide +kernel
theorem dX7_stands_19 : decode cX7_stands 19 = .ok (.iload_n 2, 1) := by decide +kernel
theorem dX7_stands_20 : decode cX7_stands 20 = .ok (.if_icmp .ge 49, 3) := by decide +kernel
theorem dX7_stands_23 : decode cX7_stands 23 = .ok (.iload 4, 2) := by decide +kernel
theorem dX7_stands_25 : decode cX7_stands 25 = .ok (.iload 5, 2) := by decide +kernel
theorem dX7_stands_27 : decode cX7_stands 27 = .ok (.iload_n 3, 1) := by decide +kernel
theorem dX7_stands_28 : decode cX7_stands 28 = .ok (.if_icmp .eq 31, 3) := by decide +kernel
theorem dX7_stands_31 : decode cX7_stands 31 = .ok (.aload_n 1, 1) := by decide +kernel
theorem dX7_stands_32 : decode cX7_stands 32 = .ok (.aload_n 1, 1) := by decide +kernel
theorem dX7_stands_33 : decode cX7_stands 33 = .ok (.bipush 6, 2) := by decide +kernel
theorem dX7_stands_35 : decode cX7_stands 35 = .ok (.iload 5, 2) := by decide +kernel
theorem dX7_stands_37 : decode cX7_stands 37 = .ok (.iadd, 1) := by decide +kernel
theorem dX7_stands_38 : decode cX7_stands 38 = .ok (.iaload, 1) := by decide +kernel
theorem dX7_stands_39 : decode cX7_stands 39 = .ok (.aload_n 1, 1) := by decide +kernel
theorem dX7_stands_40 : decode cX7_stands 40 = .ok (.bipush 46, 2) := by decide +kernel
theorem dX7_stands_42 : decode cX7_stands 42 = .ok (.iload 5, 2) := by decide +kernel
theorem dX7_stands_44 : decode cX7_stands 44 = .ok (.iadd, 1) := by decide +kernel
theorem dX7_stands_45 : decode cX7_stands 45 = .ok (.iaload, 1) := by decide +kernel
theorem dX7_stands_46 : decode cX7_stands 46 = .ok (.iload 5, 2) := by decide +kernel
theorem dX7_stands_48 : decode cX7_stands 48 = .ok (.iload_n 3, 1) := by decide +kernel
theorem dX7_stands_49 : decode cX7_stands 49 = .ok (.invokestatic 72, 3) := by decide +kernel
theorem dX7_stands_52 : decode cX7_stands 52 = .ok (.ifCond .eq 7, 3) := by decide +kernel
theorem dX7_stands_55 : decode cX7_stands 55 = .ok (.iconst 1, 1) := by decide +kernel
theorem dX7_stands_56 : decode cX7_stands 56 = .ok (.goto 4, 3) := by decide +kernel
theorem dX7_stands_59 : decode cX7_stands 59 = .ok (.iconst 0, 1) := by decide +kernel
theorem dX7_stands_60 : decode cX7_stands 60 = .ok (.iadd, 1) := by decide +kernel
theorem dX7_stands_61 : decode cX7_stands 61 = .ok (.istore 4, 2) := by decide +kernel
theorem dX7_stands_63 : decode cX7_stands 63 = .ok (.iinc 5 1, 3) := by decide +kernel
theorem dX7_stands_66 : decode cX7_stands 66 = .ok (.goto (-49), 3) := by decide +kernel
theorem dX7_stands_69 : decode cX7_stands 69 = .ok (.aload_n 0, 1) := by decide +kernel
theorem dX7_stands_70 : decode cX7_stands 70 = .ok (.getfield 29, 3) := by decide +kernel
theorem dX7_stands_73 : decode cX7_stands 73 = .ok (.iload 4, 2) := by decide +kernel
theorem dX7_stands_75 : decode cX7_stands 75 = .ok (.iload_n 3, 1) := by decide +kernel
theorem dX7_stands_76 : decode cX7_stands 76 = .ok (.iastore, 1) := by decide +kernel
theorem dX7_stands_77 : decode cX7_stands 77 = .ok (.aload_n 0, 1) := by decide +kernel
theorem dX7_stands_78 : decode cX7_stands 78 = .ok (.getfield 32, 3) := by decide +kernel
theorem dX7_stands_81 : decode cX7_stands 81 = .ok (.iload_n 3, 1) := by decide +kernel
theorem dX7_stands_82 : decode cX7_stands 82 = .ok (.iload 4, 2) := by decide +kernel
theorem dX7_stands_84 : decode cX7_stands 84 = .ok (.iastore, 1) := by decide +kernel
theorem dX7_stands_85 : decode cX7_stands 85 = .ok (.iinc 3 1, 3) := by decide +kernel
theorem dX7_stands_88 : decode cX7_stands 88 = .ok (.goto (-82), 3) := by decide +kernel
theorem dX7_stands_91 : decode cX7_stands 91 = .ok (.iconst 0, 1) := by decide +kernel
theorem dX7_stands_92 : decode cX7_stands 92 = .ok (.istore_n 3, 1) := by decide +kernel
theorem dX7_stands_93 : decode cX7_stands 93 = .ok (.iload_n 3, 1) := by decide +kernel
theorem dX7_stands_94 : decode cX7_stands 94 = .ok (.iload_n 2, 1) := by decide +kernel
theorem dX7_stands_95 : decode cX7_stands 95 = .ok (.if_icmp .ge 150, 3) := by decide +kernel
theorem dX7_stands_98 : decode cX7_stands 98 = .ok (.aload_n 0, 1) := by decide +kernel
theorem dX7_stands_99 : decode cX7_stands 99 = .ok (.getfield 35, 3) := by decide +kernel
theorem dX7_stands_102 : decode cX7_stands 102 = .ok (.iload_n 3, 1) := by decide +kernel
theorem dX7_stands_103 : decode cX7_stands 103 = .ok (.bipush 99, 2) := by decide +kernel
theorem dX7_stands_105 : decode cX7_stands 105 = .ok (.iastore, 1) := by decide +kernel
theorem dX7_stands_106 : decode cX7_stands 106 = .ok (.aload_n 0, 1) := by decide +kernel
theorem dX7_stands_107 : decode cX7_stands 107 = .ok (.getfield 41, 3) := by decide +kernel
theorem dX7_stands_110 : decode cX7_stands 110 = .ok (.iload_n 3, 1) := by decide +kernel
theorem dX7_stands_111 : decode cX7_stands 111 = .ok (.bipush 99, 2) := by decide +kernel
theorem dX7_stands_113 : decode cX7_stands 113 = .ok (.iastore, 1) := by decide +kernel
theorem dX7_stands_114 : decode cX7_stands 114 = .ok (.aload_n 0, 1) := by decide +kernel
theorem dX7_stands_115 : decode cX7_stands 115 = .ok (.getfield 38, 3) := by decide +kernel
theorem dX7_stands_118 : decode cX7_stands 118 = .ok (.iload_n 3, 1) := by decide +kernel
theorem dX7_stands_119 : decode cX7_stands 119 = .ok (.iconst 0, 1) := by decide +kernel
theorem dX7_stands_120 : decode cX7_stands 120 = .ok (.iastore, 1) := by decide +kernel
theorem dX7_stands_121 : decode cX7_stands 121 = .ok (.aload_n 0, 1) := by decide +kernel
theorem dX7_stands_122 : decode cX7_stands 122 = .ok (.getfield 44, 3) := by decide +kernel
theorem dX7_stands_125 : decode cX7_stands 125 = .ok (.iload_n 3, 1) := by decide +kernel
theorem dX7_stands_126 : decode cX7_stands 126 = .ok (.iconst 0, 1) := by decide +kernel
theorem dX7_stands_127 : decode cX7_stands 127 = .ok (.iastore, 1) := by decide +kernel
theorem dX7_stands_128 : decode cX7_stands 128 = .ok (.iconst 0, 1) := by decide +kernel
theorem dX7_stands_129 : decode cX7_stands 129 = .ok (.istore 4, 2) := by decide +kernel
theorem dX7_stands_131 : decode cX7_stands 131 = .ok (.iload 4, 2) := by decide +kernel
theorem dX7_stands_133 : decode cX7_stands 133 = .ok (.iload_n 2, 1) := by decide +kernel
theorem dX7_stands_134 : decode cX7_stands 134 = .ok (.if_icmp .ge 105, 3) := by decide +kernel
theorem dX7_stands_137 : decode cX7_stands 137 = .ok (.aload_n 1, 1) := by decide +kernel
theorem dX7_stands_138 : decode cX7_stands 138 = .ok (.bipush 6, 2) := by decide +kernel
theorem dX7_stands_140 : decode cX7_stands 140 = .ok (.iload 4, 2) := by decide +kernel
theorem dX7_stands_142 : decode cX7_stands 142 = .ok (.iadd, 1) := by decide +kernel
theorem dX7_stands_143 : decode cX7_stands 143 = .ok (.iaload, 1) := by decide +kernel
theorem dX7_stands_144 : decode cX7_stands 144 = .ok (.aload_n 1, 1) := by decide +kernel
theorem dX7_stands_145 : decode cX7_stands 145 = .ok (.bipush 6, 2) := by decide +kernel
theorem dX7_stands_147 : decode cX7_stands 147 = .ok (.iload_n 3, 1) := by decide +kernel
theorem dX7_stands_148 : decode cX7_stands 148 = .ok (.iadd, 1) := by decide +kernel
theorem dX7_stands_149 : decode cX7_stands 149 = .ok (.iaload, 1) := by decide +kernel
theorem dX7_stands_150 : decode cX7_stands 150 = .ok (.if_icmp .ne 83, 3) := by decide +kernel
theorem dX7_stands_153 : decode cX7_stands 153 = .ok (.aload_n 0, 1) := by decide +kernel
theorem dX7_stands_154 : decode cX7_stands 154 = .ok (.getfield 35, 3) := by decide +kernel
theorem dX7_stands_157 : decode cX7_stands 157 = .ok (.iload_n 3, 1) := by decide +kernel
theorem dX7_stands_158 : decode cX7_stands 158 = .ok (.aload_n 0, 1) := by decide +kernel
theorem dX7_stands_159 : decode cX7_stands 159 = .ok (.getfield 35, 3) := by decide +kernel
theorem dX7_stands_162 : decode cX7_stands 162 = .ok (.iload_n 3, 1) := by decide +kernel
theorem dX7_stands_163 : decode cX7_stands 163 = .ok (.iaload, 1) := by decide +kernel
theorem dX7_stands_164 : decode cX7_stands 164 = .ok (.aload_n 0, 1) := by decide +kernel
theorem dX7_stands_165 : decode cX7_stands 165 = .ok (.getfield 32, 3) := by decide +kernel
theorem dX7_stands_168 : decode cX7_stands 168 = .ok (.iload 4, 2) := by decide +kernel
theorem dX7_stands_170 : decode cX7_stands 170 = .ok (.iaload, 1) := by decide +kernel
theorem dX7_stands_171 : decode cX7_stands 171 = .ok (.invokestatic 76, 3) := by decide +kernel
theorem dX7_stands_174 : decode cX7_stands 174 = .ok (.iastore, 1) := by decide +kernel
theorem dX7_stands_175 : decode cX7_stands 175 = .ok (.aload_n 0, 1) := by decide +kernel
theorem dX7_stands_176 : decode cX7_stands 176 = .ok (.getfield 38, 3) := by decide +kernel
theorem dX7_stands_179 : decode cX7_stands 179 = .ok (.iload_n 3, 1) := by decide +kernel
theorem dX7_stands_180 : decode cX7_stands 180 = .ok (.dup2, 1) := by decide +kernel
theorem dX7_stands_181 : decode cX7_stands 181 = .ok (.iaload, 1) := by decide +kernel
theorem dX7_stands_182 : decode cX7_stands 182 = .ok (.iconst 1, 1) := by decide +kernel
theorem dX7_stands_183 : decode cX7_stands 183 = .ok (.iadd, 1) := by decide +kernel
theorem dX7_stands_184 : decode cX7_stands 184 = .ok (.iastore, 1) := by decide +kernel
theorem dX7_stands_185 : decode cX7_stands 185 = .ok (.aload_n 1, 1) := by decide +kernel
theorem dX7_stands_186 : decode cX7_stands 186 = .ok (.bipush 46, 2) := by decide +kernel
theorem dX7_stands_188 : decode cX7_stands 188 = .ok (.iload 4, 2) := by decide +kernel
theorem dX7_stands_190 : decode cX7_stands 190 = .ok (.iadd, 1) := by decide +kernel
theorem dX7_stands_191 : decode cX7_stands 191 = .ok (.iaload, 1) := by decide +kernel
theorem dX7_stands_192 : decode cX7_stands 192 = .ok (.aload_n 1, 1) := by decide +kernel
theorem dX7_stands_193 : decode cX7_stands 193 = .ok (.bipush 46, 2) := by decide +kernel
theorem dX7_stands_195 : decode cX7_stands 195 = .ok (.iload_n 3, 1) := by decide +kernel
theorem dX7_stands_196 : decode cX7_stands 196 = .ok (.iadd, 1) := by decide +kernel
theorem dX7_stands_197 : decode cX7_stands 197 = .ok (.iaload, 1) := by decide +kernel
theorem dX7_stands_198 : decode cX7_stands 198 = .ok (.if_icmp .ne 35, 3) := by decide +kernel
theorem dX7_stands_201 : decode cX7_stands 201 = .ok (.aload_n 0, 1) := by decide +kernel
theorem dX7_stands_202 : decode cX7_stands 202 = .ok (.getfield 41, 3) := by decide +kernel
theorem dX7_stands_205 : decode cX7_stands 205 = .ok (.iload_n 3, 1) := by decide +kernel
theorem dX7_stands_206 : decode cX7_stands 206 = .ok (.aload_n 0, 1) := by decide +kernel
theorem dX7_stands_207 : decode cX7_stands 207 = .ok (.getfield 41, 3) := by decide +kernel
theorem dX7_stands_210 : decode cX7_stands 210 = .ok (.iload_n 3, 1) := by decide +kernel
theorem dX7_stands_211 : decode cX7_stands 211 = .ok (.iaload, 1) := by decide +kernel
theorem dX7_stands_212 : decode cX7_stands 212 = .ok (.aload_n 0, 1) := by decide +kernel
theorem dX7_stands_213 : decode cX7_stands 213 = .ok (.getfield 32, 3) := by decide +kernel
theorem dX7_stands_216 : decode cX7_stands 216 = .ok (.iload 4, 2) := by decide +kernel
theorem dX7_stands_218 : decode cX7_stands 218 = .ok (.iaload, 1) := by decide +kernel
theorem dX7_stands_219 : decode cX7_stands 219 = .ok (.invokestatic 76, 3) := by decide +kernel
theorem dX7_stands_222 : decode cX7_stands 222 = .ok (.iastore, 1) := by decide +kernel
theorem dX7_stands_223 : decode cX7_stands 223 = .ok (.aload_n 0, 1) := by decide +kernel
theorem dX7_stands_224 : decode cX7_stands 224 = .ok (.getfield 44, 3) := by decide +kernel
theorem dX7_stands_227 : decode cX7_stands 227 = .ok (.iload_n 3, 1) := by decide +kernel
theorem dX7_stands_228 : decode cX7_stands 228 = .ok (.dup2, 1) := by decide +kernel
theorem dX7_stands_229 : decode cX7_stands 229 = .ok (.iaload, 1) := by decide +kernel
theorem dX7_stands_230 : decode cX7_stands 230 = .ok (.iconst 1, 1) := by decide +kernel
theorem dX7_stands_231 : decode cX7_stands 231 = .ok (.iadd, 1) := by decide +kernel
theorem dX7_stands_232 : decode cX7_stands 232 = .ok (.iastore, 1) := by decide +kernel
theorem dX7_stands_233 : decode cX7_stands 233 = .ok (.iinc 4 1, 3) := by decide +kernel
theorem dX7_stands_236 : decode cX7_stands 236 = .ok (.goto (-105), 3) := by decide +kernel
theorem dX7_stands_239 : decode cX7_stands 239 = .ok (.iinc 3 1, 3) := by decide +kernel
theorem dX7_stands_242 : decode cX7_stands 242 = .ok (.goto (-149), 3) := by decide +kernel
theorem dX7_stands_245 : decode cX7_stands 245 = .ok (.iconst 0, 1) := by decide +kernel
theorem dX7_stands_246 : decode cX7_stands 246 = .ok (.istore_n 3, 1) := by decide +kernel
theorem dX7_stands_247 : decode cX7_stands 247 = .ok (.iload_n 3, 1) := by decide +kernel
theorem dX7_stands_248 : decode cX7_stands 248 = .ok (.iload_n 2, 1) := by decide +kernel
theorem dX7_stands_249 : decode cX7_stands 249 = .ok (.if_icmp .ge 69, 3) := by decide +kernel
theorem dX7_stands_252 : decode cX7_stands 252 = .ok (.aload_n 0, 1) := by decide +kernel
theorem dX7_stands_253 : decode cX7_stands 253 = .ok (.getfield 29, 3) := by decide +kernel
theorem dX7_stands_256 : decode cX7_stands 256 = .ok (.iload_n 3, 1) := by decide +kernel
theorem dX7_stands_257 : decode cX7_stands 257 = .ok (.iaload, 1) := by decide +kernel
theorem dX7_stands_258 : decode cX7_stands 258 = .ok (.istore 4, 2) := by decide +kernel
theorem dX7_stands_260 : decode cX7_stands 260 = .ok (.aload_n 0, 1) := by decide +kernel
theorem dX7_stands_261 : decode cX7_stands 261 = .ok (.getfield 47, 3) := by decide +kernel
theorem dX7_stands_264 : decode cX7_stands 264 = .ok (.iload 4, 2) := by decide +kernel
theorem dX7_stands_266 : decode cX7_stands 266 = .ok (.aload_n 0, 1) := by decide +kernel
theorem dX7_stands_267 : decode cX7_stands 267 = .ok (.getfield 35, 3) := by decide +kernel
theorem dX7_stands_270 : decode cX7_stands 270 = .ok (.iload 4, 2) := by decide +kernel
theorem dX7_stands_272 : decode cX7_stands 272 = .ok (.iaload, 1) := by decide +kernel
theorem dX7_stands_273 : decode cX7_stands 273 = .ok (.iload_n 3, 1) := by decide +kernel
theorem dX7_stands_274 : decode cX7_stands 274 = .ok (.if_icmp .ne 7, 3) := by decide +kernel
theorem dX7_stands_277 : decode cX7_stands 277 = .ok (.iconst 0, 1) := by decide +kernel
theorem dX7_stands_278 : decode cX7_stands 278 = .ok (.goto 33, 3) := by decide +kernel
theorem dX7_stands_281 : decode cX7_stands 281 = .ok (.aload_n 0, 1) := by decide +kernel
theorem dX7_stands_282 : decode cX7_stands 282 = .ok (.getfield 47, 3) := by decide +kernel
theorem dX7_stands_285 : decode cX7_stands 285 = .ok (.aload_n 0, 1) := by decide +kernel
theorem dX7_stands_286 : decode cX7_stands 286 = .ok (.getfield 29, 3) := by decide +kernel
theorem dX7_stands_289 : decode cX7_stands 289 = .ok (.iload_n 3, 1) := by decide +kernel
theorem dX7_stands_290 : decode cX7_stands 290 = .ok (.iconst 1, 1) := by decide +kernel
theorem dX7_stands_291 : decode cX7_stands 291 = .ok (.isub, 1) := by decide +kernel
theorem dX7_stands_292 : decode cX7_stands 292 = .ok (.iaload, 1) := by decide +kernel
theorem dX7_stands_293 : decode cX7_stands 293 = .ok (.iaload, 1) := by decide +kernel
theorem dX7_stands_294 : decode cX7_stands 294 = .ok (.aload_n 0, 1) := by decide +kernel
theorem dX7_stands_295 : decode cX7_stands 295 = .ok (.getfield 41, 3) := by decide +kernel
theorem dX7_stands_298 : decode cX7_stands 298 = .ok (.iload 4, 2) := by decide +kernel
theorem dX7_stands_300 : decode cX7_stands 300 = .ok (.iaload, 1) := by decide +kernel
theorem dX7_stands_301 : decode cX7_stands 301 = .ok (.iload_n 3, 1) := by decide +kernel
theorem dX7_stands_302 : decode cX7_stands 302 = .ok (.if_icmp .ne 7, 3) := by decide +kernel
theorem dX7_stands_305 : decode cX7_stands 305 = .ok (.iconst 1, 1) := by decide +kernel
theorem dX7_stands_306 : decode cX7_stands 306 = .ok (.goto 4, 3) := by decide +kernel
theorem dX7_stands_309 : decode cX7_stands 309 = .ok (.iconst 0, 1) := by decide +kernel
theorem dX7_stands_310 : decode cX7_stands 310 = .ok (.iadd, 1) := by decide +kernel
theorem dX7_stands_311 : decode cX7_stands 311 = .ok (.iastore, 1) := by decide +kernel
theorem dX7_stands_312 : decode cX7_stands 312 = .ok (.iinc 3 1, 3) := by decide +kernel
theorem dX7_stands_315 : decode cX7_stands 315 = .ok (.goto (-68), 3) := by decide +kernel
theorem dX7_stands_318 : decode cX7_stands 318 = .ok (.return_, 1) := by decide +kernel
theorem dX7_byPlaces_0 : decode cX7_byPlaces 0 = .ok (.aload_n 0, 1) := by decide +kernel
theorem dX7_byPlaces_1 : decode cX7_byPlaces 1 = .ok (.aload_n 1, 1) := by decide +kernel
theorem dX7_byPlaces_2 : decode cX7_byPlaces 2 = .ok (.iconst 2, 1) := by decide +kernel
theorem dX7_byPlaces_3 : decode cX7_byPlaces 3 = .ok (.iaload, 1) := by decide +kernel
theorem dX7_byPlaces_4 : decode cX7_byPlaces 4 = .ok (.bipush 99, 2) := by decide +kernel
theorem dX7_byPlaces_6 : decode cX7_byPlaces 6 = .ok (.if_icmp .ne 12, 3) := by decide +kernel
theorem dX7_byPlaces_9 : decode cX7_byPlaces 9 = .ok (.aload_n 0, 1) := by decide +kernel
theorem dX7_byPlaces_10 : decode cX7_byPlaces 10 = .ok (.getfield 35, 3) := by decide +kernel
theorem dX7_byPlaces_13 : decode cX7_byPlaces 13 = .ok (.iload_n 2, 1) := by decide +kernel
theorem dX7_byPlaces_14 : decode cX7_byPlaces 14 = .ok (.iaload, 1) := by decide +kernel
theorem dX7_byPlaces_15 : decode cX7_byPlaces 15 = .ok (.goto 22, 3) := by decide +kernel
theorem dX7_byPlaces_18 : decode cX7_byPlaces 18 = .ok (.aload_n 0, 1) := by decide +kernel
theorem dX7_byPlaces_19 : decode cX7_byPlaces 19 = .ok (.getfield 35, 3) := by decide +kernel
theorem dX7_byPlaces_22 : decode cX7_byPlaces 22 = .ok (.iload_n 2, 1) := by decide +kernel
theorem dX7_byPlaces_23 : decode cX7_byPlaces 23 = .ok (.iaload, 1) := by decide +kernel
theorem dX7_byPlaces_24 : decode cX7_byPlaces 24 = .ok (.aload_n 0, 1) := by decide +kernel
theorem dX7_byPlaces_25 : decode cX7_byPlaces 25 = .ok (.getfield 32, 3) := by decide +kernel
theorem dX7_byPlaces_28 : decode cX7_byPlaces 28 = .ok (.iload_n 2, 1) := by decide +kernel
theorem dX7_byPlaces_29 : decode cX7_byPlaces 29 = .ok (.iaload, 1) := by decide +kernel
theorem dX7_byPlaces_30 : decode cX7_byPlaces 30 = .ok (.aload_n 1, 1) := by decide +kernel
theorem dX7_byPlaces_31 : decode cX7_byPlaces 31 = .ok (.iconst 2, 1) := by decide +kernel
theorem dX7_byPlaces_32 : decode cX7_byPlaces 32 = .ok (.iaload, 1) := by decide +kernel
theorem dX7_byPlaces_33 : decode cX7_byPlaces 33 = .ok (.iadd, 1) := by decide +kernel
theorem dX7_byPlaces_34 : decode cX7_byPlaces 34 = .ok (.invokestatic 80, 3) := by decide +kernel
theorem dX7_byPlaces_37 : decode cX7_byPlaces 37 = .ok (.putfield 83, 3) := by decide +kernel
theorem dX7_byPlaces_40 : decode cX7_byPlaces 40 = .ok (.aload_n 0, 1) := by decide +kernel
theorem dX7_byPlaces_41 : decode cX7_byPlaces 41 = .ok (.aload_n 1, 1) := by decide +kernel
theorem dX7_byPlaces_42 : decode cX7_byPlaces 42 = .ok (.iconst 3, 1) := by decide +kernel
theorem dX7_byPlaces_43 : decode cX7_byPlaces 43 = .ok (.iaload, 1) := by decide +kernel
theorem dX7_byPlaces_44 : decode cX7_byPlaces 44 = .ok (.bipush 99, 2) := by decide +kernel
theorem dX7_byPlaces_46 : decode cX7_byPlaces 46 = .ok (.if_icmp .ne 19, 3) := by decide +kernel
theorem dX7_byPlaces_49 : decode cX7_byPlaces 49 = .ok (.aload_n 0, 1) := by decide +kernel
theorem dX7_byPlaces_50 : decode cX7_byPlaces 50 = .ok (.getfield 35, 3) := by decide +kernel
theorem dX7_byPlaces_53 : decode cX7_byPlaces 53 = .ok (.iload_n 2, 1) := by decide +kernel
theorem dX7_byPlaces_54 : decode cX7_byPlaces 54 = .ok (.iaload, 1) := by decide +kernel
theorem dX7_byPlaces_55 : decode cX7_byPlaces 55 = .ok (.aload_n 0, 1) := by decide +kernel
theorem dX7_byPlaces_56 : decode cX7_byPlaces 56 = .ok (.getfield 38, 3) := by decide +kernel
theorem dX7_byPlaces_59 : decode cX7_byPlaces 59 = .ok (.iload_n 2, 1) := by decide +kernel
theorem dX7_byPlaces_60 : decode cX7_byPlaces 60 = .ok (.iaload, 1) := by decide +kernel
theorem dX7_byPlaces_61 : decode cX7_byPlaces 61 = .ok (.iadd, 1) := by decide +kernel
theorem dX7_byPlaces_62 : decode cX7_byPlaces 62 = .ok (.goto 31, 3) := by decide +kernel
theorem dX7_byPlaces_65 : decode cX7_byPlaces 65 = .ok (.aload_n 0, 1) := by decide +kernel
theorem dX7_byPlaces_66 : decode cX7_byPlaces 66 = .ok (.getfield 35, 3) := by decide +kernel
theorem dX7_byPlaces_69 : decode cX7_byPlaces 69 = .ok (.iload_n 2, 1) := by decide +kernel
theorem dX7_byPlaces_70 : decode cX7_byPlaces 70 = .ok (.iaload, 1) := by decide +kernel
theorem dX7_byPlaces_71 : decode cX7_byPlaces 71 = .ok (.aload_n 0, 1) := by decide +kernel
theorem dX7_byPlaces_72 : decode cX7_byPlaces 72 = .ok (.getfield 38, 3) := by decide +kernel
theorem dX7_byPlaces_75 : decode cX7_byPlaces 75 = .ok (.iload_n 2, 1) := by decide +kernel
theorem dX7_byPlaces_76 : decode cX7_byPlaces 76 = .ok (.iaload, 1) := by decide +kernel
theorem dX7_byPlaces_77 : decode cX7_byPlaces 77 = .ok (.iadd, 1) := by decide +kernel
theorem dX7_byPlaces_78 : decode cX7_byPlaces 78 = .ok (.aload_n 0, 1) := by decide +kernel
theorem dX7_byPlaces_79 : decode cX7_byPlaces 79 = .ok (.getfield 32, 3) := by decide +kernel
theorem dX7_byPlaces_82 : decode cX7_byPlaces 82 = .ok (.iload_n 2, 1) := by decide +kernel
theorem dX7_byPlaces_83 : decode cX7_byPlaces 83 = .ok (.iaload, 1) := by decide +kernel
theorem dX7_byPlaces_84 : decode cX7_byPlaces 84 = .ok (.aload_n 1, 1) := by decide +kernel
theorem dX7_byPlaces_85 : decode cX7_byPlaces 85 = .ok (.iconst 3, 1) := by decide +kernel
theorem dX7_byPlaces_86 : decode cX7_byPlaces 86 = .ok (.iaload, 1) := by decide +kernel
theorem dX7_byPlaces_87 : decode cX7_byPlaces 87 = .ok (.iadd, 1) := by decide +kernel
theorem dX7_byPlaces_88 : decode cX7_byPlaces 88 = .ok (.iconst 1, 1) := by decide +kernel
theorem dX7_byPlaces_89 : decode cX7_byPlaces 89 = .ok (.iadd, 1) := by decide +kernel
theorem dX7_byPlaces_90 : decode cX7_byPlaces 90 = .ok (.invokestatic 76, 3) := by decide +kernel
theorem dX7_byPlaces_93 : decode cX7_byPlaces 93 = .ok (.putfield 87, 3) := by decide +kernel
theorem dX7_byPlaces_96 : decode cX7_byPlaces 96 = .ok (.return_, 1) := by decide +kernel
theorem dX7_byKeys_0 : decode cX7_byKeys 0 = .ok (.aload_n 0, 1) := by decide +kernel
theorem dX7_byKeys_1 : decode cX7_byKeys 1 = .ok (.getfield 35, 3) := by decide +kernel
theorem dX7_byKeys_4 : decode cX7_byKeys 4 = .ok (.iload_n 2, 1) := by decide +kernel
theorem dX7_byKeys_5 : decode cX7_byKeys 5 = .ok (.iaload, 1) := by decide +kernel
theorem dX7_byKeys_6 : decode cX7_byKeys 6 = .ok (.istore_n 3, 1) := by decide +kernel
theorem dX7_byKeys_7 : decode cX7_byKeys 7 = .ok (.aload_n 0, 1) := by decide +kernel
theorem dX7_byKeys_8 : decode cX7_byKeys 8 = .ok (.getfield 35, 3) := by decide +kernel
theorem dX7_byKeys_11 : decode cX7_byKeys 11 = .ok (.iload_n 2, 1) := by decide +kernel
theorem dX7_byKeys_12 : decode cX7_byKeys 12 = .ok (.iaload, 1) := by decide +kernel
theorem dX7_byKeys_13 : decode cX7_byKeys 13 = .ok (.aload_n 0, 1) := by decide +kernel
theorem dX7_byKeys_14 : decode cX7_byKeys 14 = .ok (.getfield 38, 3) := by decide +kernel
theorem dX7_byKeys_17 : decode cX7_byKeys 17 = .ok (.iload_n 2, 1) := by decide +kernel
theorem dX7_byKeys_18 : decode cX7_byKeys 18 = .ok (.iaload, 1) := by decide +kernel
theorem dX7_byKeys_19 : decode cX7_byKeys 19 = .ok (.iadd, 1) := by decide +kernel
theorem dX7_byKeys_20 : decode cX7_byKeys 20 = .ok (.istore 4, 2) := by decide +kernel
theorem dX7_byKeys_22 : decode cX7_byKeys 22 = .ok (.aload_n 1, 1) := by decide +kernel
theorem dX7_byKeys_23 : decode cX7_byKeys 23 = .ok (.bipush 46, 2) := by decide +kernel
theorem dX7_byKeys_25 : decode cX7_byKeys 25 = .ok (.iload_n 2, 1) := by decide +kernel
theorem dX7_byKeys_26 : decode cX7_byKeys 26 = .ok (.iadd, 1) := by decide +kernel
theorem dX7_byKeys_27 : decode cX7_byKeys 27 = .ok (.iaload, 1) := by decide +kernel
theorem dX7_byKeys_28 : decode cX7_byKeys 28 = .ok (.istore 5, 2) := by decide +kernel
theorem dX7_byKeys_30 : decode cX7_byKeys 30 = .ok (.aload_n 0, 1) := by decide +kernel
theorem dX7_byKeys_31 : decode cX7_byKeys 31 = .ok (.iload_n 3, 1) := by decide +kernel
theorem dX7_byKeys_32 : decode cX7_byKeys 32 = .ok (.putfield 83, 3) := by decide +kernel
theorem dX7_byKeys_35 : decode cX7_byKeys 35 = .ok (.aload_n 0, 1) := by decide +kernel
theorem dX7_byKeys_36 : decode cX7_byKeys 36 = .ok (.iload 4, 2) := by decide +kernel
theorem dX7_byKeys_38 : decode cX7_byKeys 38 = .ok (.putfield 87, 3) := by decide +kernel
theorem dX7_byKeys_41 : decode cX7_byKeys 41 = .ok (.iload 5, 2) := by decide +kernel
theorem dX7_byKeys_43 : decode cX7_byKeys 43 = .ok (.ldc 66, 2) := by decide +kernel
theorem dX7_byKeys_45 : decode cX7_byKeys 45 = .ok (.if_icmp .ne 56, 3) := by decide +kernel
theorem dX7_byKeys_48 : decode cX7_byKeys 48 = .ok (.aload_n 0, 1) := by decide +kernel
theorem dX7_byKeys_49 : decode cX7_byKeys 49 = .ok (.aload_n 1, 1) := by decide +kernel
theorem dX7_byKeys_50 : decode cX7_byKeys 50 = .ok (.iconst 2, 1) := by decide +kernel
theorem dX7_byKeys_51 : decode cX7_byKeys 51 = .ok (.iaload, 1) := by decide +kernel
theorem dX7_byKeys_52 : decode cX7_byKeys 52 = .ok (.bipush 99, 2) := by decide +kernel
theorem dX7_byKeys_54 : decode cX7_byKeys 54 = .ok (.if_icmp .ne 7, 3) := by decide +kernel
theorem dX7_byKeys_57 : decode cX7_byKeys 57 = .ok (.iload_n 3, 1) := by decide +kernel
theorem dX7_byKeys_58 : decode cX7_byKeys 58 = .ok (.goto 9, 3) := by decide +kernel
theorem dX7_byKeys_61 : decode cX7_byKeys 61 = .ok (.aload_n 0, 1) := by decide +kernel
theorem dX7_byKeys_62 : decode cX7_byKeys 62 = .ok (.getfield 41, 3) := by decide +kernel
theorem dX7_byKeys_65 : decode cX7_byKeys 65 = .ok (.iload_n 2, 1) := by decide +kernel
theorem dX7_byKeys_66 : decode cX7_byKeys 66 = .ok (.iaload, 1) := by decide +kernel
theorem dX7_byKeys_67 : decode cX7_byKeys 67 = .ok (.putfield 83, 3) := by decide +kernel
theorem dX7_byKeys_70 : decode cX7_byKeys 70 = .ok (.aload_n 0, 1) := by decide +kernel
theorem dX7_byKeys_71 : decode cX7_byKeys 71 = .ok (.aload_n 1, 1) := by decide +kernel
theorem dX7_byKeys_72 : decode cX7_byKeys 72 = .ok (.iconst 3, 1) := by decide +kernel
theorem dX7_byKeys_73 : decode cX7_byKeys 73 = .ok (.iaload, 1) := by decide +kernel
theorem dX7_byKeys_74 : decode cX7_byKeys 74 = .ok (.bipush 99, 2) := by decide +kernel
theorem dX7_byKeys_76 : decode cX7_byKeys 76 = .ok (.if_icmp .ne 8, 3) := by decide +kernel
theorem dX7_byKeys_79 : decode cX7_byKeys 79 = .ok (.iload 4, 2) := by decide +kernel
theorem dX7_byKeys_81 : decode cX7_byKeys 81 = .ok (.goto 16, 3) := by decide +kernel
theorem dX7_byKeys_84 : decode cX7_byKeys 84 = .ok (.aload_n 0, 1) := by decide +kernel
theorem dX7_byKeys_85 : decode cX7_byKeys 85 = .ok (.getfield 41, 3) := by decide +kernel
theorem dX7_byKeys_88 : decode cX7_byKeys 88 = .ok (.iload_n 2, 1) := by decide +kernel
theorem dX7_byKeys_89 : decode cX7_byKeys 89 = .ok (.iaload, 1) := by decide +kernel
theorem dX7_byKeys_90 : decode cX7_byKeys 90 = .ok (.aload_n 0, 1) := by decide +kernel
theorem dX7_byKeys_91 : decode cX7_byKeys 91 = .ok (.getfield 44, 3) := by decide +kernel
theorem dX7_byKeys_94 : decode cX7_byKeys 94 = .ok (.iload_n 2, 1) := by decide +kernel
theorem dX7_byKeys_95 : decode cX7_byKeys 95 = .ok (.iaload, 1) := by decide +kernel
theorem dX7_byKeys_96 : decode cX7_byKeys 96 = .ok (.iadd, 1) := by decide +kernel
theorem dX7_byKeys_97 : decode cX7_byKeys 97 = .ok (.putfield 87, 3) := by decide +kernel
theorem dX7_byKeys_100 : decode cX7_byKeys 100 = .ok (.return_, 1) := by decide +kernel
theorem dX7_byKeys_101 : decode cX7_byKeys 101 = .ok (.aload_n 1, 1) := by decide +kernel
theorem dX7_byKeys_102 : decode cX7_byKeys 102 = .ok (.iconst 2, 1) := by decide +kernel
theorem dX7_byKeys_103 : decode cX7_byKeys 103 = .ok (.iaload, 1) := by decide +kernel
theorem dX7_byKeys_104 : decode cX7_byKeys 104 = .ok (.bipush 99, 2) := by decide +kernel
theorem dX7_byKeys_106 : decode cX7_byKeys 106 = .ok (.if_icmp .eq 74, 3) := by decide +kernel
theorem dX7_byKeys_109 : decode cX7_byKeys 109 = .ok (.aload_n 0, 1) := by decide +kernel
theorem dX7_byKeys_110 : decode cX7_byKeys 110 = .ok (.getfield 83, 3) := by decide +kernel
theorem dX7_byKeys_113 : decode cX7_byKeys 113 = .ok (.iload 4, 2) := by decide +kernel
theorem dX7_byKeys_115 : decode cX7_byKeys 115 = .ok (.if_icmp .ge 65, 3) := by decide +kernel
theorem dX7_byKeys_118 : decode cX7_byKeys 118 = .ok (.aload_n 1, 1) := by decide +kernel
theorem dX7_byKeys_119 : decode cX7_byKeys 119 = .ok (.bipush 46, 2) := by decide +kernel
theorem dX7_byKeys_121 : decode cX7_byKeys 121 = .ok (.aload_n 0, 1) := by decide +kernel
theorem dX7_byKeys_122 : decode cX7_byKeys 122 = .ok (.getfield 29, 3) := by decide +kernel
theorem dX7_byKeys_125 : decode cX7_byKeys 125 = .ok (.aload_n 0, 1) := by decide +kernel
theorem dX7_byKeys_126 : decode cX7_byKeys 126 = .ok (.getfield 83, 3) := by decide +kernel
theorem dX7_byKeys_129 : decode cX7_byKeys 129 = .ok (.iaload, 1) := by decide +kernel
theorem dX7_byKeys_130 : decode cX7_byKeys 130 = .ok (.iadd, 1) := by decide +kernel
theorem dX7_byKeys_131 : decode cX7_byKeys 131 = .ok (.iaload, 1) := by decide +kernel
theorem dX7_byKeys_132 : decode cX7_byKeys 132 = .ok (.ldc 66, 2) := by decide +kernel
theorem dX7_byKeys_134 : decode cX7_byKeys 134 = .ok (.if_icmp .ne 10, 3) := by decide +kernel
theorem dX7_byKeys_137 : decode cX7_byKeys 137 = .ok (.aload_n 1, 1) := by decide +kernel
theorem dX7_byKeys_138 : decode cX7_byKeys 138 = .ok (.iconst 5, 1) := by decide +kernel
theorem dX7_byKeys_139 : decode cX7_byKeys 139 = .ok (.iaload, 1) := by decide +kernel
theorem dX7_byKeys_140 : decode cX7_byKeys 140 = .ok (.iconst 1, 1) := by decide +kernel
theorem dX7_byKeys_141 : decode cX7_byKeys 141 = .ok (.if_icmp .eq 26, 3) := by decide +kernel
theorem dX7_byKeys_144 : decode cX7_byKeys 144 = .ok (.aload_n 1, 1) := by decide +kernel
theorem dX7_byKeys_145 : decode cX7_byKeys 145 = .ok (.bipush 46, 2) := by decide +kernel
theorem dX7_byKeys_147 : decode cX7_byKeys 147 = .ok (.aload_n 0, 1) := by decide +kernel
theorem dX7_byKeys_148 : decode cX7_byKeys 148 = .ok (.getfield 29, 3) := by decide +kernel
theorem dX7_byKeys_151 : decode cX7_byKeys 151 = .ok (.aload_n 0, 1) := by decide +kernel
theorem dX7_byKeys_152 : decode cX7_byKeys 152 = .ok (.getfield 83, 3) := by decide +kernel
theorem dX7_byKeys_155 : decode cX7_byKeys 155 = .ok (.iaload, 1) := by decide +kernel
theorem dX7_byKeys_156 : decode cX7_byKeys 156 = .ok (.iadd, 1) := by decide +kernel
theorem dX7_byKeys_157 : decode cX7_byKeys 157 = .ok (.iaload, 1) := by decide +kernel
theorem dX7_byKeys_158 : decode cX7_byKeys 158 = .ok (.iload 5, 2) := by decide +kernel
theorem dX7_byKeys_160 : decode cX7_byKeys 160 = .ok (.aload_n 1, 1) := by decide +kernel
theorem dX7_byKeys_161 : decode cX7_byKeys 161 = .ok (.iconst 2, 1) := by decide +kernel
theorem dX7_byKeys_162 : decode cX7_byKeys 162 = .ok (.iaload, 1) := by decide +kernel
theorem dX7_byKeys_163 : decode cX7_byKeys 163 = .ok (.iadd, 1) := by decide +kernel
theorem dX7_byKeys_164 : decode cX7_byKeys 164 = .ok (.if_icmp .ge 16, 3) := by decide +kernel
theorem dX7_byKeys_167 : decode cX7_byKeys 167 = .ok (.aload_n 0, 1) := by decide +kernel
theorem dX7_byKeys_168 : decode cX7_byKeys 168 = .ok (.dup, 1) := by decide +kernel
theorem dX7_byKeys_169 : decode cX7_byKeys 169 = .ok (.getfield 83, 3) := by decide +kernel
theorem dX7_byKeys_172 : decode cX7_byKeys 172 = .ok (.iconst 1, 1) := by decide +kernel
theorem dX7_byKeys_173 : decode cX7_byKeys 173 = .ok (.iadd, 1) := by decide +kernel
theorem dX7_byKeys_174 : decode cX7_byKeys 174 = .ok (.putfield 83, 3) := by decide +kernel
theorem dX7_byKeys_177 : decode cX7_byKeys 177 = .ok (.goto (-68), 3) := by decide +kernel
theorem dX7_byKeys_180 : decode cX7_byKeys 180 = .ok (.aload_n 1, 1) := by decide +kernel
theorem dX7_byKeys_181 : decode cX7_byKeys 181 = .ok (.iconst 3, 1) := by decide +kernel
theorem dX7_byKeys_182 : decode cX7_byKeys 182 = .ok (.iaload, 1) := by decide +kernel
theorem dX7_byKeys_183 : decode cX7_byKeys 183 = .ok (.bipush 99, 2) := by decide +kernel
theorem dX7_byKeys_185 : decode cX7_byKeys 185 = .ok (.if_icmp .eq 79, 3) := by decide +kernel
theorem dX7_byKeys_188 : decode cX7_byKeys 188 = .ok (.aload_n 0, 1) := by decide +kernel
theorem dX7_byKeys_189 : decode cX7_byKeys 189 = .ok (.getfield 87, 3) := by decide +kernel
theorem dX7_byKeys_192 : decode cX7_byKeys 192 = .ok (.iload_n 3, 1) := by decide +kernel
theorem dX7_byKeys_193 : decode cX7_byKeys 193 = .ok (.if_icmp .le 71, 3) := by decide +kernel
theorem dX7_byKeys_196 : decode cX7_byKeys 196 = .ok (.aload_n 1, 1) := by decide +kernel
theorem dX7_byKeys_197 : decode cX7_byKeys 197 = .ok (.bipush 46, 2) := by decide +kernel
theorem dX7_byKeys_199 : decode cX7_byKeys 199 = .ok (.aload_n 0, 1) := by decide +kernel
theorem dX7_byKeys_200 : decode cX7_byKeys 200 = .ok (.getfield 29, 3) := by decide +kernel
theorem dX7_byKeys_203 : decode cX7_byKeys 203 = .ok (.aload_n 0, 1) := by decide +kernel
theorem dX7_byKeys_204 : decode cX7_byKeys 204 = .ok (.getfield 87, 3) := by decide +kernel
theorem dX7_byKeys_207 : decode cX7_byKeys 207 = .ok (.iconst 1, 1) := by decide +kernel
theorem dX7_byKeys_208 : decode cX7_byKeys 208 = .ok (.isub, 1) := by decide +kernel
theorem dX7_byKeys_209 : decode cX7_byKeys 209 = .ok (.iaload, 1) := by decide +kernel
theorem dX7_byKeys_210 : decode cX7_byKeys 210 = .ok (.iadd, 1) := by decide +kernel
theorem dX7_byKeys_211 : decode cX7_byKeys 211 = .ok (.iaload, 1) := by decide +kernel
theorem dX7_byKeys_212 : decode cX7_byKeys 212 = .ok (.ldc 66, 2) := by decide +kernel
theorem dX7_byKeys_214 : decode cX7_byKeys 214 = .ok (.if_icmp .ne 12, 3) := by decide +kernel
theorem dX7_byKeys_217 : decode cX7_byKeys 217 = .ok (.aload_n 1, 1) := by decide +kernel
theorem dX7_byKeys_218 : decode cX7_byKeys 218 = .ok (.iconst 5, 1) := by decide +kernel
theorem dX7_byKeys_219 : decode cX7_byKeys 219 = .ok (.iaload, 1) := by decide +kernel
theorem dX7_byKeys_220 : decode cX7_byKeys 220 = .ok (.ifCond .ne 44, 3) := by decide +kernel
theorem dX7_byKeys_223 : decode cX7_byKeys 223 = .ok (.goto 28, 3) := by decide +kernel
theorem dX7_byKeys_226 : decode cX7_byKeys 226 = .ok (.aload_n 1, 1) := by decide +kernel
theorem dX7_byKeys_227 : decode cX7_byKeys 227 = .ok (.bipush 46, 2) := by decide +kernel
theorem dX7_byKeys_229 : decode cX7_byKeys 229 = .ok (.aload_n 0, 1) := by decide +kernel
theorem dX7_byKeys_230 : decode cX7_byKeys 230 = .ok (.getfield 29, 3) := by decide +kernel
theorem dX7_byKeys_233 : decode cX7_byKeys 233 = .ok (.aload_n 0, 1) := by decide +kernel
theorem dX7_byKeys_234 : decode cX7_byKeys 234 = .ok (.getfield 87, 3) := by decide +kernel
theorem dX7_byKeys_237 : decode cX7_byKeys 237 = .ok (.iconst 1, 1) := by decide +kernel
theorem dX7_byKeys_238 : decode cX7_byKeys 238 = .ok (.isub, 1) := by decide +kernel
theorem dX7_byKeys_239 : decode cX7_byKeys 239 = .ok (.iaload, 1) := by decide +kernel
theorem dX7_byKeys_240 : decode cX7_byKeys 240 = .ok (.iadd, 1) := by decide +kernel
theorem dX7_byKeys_241 : decode cX7_byKeys 241 = .ok (.iaload, 1) := by decide +kernel
theorem dX7_byKeys_242 : decode cX7_byKeys 242 = .ok (.iload 5, 2) := by decide +kernel
theorem dX7_byKeys_244 : decode cX7_byKeys 244 = .ok (.aload_n 1, 1) := by decide +kernel
theorem dX7_byKeys_245 : decode cX7_byKeys 245 = .ok (.iconst 3, 1) := by decide +kernel
theorem dX7_byKeys_246 : decode cX7_byKeys 246 = .ok (.iaload, 1) := by decide +kernel
theorem dX7_byKeys_247 : decode cX7_byKeys 247 = .ok (.iadd, 1) := by decide +kernel
theorem dX7_byKeys_248 : decode cX7_byKeys 248 = .ok (.if_icmp .le 16, 3) := by decide +kernel
theorem dX7_byKeys_251 : decode cX7_byKeys 251 = .ok (.aload_n 0, 1) := by decide +kernel
theorem dX7_byKeys_252 : decode cX7_byKeys 252 = .ok (.dup, 1) := by decide +kernel
theorem dX7_byKeys_253 : decode cX7_byKeys 253 = .ok (.getfield 87, 3) := by decide +kernel
theorem dX7_byKeys_256 : decode cX7_byKeys 256 = .ok (.iconst 1, 1) := by decide +kernel
theorem dX7_byKeys_257 : decode cX7_byKeys 257 = .ok (.isub, 1) := by decide +kernel
theorem dX7_byKeys_258 : decode cX7_byKeys 258 = .ok (.putfield 87, 3) := by decide +kernel
theorem dX7_byKeys_261 : decode cX7_byKeys 261 = .ok (.goto (-73), 3) := by decide +kernel
theorem dX7_byKeys_264 : decode cX7_byKeys 264 = .ok (.return_, 1) := by decide +kernel
theorem dX7_byGroups_0 : decode cX7_byGroups 0 = .ok (.aload_n 0, 1) := by decide +kernel
theorem dX7_byGroups_1 : decode cX7_byGroups 1 = .ok (.getfield 35, 3) := by decide +kernel
theorem dX7_byGroups_4 : decode cX7_byGroups 4 = .ok (.iload_n 2, 1) := by decide +kernel
theorem dX7_byGroups_5 : decode cX7_byGroups 5 = .ok (.iaload, 1) := by decide +kernel
theorem dX7_byGroups_6 : decode cX7_byGroups 6 = .ok (.aload_n 0, 1) := by decide +kernel
theorem dX7_byGroups_7 : decode cX7_byGroups 7 = .ok (.getfield 38, 3) := by decide +kernel
theorem dX7_byGroups_10 : decode cX7_byGroups 10 = .ok (.iload_n 2, 1) := by decide +kernel
theorem dX7_byGroups_11 : decode cX7_byGroups 11 = .ok (.iaload, 1) := by decide +kernel
theorem dX7_byGroups_12 : decode cX7_byGroups 12 = .ok (.iadd, 1) := by decide +kernel
theorem dX7_byGroups_13 : decode cX7_byGroups 13 = .ok (.istore_n 3, 1) := by decide +kernel
theorem dX7_byGroups_14 : decode cX7_byGroups 14 = .ok (.aload_n 0, 1) := by decide +kernel
theorem dX7_byGroups_15 : decode cX7_byGroups 15 = .ok (.aload_n 0, 1) := by decide +kernel
theorem dX7_byGroups_16 : decode cX7_byGroups 16 = .ok (.getfield 35, 3) := by decide +kernel
theorem dX7_byGroups_19 : decode cX7_byGroups 19 = .ok (.iload_n 2, 1) := by decide +kernel
theorem dX7_byGroups_20 : decode cX7_byGroups 20 = .ok (.iaload, 1) := by decide +kernel
theorem dX7_byGroups_21 : decode cX7_byGroups 21 = .ok (.putfield 83, 3) := by decide +kernel
theorem dX7_byGroups_24 : decode cX7_byGroups 24 = .ok (.aload_n 0, 1) := by decide +kernel
theorem dX7_byGroups_25 : decode cX7_byGroups 25 = .ok (.iload_n 3, 1) := by decide +kernel
theorem dX7_byGroups_26 : decode cX7_byGroups 26 = .ok (.putfield 87, 3) := by decide +kernel
theorem dX7_byGroups_29 : decode cX7_byGroups 29 = .ok (.aload_n 0, 1) := by decide +kernel
theorem dX7_byGroups_30 : decode cX7_byGroups 30 = .ok (.getfield 83, 3) := by decide +kernel
theorem dX7_byGroups_33 : decode cX7_byGroups 33 = .ok (.iload_n 3, 1) := by decide +kernel
theorem dX7_byGroups_34 : decode cX7_byGroups 34 = .ok (.if_icmp .ge 51, 3) := by decide +kernel
theorem dX7_byGroups_37 : decode cX7_byGroups 37 = .ok (.aload_n 1, 1) := by decide +kernel
theorem dX7_byGroups_38 : decode cX7_byGroups 38 = .ok (.iconst 2, 1) := by decide +kernel
theorem dX7_byGroups_39 : decode cX7_byGroups 39 = .ok (.iaload, 1) := by decide +kernel
theorem dX7_byGroups_40 : decode cX7_byGroups 40 = .ok (.bipush 99, 2) := by decide +kernel
theorem dX7_byGroups_42 : decode cX7_byGroups 42 = .ok (.if_icmp .eq 43, 3) := by decide +kernel
theorem dX7_byGroups_45 : decode cX7_byGroups 45 = .ok (.aload_n 0, 1) := by decide +kernel
theorem dX7_byGroups_46 : decode cX7_byGroups 46 = .ok (.getfield 47, 3) := by decide +kernel
theorem dX7_byGroups_49 : decode cX7_byGroups 49 = .ok (.aload_n 0, 1) := by decide +kernel
theorem dX7_byGroups_50 : decode cX7_byGroups 50 = .ok (.getfield 29, 3) := by decide +kernel
theorem dX7_byGroups_53 : decode cX7_byGroups 53 = .ok (.aload_n 0, 1) := by decide +kernel
theorem dX7_byGroups_54 : decode cX7_byGroups 54 = .ok (.getfield 83, 3) := by decide +kernel
theorem dX7_byGroups_57 : decode cX7_byGroups 57 = .ok (.iaload, 1) := by decide +kernel
theorem dX7_byGroups_58 : decode cX7_byGroups 58 = .ok (.iaload, 1) := by decide +kernel
theorem dX7_byGroups_59 : decode cX7_byGroups 59 = .ok (.aload_n 0, 1) := by decide +kernel
theorem dX7_byGroups_60 : decode cX7_byGroups 60 = .ok (.getfield 47, 3) := by decide +kernel
theorem dX7_byGroups_63 : decode cX7_byGroups 63 = .ok (.iload_n 2, 1) := by decide +kernel
theorem dX7_byGroups_64 : decode cX7_byGroups 64 = .ok (.iaload, 1) := by decide +kernel
theorem dX7_byGroups_65 : decode cX7_byGroups 65 = .ok (.aload_n 1, 1) := by decide +kernel
theorem dX7_byGroups_66 : decode cX7_byGroups 66 = .ok (.iconst 2, 1) := by decide +kernel
theorem dX7_byGroups_67 : decode cX7_byGroups 67 = .ok (.iaload, 1) := by decide +kernel
theorem dX7_byGroups_68 : decode cX7_byGroups 68 = .ok (.iadd, 1) := by decide +kernel
theorem dX7_byGroups_69 : decode cX7_byGroups 69 = .ok (.if_icmp .ge 16, 3) := by decide +kernel
theorem dX7_byGroups_72 : decode cX7_byGroups 72 = .ok (.aload_n 0, 1) := by decide +kernel
theorem dX7_byGroups_73 : decode cX7_byGroups 73 = .ok (.dup, 1) := by decide +kernel
theorem dX7_byGroups_74 : decode cX7_byGroups 74 = .ok (.getfield 83, 3) := by decide +kernel
theorem dX7_byGroups_77 : decode cX7_byGroups 77 = .ok (.iconst 1, 1) := by decide +kernel
theorem dX7_byGroups_78 : decode cX7_byGroups 78 = .ok (.iadd, 1) := by decide +kernel
theorem dX7_byGroups_79 : decode cX7_byGroups 79 = .ok (.putfield 83, 3) := by decide +kernel
theorem dX7_byGroups_82 : decode cX7_byGroups 82 = .ok (.goto (-53), 3) := by decide +kernel
theorem dX7_byGroups_85 : decode cX7_byGroups 85 = .ok (.aload_n 0, 1) := by decide +kernel
theorem dX7_byGroups_86 : decode cX7_byGroups 86 = .ok (.getfield 87, 3) := by decide +kernel
theorem dX7_byGroups_89 : decode cX7_byGroups 89 = .ok (.aload_n 0, 1) := by decide +kernel
theorem dX7_byGroups_90 : decode cX7_byGroups 90 = .ok (.getfield 35, 3) := by decide +kernel
theorem dX7_byGroups_93 : decode cX7_byGroups 93 = .ok (.iload_n 2, 1) := by decide +kernel
theorem dX7_byGroups_94 : decode cX7_byGroups 94 = .ok (.iaload, 1) := by decide +kernel
theorem dX7_byGroups_95 : decode cX7_byGroups 95 = .ok (.if_icmp .le 53, 3) := by decide +kernel
theorem dX7_byGroups_98 : decode cX7_byGroups 98 = .ok (.aload_n 1, 1) := by decide +kernel
theorem dX7_byGroups_99 : decode cX7_byGroups 99 = .ok (.iconst 3, 1) := by decide +kernel
theorem dX7_byGroups_100 : decode cX7_byGroups 100 = .ok (.iaload, 1) := by decide +kernel
theorem dX7_byGroups_101 : decode cX7_byGroups 101 = .ok (.bipush 99, 2) := by decide +kernel
theorem dX7_byGroups_103 : decode cX7_byGroups 103 = .ok (.if_icmp .eq 45, 3) := by decide +kernel
theorem dX7_byGroups_106 : decode cX7_byGroups 106 = .ok (.aload_n 0, 1) := by decide +kernel
theorem dX7_byGroups_107 : decode cX7_byGroups 107 = .ok (.getfield 47, 3) := by decide +kernel
theorem dX7_byGroups_110 : decode cX7_byGroups 110 = .ok (.aload_n 0, 1) := by decide +kernel
theorem dX7_byGroups_111 : decode cX7_byGroups 111 = .ok (.getfield 29, 3) := by decide +kernel
theorem dX7_byGroups_114 : decode cX7_byGroups 114 = .ok (.aload_n 0, 1) := by decide +kernel
theorem dX7_byGroups_115 : decode cX7_byGroups 115 = .ok (.getfield 87, 3) := by decide +kernel
theorem dX7_byGroups_118 : decode cX7_byGroups 118 = .ok (.iconst 1, 1) := by decide +kernel
theorem dX7_byGroups_119 : decode cX7_byGroups 119 = .ok (.isub, 1) := by decide +kernel
theorem dX7_byGroups_120 : decode cX7_byGroups 120 = .ok (.iaload, 1) := by decide +kernel
theorem dX7_byGroups_121 : decode cX7_byGroups 121 = .ok (.iaload, 1) := by decide +kernel
theorem dX7_byGroups_122 : decode cX7_byGroups 122 = .ok (.aload_n 0, 1) := by decide +kernel
theorem dX7_byGroups_123 : decode cX7_byGroups 123 = .ok (.getfield 47, 3) := by decide +kernel
theorem dX7_byGroups_126 : decode cX7_byGroups 126 = .ok (.iload_n 2, 1) := by decide +kernel
theorem dX7_byGroups_127 : decode cX7_byGroups 127 = .ok (.iaload, 1) := by decide +kernel
theorem dX7_byGroups_128 : decode cX7_byGroups 128 = .ok (.aload_n 1, 1) := by decide +kernel
theorem dX7_byGroups_129 : decode cX7_byGroups 129 = .ok (.iconst 3, 1) := by decide +kernel
theorem dX7_byGroups_130 : decode cX7_byGroups 130 = .ok (.iaload, 1) := by decide +kernel
theorem dX7_byGroups_131 : decode cX7_byGroups 131 = .ok (.iadd, 1) := by decide +kernel
theorem dX7_byGroups_132 : decode cX7_byGroups 132 = .ok (.if_icmp .le 16, 3) := by decide +kernel
theorem dX7_byGroups_135 : decode cX7_byGroups 135 = .ok (.aload_n 0, 1) := by decide +kernel
theorem dX7_byGroups_136 : decode cX7_byGroups 136 = .ok (.dup, 1) := by decide +kernel
theorem dX7_byGroups_137 : decode cX7_byGroups 137 = .ok (.getfield 87, 3) := by decide +kernel
theorem dX7_byGroups_140 : decode cX7_byGroups 140 = .ok (.iconst 1, 1) := by decide +kernel
theorem dX7_byGroups_141 : decode cX7_byGroups 141 = .ok (.isub, 1) := by decide +kernel
theorem dX7_byGroups_142 : decode cX7_byGroups 142 = .ok (.putfield 87, 3) := by decide +kernel
theorem dX7_byGroups_145 : decode cX7_byGroups 145 = .ok (.goto (-60), 3) := by decide +kernel
theorem dX7_byGroups_148 : decode cX7_byGroups 148 = .ok (.return_, 1) := by decide +kernel
theorem dX7_frames_0 : decode cX7_frames 0 = .ok (.aload_n 1, 1) := by decide +kernel
theorem dX7_frames_1 : decode cX7_frames 1 = .ok (.iconst 1, 1) := by decide +kernel
theorem dX7_frames_2 : decode cX7_frames 2 = .ok (.iaload, 1) := by decide +kernel
theorem dX7_frames_3 : decode cX7_frames 3 = .ok (.ifCond .ne 12, 3) := by decide +kernel
theorem dX7_frames_6 : decode cX7_frames 6 = .ok (.aload_n 0, 1) := by decide +kernel
theorem dX7_frames_7 : decode cX7_frames 7 = .ok (.aload_n 1, 1) := by decide +kernel
theorem dX7_frames_8 : decode cX7_frames 8 = .ok (.iload_n 2, 1) := by decide +kernel
theorem dX7_frames_9 : decode cX7_frames 9 = .ok (.invokevirtual 90, 3) := by decide +kernel
theorem dX7_frames_12 : decode cX7_frames 12 = .ok (.goto 25, 3) := by decide +kernel
theorem dX7_frames_15 : decode cX7_frames 15 = .ok (.aload_n 1, 1) := by decide +kernel
theorem dX7_frames_16 : decode cX7_frames 16 = .ok (.iconst 1, 1) := by decide +kernel
theorem dX7_frames_17 : decode cX7_frames 17 = .ok (.iaload, 1) := by decide +kernel
theorem dX7_frames_18 : decode cX7_frames 18 = .ok (.iconst 1, 1) := by decide +kernel
theorem dX7_frames_19 : decode cX7_frames 19 = .ok (.if_icmp .ne 12, 3) := by decide +kernel
theorem dX7_frames_22 : decode cX7_frames 22 = .ok (.aload_n 0, 1) := by decide +kernel
theorem dX7_frames_23 : decode cX7_frames 23 = .ok (.aload_n 1, 1) := by decide +kernel
theorem dX7_frames_24 : decode cX7_frames 24 = .ok (.iload_n 2, 1) := by decide +kernel
theorem dX7_frames_25 : decode cX7_frames 25 = .ok (.invokevirtual 94, 3) := by decide +kernel
theorem dX7_frames_28 : decode cX7_frames 28 = .ok (.goto 9, 3) := by decide +kernel
theorem dX7_frames_31 : decode cX7_frames 31 = .ok (.aload_n 0, 1) := by decide +kernel
theorem dX7_frames_32 : decode cX7_frames 32 = .ok (.aload_n 1, 1) := by decide +kernel
theorem dX7_frames_33 : decode cX7_frames 33 = .ok (.iload_n 2, 1) := by decide +kernel
theorem dX7_frames_34 : decode cX7_frames 34 = .ok (.invokevirtual 97, 3) := by decide +kernel
theorem dX7_frames_37 : decode cX7_frames 37 = .ok (.aload_n 0, 1) := by decide +kernel
theorem dX7_frames_38 : decode cX7_frames 38 = .ok (.iconst 0, 1) := by decide +kernel
theorem dX7_frames_39 : decode cX7_frames 39 = .ok (.putfield 100, 3) := by decide +kernel
theorem dX7_frames_42 : decode cX7_frames 42 = .ok (.aload_n 0, 1) := by decide +kernel
theorem dX7_frames_43 : decode cX7_frames 43 = .ok (.getfield 83, 3) := by decide +kernel
theorem dX7_frames_46 : decode cX7_frames 46 = .ok (.istore_n 3, 1) := by decide +kernel
theorem dX7_frames_47 : decode cX7_frames 47 = .ok (.iload_n 3, 1) := by decide +kernel
theorem dX7_frames_48 : decode cX7_frames 48 = .ok (.aload_n 0, 1) := by decide +kernel
theorem dX7_frames_49 : decode cX7_frames 49 = .ok (.getfield 87, 3) := by decide +kernel
theorem dX7_frames_52 : decode cX7_frames 52 = .ok (.if_icmp .ge 116, 3) := by decide +kernel
theorem dX7_frames_55 : decode cX7_frames 55 = .ok (.aload_n 0, 1) := by decide +kernel
theorem dX7_frames_56 : decode cX7_frames 56 = .ok (.getfield 29, 3) := by decide +kernel
theorem dX7_frames_59 : decode cX7_frames 59 = .ok (.iload_n 3, 1) := by decide +kernel
theorem dX7_frames_60 : decode cX7_frames 60 = .ok (.iaload, 1) := by decide +kernel
theorem dX7_frames_61 : decode cX7_frames 61 = .ok (.istore 4, 2) := by decide +kernel
theorem dX7_frames_63 : decode cX7_frames 63 = .ok (.aload_n 1, 1) := by decide +kernel
theorem dX7_frames_64 : decode cX7_frames 64 = .ok (.bipush 46, 2) := by decide +kernel
theorem dX7_frames_66 : decode cX7_frames 66 = .ok (.iload 4, 2) := by decide +kernel
theorem dX7_frames_68 : decode cX7_frames 68 = .ok (.iadd, 1) := by decide +kernel
theorem dX7_frames_69 : decode cX7_frames 69 = .ok (.iaload, 1) := by decide +kernel
theorem dX7_frames_70 : decode cX7_frames 70 = .ok (.aload_n 1, 1) := by decide +kernel
theorem dX7_frames_71 : decode cX7_frames 71 = .ok (.bipush 46, 2) := by decide +kernel
theorem dX7_frames_73 : decode cX7_frames 73 = .ok (.iload_n 2, 1) := by decide +kernel
theorem dX7_frames_74 : decode cX7_frames 74 = .ok (.iadd, 1) := by decide +kernel
theorem dX7_frames_75 : decode cX7_frames 75 = .ok (.iaload, 1) := by decide +kernel
theorem dX7_frames_76 : decode cX7_frames 76 = .ok (.if_icmp .ne 7, 3) := by decide +kernel
theorem dX7_frames_79 : decode cX7_frames 79 = .ok (.iconst 1, 1) := by decide +kernel
theorem dX7_frames_80 : decode cX7_frames 80 = .ok (.goto 4, 3) := by decide +kernel
theorem dX7_frames_83 : decode cX7_frames 83 = .ok (.iconst 0, 1) := by decide +kernel
theorem dX7_frames_84 : decode cX7_frames 84 = .ok (.istore 5, 2) := by decide +kernel
theorem dX7_frames_86 : decode cX7_frames 86 = .ok (.aload_n 1, 1) := by decide +kernel
theorem dX7_frames_87 : decode cX7_frames 87 = .ok (.iconst 4, 1) := by decide +kernel
theorem dX7_frames_88 : decode cX7_frames 88 = .ok (.iaload, 1) := by decide +kernel
theorem dX7_frames_89 : decode cX7_frames 89 = .ok (.iconst 1, 1) := by decide +kernel
theorem dX7_frames_90 : decode cX7_frames 90 = .ok (.if_icmp .ne 9, 3) := by decide +kernel
theorem dX7_frames_93 : decode cX7_frames 93 = .ok (.iload 4, 2) := by decide +kernel
theorem dX7_frames_95 : decode cX7_frames 95 = .ok (.iload_n 2, 1) := by decide +kernel
theorem dX7_frames_96 : decode cX7_frames 96 = .ok (.if_icmp .eq 33, 3) := by decide +kernel
theorem dX7_frames_99 : decode cX7_frames 99 = .ok (.aload_n 1, 1) := by decide +kernel
theorem dX7_frames_100 : decode cX7_frames 100 = .ok (.iconst 4, 1) := by decide +kernel
theorem dX7_frames_101 : decode cX7_frames 101 = .ok (.iaload, 1) := by decide +kernel
theorem dX7_frames_102 : decode cX7_frames 102 = .ok (.iconst 2, 1) := by decide +kernel
theorem dX7_frames_103 : decode cX7_frames 103 = .ok (.if_icmp .ne 8, 3) := by decide +kernel
theorem dX7_frames_106 : decode cX7_frames 106 = .ok (.iload 5, 2) := by decide +kernel
theorem dX7_frames_108 : decode cX7_frames 108 = .ok (.ifCond .ne 21, 3) := by decide +kernel
theorem dX7_frames_111 : decode cX7_frames 111 = .ok (.aload_n 1, 1) := by decide +kernel
theorem dX7_frames_112 : decode cX7_frames 112 = .ok (.iconst 4, 1) := by decide +kernel
theorem dX7_frames_113 : decode cX7_frames 113 = .ok (.iaload, 1) := by decide +kernel
theorem dX7_frames_114 : decode cX7_frames 114 = .ok (.iconst 3, 1) := by decide +kernel
theorem dX7_frames_115 : decode cX7_frames 115 = .ok (.if_icmp .ne 18, 3) := by decide +kernel
theorem dX7_frames_118 : decode cX7_frames 118 = .ok (.iload 5, 2) := by decide +kernel
theorem dX7_frames_120 : decode cX7_frames 120 = .ok (.ifCond .eq 13, 3) := by decide +kernel
theorem dX7_frames_123 : decode cX7_frames 123 = .ok (.iload 4, 2) := by decide +kernel
theorem dX7_frames_125 : decode cX7_frames 125 = .ok (.iload_n 2, 1) := by decide +kernel
theorem dX7_frames_126 : decode cX7_frames 126 = .ok (.if_icmp .eq 7, 3) := by decide +kernel
theorem dX7_frames_129 : decode cX7_frames 129 = .ok (.iconst 1, 1) := by decide +kernel
theorem dX7_frames_130 : decode cX7_frames 130 = .ok (.goto 4, 3) := by decide +kernel
theorem dX7_frames_133 : decode cX7_frames 133 = .ok (.iconst 0, 1) := by decide +kernel
theorem dX7_frames_134 : decode cX7_frames 134 = .ok (.istore 6, 2) := by decide +kernel
theorem dX7_frames_136 : decode cX7_frames 136 = .ok (.iload 6, 2) := by decide +kernel
theorem dX7_frames_138 : decode cX7_frames 138 = .ok (.ifCond .ne 24, 3) := by decide +kernel
theorem dX7_frames_141 : decode cX7_frames 141 = .ok (.aload_n 0, 1) := by decide +kernel
theorem dX7_frames_142 : decode cX7_frames 142 = .ok (.getfield 50, 3) := by decide +kernel
theorem dX7_frames_145 : decode cX7_frames 145 = .ok (.aload_n 0, 1) := by decide +kernel
theorem dX7_frames_146 : decode cX7_frames 146 = .ok (.getfield 100, 3) := by decide +kernel
theorem dX7_frames_149 : decode cX7_frames 149 = .ok (.iload 4, 2) := by decide +kernel
theorem dX7_frames_151 : decode cX7_frames 151 = .ok (.iastore, 1) := by decide +kernel
theorem dX7_frames_152 : decode cX7_frames 152 = .ok (.aload_n 0, 1) := by decide +kernel
theorem dX7_frames_153 : decode cX7_frames 153 = .ok (.dup, 1) := by decide +kernel
theorem dX7_frames_154 : decode cX7_frames 154 = .ok (.getfield 100, 3) := by decide +kernel
theorem dX7_frames_157 : decode cX7_frames 157 = .ok (.iconst 1, 1) := by decide +kernel
theorem dX7_frames_158 : decode cX7_frames 158 = .ok (.iadd, 1) := by decide +kernel
theorem dX7_frames_159 : decode cX7_frames 159 = .ok (.putfield 100, 3) := by decide +kernel
theorem dX7_frames_162 : decode cX7_frames 162 = .ok (.iinc 3 1, 3) := by decide +kernel
theorem dX7_frames_165 : decode cX7_frames 165 = .ok (.goto (-118), 3) := by decide +kernel
theorem dX7_frames_168 : decode cX7_frames 168 = .ok (.return_, 1) := by decide +kernel
theorem dX7_sorts_0 : decode cX7_sorts 0 = .ok (.aload_n 0, 1) := by decide +kernel
theorem dX7_sorts_1 : decode cX7_sorts 1 = .ok (.iconst 0, 1) := by decide +kernel
theorem dX7_sorts_2 : decode cX7_sorts 2 = .ok (.putfield 103, 3) := by decide +kernel
theorem dX7_sorts_5 : decode cX7_sorts 5 = .ok (.iconst 0, 1) := by decide +kernel
theorem dX7_sorts_6 : decode cX7_sorts 6 = .ok (.istore_n 2, 1) := by decide +kernel
theorem dX7_sorts_7 : decode cX7_sorts 7 = .ok (.iload_n 2, 1) := by decide +kernel
theorem dX7_sorts_8 : decode cX7_sorts 8 = .ok (.aload_n 0, 1) := by decide +kernel
theorem dX7_sorts_9 : decode cX7_sorts 9 = .ok (.getfield 100, 3) := by decide +kernel
theorem dX7_sorts_12 : decode cX7_sorts 12 = .ok (.if_icmp .ge 91, 3) := by decide +kernel
theorem dX7_sorts_15 : decode cX7_sorts 15 = .ok (.aload_n 1, 1) := by decide +kernel
theorem dX7_sorts_16 : decode cX7_sorts 16 = .ok (.bipush 86, 2) := by decide +kernel
theorem dX7_sorts_18 : decode cX7_sorts 18 = .ok (.aload_n 0, 1) := by decide +kernel
theorem dX7_sorts_19 : decode cX7_sorts 19 = .ok (.getfield 50, 3) := by decide +kernel
theorem dX7_sorts_22 : decode cX7_sorts 22 = .ok (.iload_n 2, 1) := by decide +kernel
theorem dX7_sorts_23 : decode cX7_sorts 23 = .ok (.iaload, 1) := by decide +kernel
theorem dX7_sorts_24 : decode cX7_sorts 24 = .ok (.iadd, 1) := by decide +kernel
theorem dX7_sorts_25 : decode cX7_sorts 25 = .ok (.iaload, 1) := by decide +kernel
theorem dX7_sorts_26 : decode cX7_sorts 26 = .ok (.istore_n 3, 1) := by decide +kernel
theorem dX7_sorts_27 : decode cX7_sorts 27 = .ok (.iload_n 3, 1) := by decide +kernel
theorem dX7_sorts_28 : decode cX7_sorts 28 = .ok (.ldc 66, 2) := by decide +kernel
theorem dX7_sorts_30 : decode cX7_sorts 30 = .ok (.if_icmp .eq 67, 3) := by decide +kernel
theorem dX7_sorts_33 : decode cX7_sorts 33 = .ok (.aload_n 0, 1) := by decide +kernel
theorem dX7_sorts_34 : decode cX7_sorts 34 = .ok (.getfield 103, 3) := by decide +kernel
theorem dX7_sorts_37 : decode cX7_sorts 37 = .ok (.istore 4, 2) := by decide +kernel
theorem dX7_sorts_39 : decode cX7_sorts 39 = .ok (.iload 4, 2) := by decide +kernel
theorem dX7_sorts_41 : decode cX7_sorts 41 = .ok (.ifCond .le 38, 3) := by decide +kernel
theorem dX7_sorts_44 : decode cX7_sorts 44 = .ok (.aload_n 0, 1) := by decide +kernel
theorem dX7_sorts_45 : decode cX7_sorts 45 = .ok (.getfield 53, 3) := by decide +kernel
theorem dX7_sorts_48 : decode cX7_sorts 48 = .ok (.iload 4, 2) := by decide +kernel
theorem dX7_sorts_50 : decode cX7_sorts 50 = .ok (.iconst 1, 1) := by decide +kernel
theorem dX7_sorts_51 : decode cX7_sorts 51 = .ok (.isub, 1) := by decide +kernel
theorem dX7_sorts_52 : decode cX7_sorts 52 = .ok (.iaload, 1) := by decide +kernel
theorem dX7_sorts_53 : decode cX7_sorts 53 = .ok (.iload_n 3, 1) := by decide +kernel
theorem dX7_sorts_54 : decode cX7_sorts 54 = .ok (.if_icmp .le 25, 3) := by decide +kernel
theorem dX7_sorts_57 : decode cX7_sorts 57 = .ok (.aload_n 0, 1) := by decide +kernel
theorem dX7_sorts_58 : decode cX7_sorts 58 = .ok (.getfield 53, 3) := by decide +kernel
theorem dX7_sorts_61 : decode cX7_sorts 61 = .ok (.iload 4, 2) := by decide +kernel
theorem dX7_sorts_63 : decode cX7_sorts 63 = .ok (.aload_n 0, 1) := by decide +kernel
theorem dX7_sorts_64 : decode cX7_sorts 64 = .ok (.getfield 53, 3) := by decide +kernel
theorem dX7_sorts_67 : decode cX7_sorts 67 = .ok (.iload 4, 2) := by decide +kernel
theorem dX7_sorts_69 : decode cX7_sorts 69 = .ok (.iconst 1, 1) := by decide +kernel
theorem dX7_sorts_70 : decode cX7_sorts 70 = .ok (.isub, 1) := by decide +kernel
theorem dX7_sorts_71 : decode cX7_sorts 71 = .ok (.iaload, 1) := by decide +kernel
theorem dX7_sorts_72 : decode cX7_sorts 72 = .ok (.iastore, 1) := by decide +kernel
theorem dX7_sorts_73 : decode cX7_sorts 73 = .ok (.iinc 4 (-1), 3) := by decide +kernel
theorem dX7_sorts_76 : decode cX7_sorts 76 = .ok (.goto (-37), 3) := by decide +kernel
theorem dX7_sorts_79 : decode cX7_sorts 79 = .ok (.aload_n 0, 1) := by decide +kernel
theorem dX7_sorts_80 : decode cX7_sorts 80 = .ok (.getfield 53, 3) := by decide +kernel
theorem dX7_sorts_83 : decode cX7_sorts 83 = .ok (.iload 4, 2) := by decide +kernel
theorem dX7_sorts_85 : decode cX7_sorts 85 = .ok (.iload_n 3, 1) := by decide +kernel
theorem dX7_sorts_86 : decode cX7_sorts 86 = .ok (.iastore, 1) := by decide +kernel
theorem dX7_sorts_87 : decode cX7_sorts 87 = .ok (.aload_n 0, 1) := by decide +kernel
theorem dX7_sorts_88 : decode cX7_sorts 88 = .ok (.dup, 1) := by decide +kernel
theorem dX7_sorts_89 : decode cX7_sorts 89 = .ok (.getfield 103, 3) := by decide +kernel
theorem dX7_sorts_92 : decode cX7_sorts 92 = .ok (.iconst 1, 1) := by decide +kernel
theorem dX7_sorts_93 : decode cX7_sorts 93 = .ok (.iadd, 1) := by decide +kernel
theorem dX7_sorts_94 : decode cX7_sorts 94 = .ok (.putfield 103, 3) := by decide +kernel
theorem dX7_sorts_97 : decode cX7_sorts 97 = .ok (.iinc 2 1, 3) := by decide +kernel
theorem dX7_sorts_100 : decode cX7_sorts 100 = .ok (.goto (-93), 3) := by decide +kernel
theorem dX7_sorts_103 : decode cX7_sorts 103 = .ok (.return_, 1) := by decide +kernel
theorem dX7_sumOf_0 : decode cX7_sumOf 0 = .ok (.iconst 0, 1) := by decide +kernel
theorem dX7_sumOf_1 : decode cX7_sumOf 1 = .ok (.istore_n 1, 1) := by decide +kernel
theorem dX7_sumOf_2 : decode cX7_sumOf 2 = .ok (.iconst 0, 1) := by decide +kernel
theorem dX7_sumOf_3 : decode cX7_sumOf 3 = .ok (.istore_n 2, 1) := by decide +kernel
theorem dX7_sumOf_4 : decode cX7_sumOf 4 = .ok (.iload_n 2, 1) := by decide +kernel
theorem dX7_sumOf_5 : decode cX7_sumOf 5 = .ok (.aload_n 0, 1) := by decide +kernel
theorem dX7_sumOf_6 : decode cX7_sumOf 6 = .ok (.getfield 103, 3) := by decide +kernel
theorem dX7_sumOf_9 : decode cX7_sumOf 9 = .ok (.if_icmp .ge 18, 3) := by decide +kernel
theorem dX7_sumOf_12 : decode cX7_sumOf 12 = .ok (.iload_n 1, 1) := by decide +kernel
theorem dX7_sumOf_13 : decode cX7_sumOf 13 = .ok (.aload_n 0, 1) := by decide +kernel
theorem dX7_sumOf_14 : decode cX7_sumOf 14 = .ok (.getfield 53, 3) := by decide +kernel
theorem dX7_sumOf_17 : decode cX7_sumOf 17 = .ok (.iload_n 2, 1) := by decide +kernel
theorem dX7_sumOf_18 : decode cX7_sumOf 18 = .ok (.iaload, 1) := by decide +kernel
theorem dX7_sumOf_19 : decode cX7_sumOf 19 = .ok (.iadd, 1) := by decide +kernel
theorem dX7_sumOf_20 : decode cX7_sumOf 20 = .ok (.istore_n 1, 1) := by decide +kernel
theorem dX7_sumOf_21 : decode cX7_sumOf 21 = .ok (.iinc 2 1, 3) := by decide +kernel
theorem dX7_sumOf_24 : decode cX7_sumOf 24 = .ok (.goto (-20), 3) := by decide +kernel
theorem dX7_sumOf_27 : decode cX7_sumOf 27 = .ok (.iload_n 1, 1) := by decide +kernel
theorem dX7_sumOf_28 : decode cX7_sumOf 28 = .ok (.ireturn, 1) := by decide +kernel
theorem dX7_unlikeOf_0 : decode cX7_unlikeOf 0 = .ok (.iconst 0, 1) := by decide +kernel
theorem dX7_unlikeOf_1 : decode cX7_unlikeOf 1 = .ok (.istore_n 1, 1) := by decide +kernel
theorem dX7_unlikeOf_2 : decode cX7_unlikeOf 2 = .ok (.iconst 0, 1) := by decide +kernel
theorem dX7_unlikeOf_3 : decode cX7_unlikeOf 3 = .ok (.istore_n 2, 1) := by decide +kernel
theorem dX7_unlikeOf_4 : decode cX7_unlikeOf 4 = .ok (.iload_n 2, 1) := by decide +kernel
theorem dX7_unlikeOf_5 : decode cX7_unlikeOf 5 = .ok (.aload_n 0, 1) := by decide +kernel
theorem dX7_unlikeOf_6 : decode cX7_unlikeOf 6 = .ok (.getfield 103, 3) := by decide +kernel
theorem dX7_unlikeOf_9 : decode cX7_unlikeOf 9 = .ok (.if_icmp .ge 38, 3) := by decide +kernel
theorem dX7_unlikeOf_12 : decode cX7_unlikeOf 12 = .ok (.iload_n 1, 1) := by decide +kernel
theorem dX7_unlikeOf_13 : decode cX7_unlikeOf 13 = .ok (.iload_n 2, 1) := by decide +kernel
theorem dX7_unlikeOf_14 : decode cX7_unlikeOf 14 = .ok (.ifCond .eq 20, 3) := by decide +kernel
theorem dX7_unlikeOf_17 : decode cX7_unlikeOf 17 = .ok (.aload_n 0, 1) := by decide +kernel
theorem dX7_unlikeOf_18 : decode cX7_unlikeOf 18 = .ok (.getfield 53, 3) := by decide +kernel
theorem dX7_unlikeOf_21 : decode cX7_unlikeOf 21 = .ok (.iload_n 2, 1) := by decide +kernel
theorem dX7_unlikeOf_22 : decode cX7_unlikeOf 22 = .ok (.iaload, 1) := by decide +kernel
theorem dX7_unlikeOf_23 : decode cX7_unlikeOf 23 = .ok (.aload_n 0, 1) := by decide +kernel
theorem dX7_unlikeOf_24 : decode cX7_unlikeOf 24 = .ok (.getfield 53, 3) := by decide +kernel
theorem dX7_unlikeOf_27 : decode cX7_unlikeOf 27 = .ok (.iload_n 2, 1) := by decide +kernel
theorem dX7_unlikeOf_28 : decode cX7_unlikeOf 28 = .ok (.iconst 1, 1) := by decide +kernel
theorem dX7_unlikeOf_29 : decode cX7_unlikeOf 29 = .ok (.isub, 1) := by decide +kernel
theorem dX7_unlikeOf_30 : decode cX7_unlikeOf 30 = .ok (.iaload, 1) := by decide +kernel
theorem dX7_unlikeOf_31 : decode cX7_unlikeOf 31 = .ok (.if_icmp .eq 7, 3) := by decide +kernel
theorem dX7_unlikeOf_34 : decode cX7_unlikeOf 34 = .ok (.iconst 1, 1) := by decide +kernel
theorem dX7_unlikeOf_35 : decode cX7_unlikeOf 35 = .ok (.goto 4, 3) := by decide +kernel
theorem dX7_unlikeOf_38 : decode cX7_unlikeOf 38 = .ok (.iconst 0, 1) := by decide +kernel
theorem dX7_unlikeOf_39 : decode cX7_unlikeOf 39 = .ok (.iadd, 1) := by decide +kernel
theorem dX7_unlikeOf_40 : decode cX7_unlikeOf 40 = .ok (.istore_n 1, 1) := by decide +kernel
theorem dX7_unlikeOf_41 : decode cX7_unlikeOf 41 = .ok (.iinc 2 1, 3) := by decide +kernel
theorem dX7_unlikeOf_44 : decode cX7_unlikeOf 44 = .ok (.goto (-40), 3) := by decide +kernel
theorem dX7_unlikeOf_47 : decode cX7_unlikeOf 47 = .ok (.iload_n 1, 1) := by decide +kernel
theorem dX7_unlikeOf_48 : decode cX7_unlikeOf 48 = .ok (.ireturn, 1) := by decide +kernel
theorem dX7_ofFrame_0 : decode cX7_ofFrame 0 = .ok (.aload_n 0, 1) := by decide +kernel
theorem dX7_ofFrame_1 : decode cX7_ofFrame 1 = .ok (.aload_n 1, 1) := by decide +kernel
theorem dX7_ofFrame_2 : decode cX7_ofFrame 2 = .ok (.iload_n 2, 1) := by decide +kernel
theorem dX7_ofFrame_3 : decode cX7_ofFrame 3 = .ok (.invokevirtual 106, 3) := by decide +kernel
theorem dX7_ofFrame_6 : decode cX7_ofFrame 6 = .ok (.aload_n 0, 1) := by decide +kernel
theorem dX7_ofFrame_7 : decode cX7_ofFrame 7 = .ok (.aload_n 1, 1) := by decide +kernel
theorem dX7_ofFrame_8 : decode cX7_ofFrame 8 = .ok (.invokevirtual 109, 3) := by decide +kernel
theorem dX7_ofFrame_11 : decode cX7_ofFrame 11 = .ok (.iload_n 3, 1) := by decide +kernel
theorem dX7_ofFrame_12 : decode cX7_ofFrame 12 = .ok (.tableswitch 164 0 7 #[48, 53, 58, 63, 82, 106, 130, 159], 48) := by decide +kernel
theorem dX7_ofFrame_60 : decode cX7_ofFrame 60 = .ok (.aload_n 0, 1) := by decide +kernel
theorem dX7_ofFrame_61 : decode cX7_ofFrame 61 = .ok (.getfield 100, 3) := by decide +kernel
theorem dX7_ofFrame_64 : decode cX7_ofFrame 64 = .ok (.ireturn, 1) := by decide +kernel
theorem dX7_ofFrame_65 : decode cX7_ofFrame 65 = .ok (.aload_n 0, 1) := by decide +kernel
theorem dX7_ofFrame_66 : decode cX7_ofFrame 66 = .ok (.getfield 103, 3) := by decide +kernel
theorem dX7_ofFrame_69 : decode cX7_ofFrame 69 = .ok (.ireturn, 1) := by decide +kernel
theorem dX7_ofFrame_70 : decode cX7_ofFrame 70 = .ok (.aload_n 0, 1) := by decide +kernel
theorem dX7_ofFrame_71 : decode cX7_ofFrame 71 = .ok (.invokevirtual 113, 3) := by decide +kernel
theorem dX7_ofFrame_74 : decode cX7_ofFrame 74 = .ok (.ireturn, 1) := by decide +kernel
theorem dX7_ofFrame_75 : decode cX7_ofFrame 75 = .ok (.aload_n 0, 1) := by decide +kernel
theorem dX7_ofFrame_76 : decode cX7_ofFrame 76 = .ok (.getfield 103, 3) := by decide +kernel
theorem dX7_ofFrame_79 : decode cX7_ofFrame 79 = .ok (.ifCond .ne 8, 3) := by decide +kernel
theorem dX7_ofFrame_82 : decode cX7_ofFrame 82 = .ok (.ldc 66, 2) := by decide +kernel
theorem dX7_ofFrame_84 : decode cX7_ofFrame 84 = .ok (.goto 9, 3) := by decide +kernel
theorem dX7_ofFrame_87 : decode cX7_ofFrame 87 = .ok (.aload_n 0, 1) := by decide +kernel
theorem dX7_ofFrame_88 : decode cX7_ofFrame 88 = .ok (.getfield 53, 3) := by decide +kernel
theorem dX7_ofFrame_91 : decode cX7_ofFrame 91 = .ok (.iconst 0, 1) := by decide +kernel
theorem dX7_ofFrame_92 : decode cX7_ofFrame 92 = .ok (.iaload, 1) := by decide +kernel
theorem dX7_ofFrame_93 : decode cX7_ofFrame 93 = .ok (.ireturn, 1) := by decide +kernel
theorem dX7_ofFrame_94 : decode cX7_ofFrame 94 = .ok (.aload_n 0, 1) := by decide +kernel
theorem dX7_ofFrame_95 : decode cX7_ofFrame 95 = .ok (.getfield 103, 3) := by decide +kernel
theorem dX7_ofFrame_98 : decode cX7_ofFrame 98 = .ok (.ifCond .ne 8, 3) := by decide +kernel
theorem dX7_ofFrame_101 : decode cX7_ofFrame 101 = .ok (.ldc 66, 2) := by decide +kernel
theorem dX7_ofFrame_103 : decode cX7_ofFrame 103 = .ok (.goto 14, 3) := by decide +kernel
theorem dX7_ofFrame_106 : decode cX7_ofFrame 106 = .ok (.aload_n 0, 1) := by decide +kernel
theorem dX7_ofFrame_107 : decode cX7_ofFrame 107 = .ok (.getfield 53, 3) := by decide +kernel
theorem dX7_ofFrame_110 : decode cX7_ofFrame 110 = .ok (.aload_n 0, 1) := by decide +kernel
theorem dX7_ofFrame_111 : decode cX7_ofFrame 111 = .ok (.getfield 103, 3) := by decide +kernel
theorem dX7_ofFrame_114 : decode cX7_ofFrame 114 = .ok (.iconst 1, 1) := by decide +kernel
theorem dX7_ofFrame_115 : decode cX7_ofFrame 115 = .ok (.isub, 1) := by decide +kernel
theorem dX7_ofFrame_116 : decode cX7_ofFrame 116 = .ok (.iaload, 1) := by decide +kernel
theorem dX7_ofFrame_117 : decode cX7_ofFrame 117 = .ok (.ireturn, 1) := by decide +kernel
theorem dX7_ofFrame_118 : decode cX7_ofFrame 118 = .ok (.aload_n 0, 1) := by decide +kernel
theorem dX7_ofFrame_119 : decode cX7_ofFrame 119 = .ok (.getfield 100, 3) := by decide +kernel
theorem dX7_ofFrame_122 : decode cX7_ofFrame 122 = .ok (.ifCond .ne 8, 3) := by decide +kernel
theorem dX7_ofFrame_125 : decode cX7_ofFrame 125 = .ok (.ldc 66, 2) := by decide +kernel
theorem dX7_ofFrame_127 : decode cX7_ofFrame 127 = .ok (.goto 14, 3) := by decide +kernel
theorem dX7_ofFrame_130 : decode cX7_ofFrame 130 = .ok (.aload_n 1, 1) := by decide +kernel
theorem dX7_ofFrame_131 : decode cX7_ofFrame 131 = .ok (.bipush 86, 2) := by decide +kernel
theorem dX7_ofFrame_133 : decode cX7_ofFrame 133 = .ok (.aload_n 0, 1) := by decide +kernel
theorem dX7_ofFrame_134 : decode cX7_ofFrame 134 = .ok (.getfield 50, 3) := by decide +kernel
theorem dX7_ofFrame_137 : decode cX7_ofFrame 137 = .ok (.iconst 0, 1) := by decide +kernel
theorem dX7_ofFrame_138 : decode cX7_ofFrame 138 = .ok (.iaload, 1) := by decide +kernel
theorem dX7_ofFrame_139 : decode cX7_ofFrame 139 = .ok (.iadd, 1) := by decide +kernel
theorem dX7_ofFrame_140 : decode cX7_ofFrame 140 = .ok (.iaload, 1) := by decide +kernel
theorem dX7_ofFrame_141 : decode cX7_ofFrame 141 = .ok (.ireturn, 1) := by decide +kernel
theorem dX7_ofFrame_142 : decode cX7_ofFrame 142 = .ok (.aload_n 0, 1) := by decide +kernel
theorem dX7_ofFrame_143 : decode cX7_ofFrame 143 = .ok (.getfield 100, 3) := by decide +kernel
theorem dX7_ofFrame_146 : decode cX7_ofFrame 146 = .ok (.ifCond .ne 8, 3) := by decide +kernel
theorem dX7_ofFrame_149 : decode cX7_ofFrame 149 = .ok (.ldc 66, 2) := by decide +kernel
theorem dX7_ofFrame_151 : decode cX7_ofFrame 151 = .ok (.goto 19, 3) := by decide +kernel
theorem dX7_ofFrame_154 : decode cX7_ofFrame 154 = .ok (.aload_n 1, 1) := by decide +kernel
theorem dX7_ofFrame_155 : decode cX7_ofFrame 155 = .ok (.bipush 86, 2) := by decide +kernel
theorem dX7_ofFrame_157 : decode cX7_ofFrame 157 = .ok (.aload_n 0, 1) := by decide +kernel
theorem dX7_ofFrame_158 : decode cX7_ofFrame 158 = .ok (.getfield 50, 3) := by decide +kernel
theorem dX7_ofFrame_161 : decode cX7_ofFrame 161 = .ok (.aload_n 0, 1) := by decide +kernel
theorem dX7_ofFrame_162 : decode cX7_ofFrame 162 = .ok (.getfield 100, 3) := by decide +kernel
theorem dX7_ofFrame_165 : decode cX7_ofFrame 165 = .ok (.iconst 1, 1) := by decide +kernel
theorem dX7_ofFrame_166 : decode cX7_ofFrame 166 = .ok (.isub, 1) := by decide +kernel
theorem dX7_ofFrame_167 : decode cX7_ofFrame 167 = .ok (.iaload, 1) := by decide +kernel
theorem dX7_ofFrame_168 : decode cX7_ofFrame 168 = .ok (.iadd, 1) := by decide +kernel
theorem dX7_ofFrame_169 : decode cX7_ofFrame 169 = .ok (.iaload, 1) := by decide +kernel
theorem dX7_ofFrame_170 : decode cX7_ofFrame 170 = .ok (.ireturn, 1) := by decide +kernel
theorem dX7_ofFrame_171 : decode cX7_ofFrame 171 = .ok (.aload_n 0, 1) := by decide +kernel
theorem dX7_ofFrame_172 : decode cX7_ofFrame 172 = .ok (.invokevirtual 117, 3) := by decide +kernel
theorem dX7_ofFrame_175 : decode cX7_ofFrame 175 = .ok (.ireturn, 1) := by decide +kernel
theorem dX7_ofFrame_176 : decode cX7_ofFrame 176 = .ok (.aload_n 0, 1) := by decide +kernel
theorem dX7_ofFrame_177 : decode cX7_ofFrame 177 = .ok (.getfield 103, 3) := by decide +kernel
theorem dX7_ofFrame_180 : decode cX7_ofFrame 180 = .ok (.ifCond .ne 8, 3) := by decide +kernel
theorem dX7_ofFrame_183 : decode cX7_ofFrame 183 = .ok (.ldc 66, 2) := by decide +kernel
theorem dX7_ofFrame_185 : decode cX7_ofFrame 185 = .ok (.goto 16, 3) := by decide +kernel
theorem dX7_ofFrame_188 : decode cX7_ofFrame 188 = .ok (.aload_n 0, 1) := by decide +kernel
theorem dX7_ofFrame_189 : decode cX7_ofFrame 189 = .ok (.getfield 53, 3) := by decide +kernel
theorem dX7_ofFrame_192 : decode cX7_ofFrame 192 = .ok (.aload_n 0, 1) := by decide +kernel
theorem dX7_ofFrame_193 : decode cX7_ofFrame 193 = .ok (.getfield 103, 3) := by decide +kernel
theorem dX7_ofFrame_196 : decode cX7_ofFrame 196 = .ok (.iconst 1, 1) := by decide +kernel
theorem dX7_ofFrame_197 : decode cX7_ofFrame 197 = .ok (.isub, 1) := by decide +kernel
theorem dX7_ofFrame_198 : decode cX7_ofFrame 198 = .ok (.iconst 2, 1) := by decide +kernel
theorem dX7_ofFrame_199 : decode cX7_ofFrame 199 = .ok (.idiv, 1) := by decide +kernel
theorem dX7_ofFrame_200 : decode cX7_ofFrame 200 = .ok (.iaload, 1) := by decide +kernel
theorem dX7_ofFrame_201 : decode cX7_ofFrame 201 = .ok (.ireturn, 1) := by decide +kernel
theorem dX7_isRow_0 : decode cX7_isRow 0 = .ok (.iload_n 1, 1) := by decide +kernel
theorem dX7_isRow_1 : decode cX7_isRow 1 = .ok (.iconst 0, 1) := by decide +kernel
theorem dX7_isRow_2 : decode cX7_isRow 2 = .ok (.aload_n 0, 1) := by decide +kernel
theorem dX7_isRow_3 : decode cX7_isRow 3 = .ok (.getfield 7, 3) := by decide +kernel
theorem dX7_isRow_6 : decode cX7_isRow 6 = .ok (.iconst 0, 1) := by decide +kernel
theorem dX7_isRow_7 : decode cX7_isRow 7 = .ok (.iaload, 1) := by decide +kernel
theorem dX7_isRow_8 : decode cX7_isRow 8 = .ok (.iconst 1, 1) := by decide +kernel
theorem dX7_isRow_9 : decode cX7_isRow 9 = .ok (.isub, 1) := by decide +kernel
theorem dX7_isRow_10 : decode cX7_isRow 10 = .ok (.invokestatic 120, 3) := by decide +kernel
theorem dX7_isRow_13 : decode cX7_isRow 13 = .ok (.ireturn, 1) := by decide +kernel
theorem dX7_setOf_0 : decode cX7_setOf 0 = .ok (.aload_n 0, 1) := by decide +kernel
theorem dX7_setOf_1 : decode cX7_setOf 1 = .ok (.aload_n 0, 1) := by decide +kernel
theorem dX7_setOf_2 : decode cX7_setOf 2 = .ok (.getfield 7, 3) := by decide +kernel
theorem dX7_setOf_5 : decode cX7_setOf 5 = .ok (.iload_n 1, 1) := by decide +kernel
theorem dX7_setOf_6 : decode cX7_setOf 6 = .ok (.invokevirtual 106, 3) := by decide +kernel
theorem dX7_setOf_9 : decode cX7_setOf 9 = .ok (.lconst 0, 1) := by decide +kernel
theorem dX7_setOf_10 : decode cX7_setOf 10 = .ok (.lstore_n 2, 1) := by decide +kernel
theorem dX7_setOf_11 : decode cX7_setOf 11 = .ok (.iconst 0, 1) := by decide +kernel
theorem dX7_setOf_12 : decode cX7_setOf 12 = .ok (.istore 4, 2) := by decide +kernel
theorem dX7_setOf_14 : decode cX7_setOf 14 = .ok (.iload 4, 2) := by decide +kernel
theorem dX7_setOf_16 : decode cX7_setOf 16 = .ok (.aload_n 0, 1) := by decide +kernel
theorem dX7_setOf_17 : decode cX7_setOf 17 = .ok (.getfield 100, 3) := by decide +kernel
theorem dX7_setOf_20 : decode cX7_setOf 20 = .ok (.if_icmp .ge 21, 3) := by decide +kernel
theorem dX7_setOf_23 : decode cX7_setOf 23 = .ok (.lload_n 2, 1) := by decide +kernel
theorem dX7_setOf_24 : decode cX7_setOf 24 = .ok (.lconst 1, 1) := by decide +kernel
theorem dX7_setOf_25 : decode cX7_setOf 25 = .ok (.aload_n 0, 1) := by decide +kernel
theorem dX7_setOf_26 : decode cX7_setOf 26 = .ok (.getfield 50, 3) := by decide +kernel
theorem dX7_setOf_29 : decode cX7_setOf 29 = .ok (.iload 4, 2) := by decide +kernel
theorem dX7_setOf_31 : decode cX7_setOf 31 = .ok (.iaload, 1) := by decide +kernel
theorem dX7_setOf_32 : decode cX7_setOf 32 = .ok (.lshl, 1) := by decide +kernel
theorem dX7_setOf_33 : decode cX7_setOf 33 = .ok (.lor, 1) := by decide +kernel
theorem dX7_setOf_34 : decode cX7_setOf 34 = .ok (.lstore_n 2, 1) := by decide +kernel
theorem dX7_setOf_35 : decode cX7_setOf 35 = .ok (.iinc 4 1, 3) := by decide +kernel
theorem dX7_setOf_38 : decode cX7_setOf 38 = .ok (.goto (-24), 3) := by decide +kernel
theorem dX7_setOf_41 : decode cX7_setOf 41 = .ok (.lload_n 2, 1) := by decide +kernel
theorem dX7_setOf_42 : decode cX7_setOf 42 = .ok (.lreturn, 1) := by decide +kernel
theorem dX7_alikes_0 : decode cX7_alikes 0 = .ok (.iconst 0, 1) := by decide +kernel
theorem dX7_alikes_1 : decode cX7_alikes 1 = .ok (.istore_n 1, 1) := by decide +kernel
theorem dX7_alikes_2 : decode cX7_alikes 2 = .ok (.iload_n 1, 1) := by decide +kernel
theorem dX7_alikes_3 : decode cX7_alikes 3 = .ok (.aload_n 0, 1) := by decide +kernel
theorem dX7_alikes_4 : decode cX7_alikes 4 = .ok (.getfield 7, 3) := by decide +kernel
theorem dX7_alikes_7 : decode cX7_alikes 7 = .ok (.iconst 0, 1) := by decide +kernel
theorem dX7_alikes_8 : decode cX7_alikes 8 = .ok (.iaload, 1) := by decide +kernel
theorem dX7_alikes_9 : decode cX7_alikes 9 = .ok (.if_icmp .ge 20, 3) := by decide +kernel
theorem dX7_alikes_12 : decode cX7_alikes 12 = .ok (.aload_n 0, 1) := by decide +kernel
theorem dX7_alikes_13 : decode cX7_alikes 13 = .ok (.getfield 56, 3) := by decide +kernel
theorem dX7_alikes_16 : decode cX7_alikes 16 = .ok (.iload_n 1, 1) := by decide +kernel
theorem dX7_alikes_17 : decode cX7_alikes 17 = .ok (.aload_n 0, 1) := by decide +kernel
theorem dX7_alikes_18 : decode cX7_alikes 18 = .ok (.iload_n 1, 1) := by decide +kernel
theorem dX7_alikes_19 : decode cX7_alikes 19 = .ok (.invokevirtual 124, 3) := by decide +kernel
theorem dX7_alikes_22 : decode cX7_alikes 22 = .ok (.lastore, 1) := by decide +kernel
theorem dX7_alikes_23 : decode cX7_alikes 23 = .ok (.iinc 1 1, 3) := by decide +kernel
theorem dX7_alikes_26 : decode cX7_alikes 26 = .ok (.goto (-24), 3) := by decide +kernel
theorem dX7_alikes_29 : decode cX7_alikes 29 = .ok (.iconst 0, 1) := by decide +kernel
theorem dX7_alikes_30 : decode cX7_alikes 30 = .ok (.istore_n 1, 1) := by decide +kernel
theorem dX7_alikes_31 : decode cX7_alikes 31 = .ok (.iconst 0, 1) := by decide +kernel
theorem dX7_alikes_32 : decode cX7_alikes 32 = .ok (.istore_n 2, 1) := by decide +kernel
theorem dX7_alikes_33 : decode cX7_alikes 33 = .ok (.iload_n 2, 1) := by decide +kernel
theorem dX7_alikes_34 : decode cX7_alikes 34 = .ok (.aload_n 0, 1) := by decide +kernel
theorem dX7_alikes_35 : decode cX7_alikes 35 = .ok (.getfield 7, 3) := by decide +kernel
theorem dX7_alikes_38 : decode cX7_alikes 38 = .ok (.iconst 0, 1) := by decide +kernel
theorem dX7_alikes_39 : decode cX7_alikes 39 = .ok (.iaload, 1) := by decide +kernel
theorem dX7_alikes_40 : decode cX7_alikes 40 = .ok (.if_icmp .ge 46, 3) := by decide +kernel
theorem dX7_alikes_43 : decode cX7_alikes 43 = .ok (.iconst 0, 1) := by decide +kernel
theorem dX7_alikes_44 : decode cX7_alikes 44 = .ok (.istore_n 3, 1) := by decide +kernel
theorem dX7_alikes_45 : decode cX7_alikes 45 = .ok (.iload_n 3, 1) := by decide +kernel
theorem dX7_alikes_46 : decode cX7_alikes 46 = .ok (.iload_n 2, 1) := by decide +kernel
theorem dX7_alikes_47 : decode cX7_alikes 47 = .ok (.if_icmp .ge 33, 3) := by decide +kernel
theorem dX7_alikes_50 : decode cX7_alikes 50 = .ok (.iload_n 1, 1) := by decide +kernel
theorem dX7_alikes_51 : decode cX7_alikes 51 = .ok (.aload_n 0, 1) := by decide +kernel
theorem dX7_alikes_52 : decode cX7_alikes 52 = .ok (.getfield 56, 3) := by decide +kernel
theorem dX7_alikes_55 : decode cX7_alikes 55 = .ok (.iload_n 2, 1) := by decide +kernel
theorem dX7_alikes_56 : decode cX7_alikes 56 = .ok (.laload, 1) := by decide +kernel
theorem dX7_alikes_57 : decode cX7_alikes 57 = .ok (.aload_n 0, 1) := by decide +kernel
theorem dX7_alikes_58 : decode cX7_alikes 58 = .ok (.getfield 56, 3) := by decide +kernel
theorem dX7_alikes_61 : decode cX7_alikes 61 = .ok (.iload_n 3, 1) := by decide +kernel
theorem dX7_alikes_62 : decode cX7_alikes 62 = .ok (.laload, 1) := by decide +kernel
theorem dX7_alikes_63 : decode cX7_alikes 63 = .ok (.lcmp, 1) := by decide +kernel
theorem dX7_alikes_64 : decode cX7_alikes 64 = .ok (.ifCond .ne 7, 3) := by decide +kernel
theorem dX7_alikes_67 : decode cX7_alikes 67 = .ok (.iconst 1, 1) := by decide +kernel
theorem dX7_alikes_68 : decode cX7_alikes 68 = .ok (.goto 4, 3) := by decide +kernel
theorem dX7_alikes_71 : decode cX7_alikes 71 = .ok (.iconst 0, 1) := by decide +kernel
theorem dX7_alikes_72 : decode cX7_alikes 72 = .ok (.iadd, 1) := by decide +kernel
theorem dX7_alikes_73 : decode cX7_alikes 73 = .ok (.istore_n 1, 1) := by decide +kernel
theorem dX7_alikes_74 : decode cX7_alikes 74 = .ok (.iinc 3 1, 3) := by decide +kernel
theorem dX7_alikes_77 : decode cX7_alikes 77 = .ok (.goto (-32), 3) := by decide +kernel
theorem dX7_alikes_80 : decode cX7_alikes 80 = .ok (.iinc 2 1, 3) := by decide +kernel
theorem dX7_alikes_83 : decode cX7_alikes 83 = .ok (.goto (-50), 3) := by decide +kernel
theorem dX7_alikes_86 : decode cX7_alikes 86 = .ok (.iload_n 1, 1) := by decide +kernel
theorem dX7_alikes_87 : decode cX7_alikes 87 = .ok (.ireturn, 1) := by decide +kernel
theorem dX7_partsNow_0 : decode cX7_partsNow 0 = .ok (.iconst 0, 1) := by decide +kernel
theorem dX7_partsNow_1 : decode cX7_partsNow 1 = .ok (.istore_n 1, 1) := by decide +kernel
theorem dX7_partsNow_2 : decode cX7_partsNow 2 = .ok (.iconst 0, 1) := by decide +kernel
theorem dX7_partsNow_3 : decode cX7_partsNow 3 = .ok (.istore_n 2, 1) := by decide +kernel
theorem dX7_partsNow_4 : decode cX7_partsNow 4 = .ok (.iload_n 2, 1) := by decide +kernel
theorem dX7_partsNow_5 : decode cX7_partsNow 5 = .ok (.aload_n 0, 1) := by decide +kernel
theorem dX7_partsNow_6 : decode cX7_partsNow 6 = .ok (.getfield 7, 3) := by decide +kernel
theorem dX7_partsNow_9 : decode cX7_partsNow 9 = .ok (.iconst 0, 1) := by decide +kernel
theorem dX7_partsNow_10 : decode cX7_partsNow 10 = .ok (.iaload, 1) := by decide +kernel
theorem dX7_partsNow_11 : decode cX7_partsNow 11 = .ok (.if_icmp .ge 23, 3) := by decide +kernel
theorem dX7_partsNow_14 : decode cX7_partsNow 14 = .ok (.iload_n 1, 1) := by decide +kernel
theorem dX7_partsNow_15 : decode cX7_partsNow 15 = .ok (.iconst 1, 1) := by decide +kernel
theorem dX7_partsNow_16 : decode cX7_partsNow 16 = .ok (.aload_n 0, 1) := by decide +kernel
theorem dX7_partsNow_17 : decode cX7_partsNow 17 = .ok (.getfield 7, 3) := by decide +kernel
theorem dX7_partsNow_20 : decode cX7_partsNow 20 = .ok (.bipush 6, 2) := by decide +kernel
theorem dX7_partsNow_22 : decode cX7_partsNow 22 = .ok (.iload_n 2, 1) := by decide +kernel
theorem dX7_partsNow_23 : decode cX7_partsNow 23 = .ok (.iadd, 1) := by decide +kernel
theorem dX7_partsNow_24 : decode cX7_partsNow 24 = .ok (.iaload, 1) := by decide +kernel
theorem dX7_partsNow_25 : decode cX7_partsNow 25 = .ok (.ishl, 1) := by decide +kernel
theorem dX7_partsNow_26 : decode cX7_partsNow 26 = .ok (.ior, 1) := by decide +kernel
theorem dX7_partsNow_27 : decode cX7_partsNow 27 = .ok (.istore_n 1, 1) := by decide +kernel
theorem dX7_partsNow_28 : decode cX7_partsNow 28 = .ok (.iinc 2 1, 3) := by decide +kernel
theorem dX7_partsNow_31 : decode cX7_partsNow 31 = .ok (.goto (-27), 3) := by decide +kernel
