theorem dX7_partsNow_34 : decode cX7_partsNow 34 = .ok (.iconst 0, 1) := by decide +kernel
theorem dX7_partsNow_35 : decode cX7_partsNow 35 = .ok (.istore_n 2, 1) := by decide +kernel
theorem dX7_partsNow_36 : decode cX7_partsNow 36 = .ok (.iconst 0, 1) := by decide +kernel
theorem dX7_partsNow_37 : decode cX7_partsNow 37 = .ok (.istore_n 3, 1) := by decide +kernel
theorem dX7_partsNow_38 : decode cX7_partsNow 38 = .ok (.iload_n 3, 1) := by decide +kernel
theorem dX7_partsNow_39 : decode cX7_partsNow 39 = .ok (.bipush 6, 2) := by decide +kernel
theorem dX7_partsNow_41 : decode cX7_partsNow 41 = .ok (.if_icmp .ge 17, 3) := by decide +kernel
theorem dX7_partsNow_44 : decode cX7_partsNow 44 = .ok (.iload_n 2, 1) := by decide +kernel
theorem dX7_partsNow_45 : decode cX7_partsNow 45 = .ok (.iload_n 1, 1) := by decide +kernel
theorem dX7_partsNow_46 : decode cX7_partsNow 46 = .ok (.iload_n 3, 1) := by decide +kernel
theorem dX7_partsNow_47 : decode cX7_partsNow 47 = .ok (.ishr, 1) := by decide +kernel
theorem dX7_partsNow_48 : decode cX7_partsNow 48 = .ok (.iconst 1, 1) := by decide +kernel
theorem dX7_partsNow_49 : decode cX7_partsNow 49 = .ok (.iand, 1) := by decide +kernel
theorem dX7_partsNow_50 : decode cX7_partsNow 50 = .ok (.iadd, 1) := by decide +kernel
theorem dX7_partsNow_51 : decode cX7_partsNow 51 = .ok (.istore_n 2, 1) := by decide +kernel
theorem dX7_partsNow_52 : decode cX7_partsNow 52 = .ok (.iinc 3 1, 3) := by decide +kernel
theorem dX7_partsNow_55 : decode cX7_partsNow 55 = .ok (.goto (-17), 3) := by decide +kernel
theorem dX7_partsNow_58 : decode cX7_partsNow 58 = .ok (.iload_n 2, 1) := by decide +kernel
theorem dX7_partsNow_59 : decode cX7_partsNow 59 = .ok (.ireturn, 1) := by decide +kernel
theorem dX7_groupsNow_0 : decode cX7_groupsNow 0 = .ok (.iconst 0, 1) := by decide +kernel
theorem dX7_groupsNow_1 : decode cX7_groupsNow 1 = .ok (.istore_n 1, 1) := by decide +kernel
theorem dX7_groupsNow_2 : decode cX7_groupsNow 2 = .ok (.iconst 0, 1) := by decide +kernel
theorem dX7_groupsNow_3 : decode cX7_groupsNow 3 = .ok (.istore_n 2, 1) := by decide +kernel
theorem dX7_groupsNow_4 : decode cX7_groupsNow 4 = .ok (.iload_n 2, 1) := by decide +kernel
theorem dX7_groupsNow_5 : decode cX7_groupsNow 5 = .ok (.aload_n 0, 1) := by decide +kernel
theorem dX7_groupsNow_6 : decode cX7_groupsNow 6 = .ok (.getfield 7, 3) := by decide +kernel
theorem dX7_groupsNow_9 : decode cX7_groupsNow 9 = .ok (.iconst 0, 1) := by decide +kernel
theorem dX7_groupsNow_10 : decode cX7_groupsNow 10 = .ok (.iaload, 1) := by decide +kernel
theorem dX7_groupsNow_11 : decode cX7_groupsNow 11 = .ok (.if_icmp .ge 32, 3) := by decide +kernel
theorem dX7_groupsNow_14 : decode cX7_groupsNow 14 = .ok (.iload_n 1, 1) := by decide +kernel
theorem dX7_groupsNow_15 : decode cX7_groupsNow 15 = .ok (.aload_n 0, 1) := by decide +kernel
theorem dX7_groupsNow_16 : decode cX7_groupsNow 16 = .ok (.getfield 41, 3) := by decide +kernel
theorem dX7_groupsNow_19 : decode cX7_groupsNow 19 = .ok (.aload_n 0, 1) := by decide +kernel
theorem dX7_groupsNow_20 : decode cX7_groupsNow 20 = .ok (.getfield 29, 3) := by decide +kernel
theorem dX7_groupsNow_23 : decode cX7_groupsNow 23 = .ok (.iload_n 2, 1) := by decide +kernel
theorem dX7_groupsNow_24 : decode cX7_groupsNow 24 = .ok (.iaload, 1) := by decide +kernel
theorem dX7_groupsNow_25 : decode cX7_groupsNow 25 = .ok (.iaload, 1) := by decide +kernel
theorem dX7_groupsNow_26 : decode cX7_groupsNow 26 = .ok (.iload_n 2, 1) := by decide +kernel
theorem dX7_groupsNow_27 : decode cX7_groupsNow 27 = .ok (.if_icmp .ne 7, 3) := by decide +kernel
theorem dX7_groupsNow_30 : decode cX7_groupsNow 30 = .ok (.iconst 1, 1) := by decide +kernel
theorem dX7_groupsNow_31 : decode cX7_groupsNow 31 = .ok (.goto 4, 3) := by decide +kernel
theorem dX7_groupsNow_34 : decode cX7_groupsNow 34 = .ok (.iconst 0, 1) := by decide +kernel
theorem dX7_groupsNow_35 : decode cX7_groupsNow 35 = .ok (.iadd, 1) := by decide +kernel
theorem dX7_groupsNow_36 : decode cX7_groupsNow 36 = .ok (.istore_n 1, 1) := by decide +kernel
theorem dX7_groupsNow_37 : decode cX7_groupsNow 37 = .ok (.iinc 2 1, 3) := by decide +kernel
theorem dX7_groupsNow_40 : decode cX7_groupsNow 40 = .ok (.goto (-36), 3) := by decide +kernel
theorem dX7_groupsNow_43 : decode cX7_groupsNow 43 = .ok (.iload_n 1, 1) := by decide +kernel
theorem dX7_groupsNow_44 : decode cX7_groupsNow 44 = .ok (.ireturn, 1) := by decide +kernel
theorem dX7_wrong_0 : decode cX7_wrong 0 = .ok (.iconst 0, 1) := by decide +kernel
theorem dX7_wrong_1 : decode cX7_wrong 1 = .ok (.istore_n 1, 1) := by decide +kernel
theorem dX7_wrong_2 : decode cX7_wrong 2 = .ok (.iload_n 1, 1) := by decide +kernel
theorem dX7_wrong_3 : decode cX7_wrong 3 = .ok (.aload_n 0, 1) := by decide +kernel
theorem dX7_wrong_4 : decode cX7_wrong 4 = .ok (.getfield 128, 3) := by decide +kernel
theorem dX7_wrong_7 : decode cX7_wrong 7 = .ok (.if_icmp .ge 60, 3) := by decide +kernel
theorem dX7_wrong_10 : decode cX7_wrong 10 = .ok (.aload_n 0, 1) := by decide +kernel
theorem dX7_wrong_11 : decode cX7_wrong 11 = .ok (.getfield 26, 3) := by decide +kernel
theorem dX7_wrong_14 : decode cX7_wrong 14 = .ok (.iconst 3, 1) := by decide +kernel
theorem dX7_wrong_15 : decode cX7_wrong 15 = .ok (.iload_n 1, 1) := by decide +kernel
theorem dX7_wrong_16 : decode cX7_wrong 16 = .ok (.imul, 1) := by decide +kernel
theorem dX7_wrong_17 : decode cX7_wrong 17 = .ok (.iaload, 1) := by decide +kernel
theorem dX7_wrong_18 : decode cX7_wrong 18 = .ok (.istore_n 2, 1) := by decide +kernel
theorem dX7_wrong_19 : decode cX7_wrong 19 = .ok (.aload_n 0, 1) := by decide +kernel
theorem dX7_wrong_20 : decode cX7_wrong 20 = .ok (.iload_n 2, 1) := by decide +kernel
theorem dX7_wrong_21 : decode cX7_wrong 21 = .ok (.invokevirtual 131, 3) := by decide +kernel
theorem dX7_wrong_24 : decode cX7_wrong 24 = .ok (.ifCond .eq 35, 3) := by decide +kernel
theorem dX7_wrong_27 : decode cX7_wrong 27 = .ok (.aload_n 0, 1) := by decide +kernel
theorem dX7_wrong_28 : decode cX7_wrong 28 = .ok (.aload_n 0, 1) := by decide +kernel
theorem dX7_wrong_29 : decode cX7_wrong 29 = .ok (.getfield 7, 3) := by decide +kernel
theorem dX7_wrong_32 : decode cX7_wrong 32 = .ok (.iload_n 2, 1) := by decide +kernel
theorem dX7_wrong_33 : decode cX7_wrong 33 = .ok (.aload_n 0, 1) := by decide +kernel
theorem dX7_wrong_34 : decode cX7_wrong 34 = .ok (.getfield 26, 3) := by decide +kernel
theorem dX7_wrong_37 : decode cX7_wrong 37 = .ok (.iconst 3, 1) := by decide +kernel
theorem dX7_wrong_38 : decode cX7_wrong 38 = .ok (.iload_n 1, 1) := by decide +kernel
theorem dX7_wrong_39 : decode cX7_wrong 39 = .ok (.imul, 1) := by decide +kernel
theorem dX7_wrong_40 : decode cX7_wrong 40 = .ok (.iconst 1, 1) := by decide +kernel
theorem dX7_wrong_41 : decode cX7_wrong 41 = .ok (.iadd, 1) := by decide +kernel
theorem dX7_wrong_42 : decode cX7_wrong 42 = .ok (.iaload, 1) := by decide +kernel
theorem dX7_wrong_43 : decode cX7_wrong 43 = .ok (.invokevirtual 135, 3) := by decide +kernel
theorem dX7_wrong_46 : decode cX7_wrong 46 = .ok (.aload_n 0, 1) := by decide +kernel
theorem dX7_wrong_47 : decode cX7_wrong 47 = .ok (.getfield 26, 3) := by decide +kernel
theorem dX7_wrong_50 : decode cX7_wrong 50 = .ok (.iconst 3, 1) := by decide +kernel
theorem dX7_wrong_51 : decode cX7_wrong 51 = .ok (.iload_n 1, 1) := by decide +kernel
theorem dX7_wrong_52 : decode cX7_wrong 52 = .ok (.imul, 1) := by decide +kernel
theorem dX7_wrong_53 : decode cX7_wrong 53 = .ok (.iconst 2, 1) := by decide +kernel
theorem dX7_wrong_54 : decode cX7_wrong 54 = .ok (.iadd, 1) := by decide +kernel
theorem dX7_wrong_55 : decode cX7_wrong 55 = .ok (.iaload, 1) := by decide +kernel
theorem dX7_wrong_56 : decode cX7_wrong 56 = .ok (.if_icmp .eq 5, 3) := by decide +kernel
theorem dX7_wrong_59 : decode cX7_wrong 59 = .ok (.iload_n 1, 1) := by decide +kernel
theorem dX7_wrong_60 : decode cX7_wrong 60 = .ok (.ireturn, 1) := by decide +kernel
theorem dX7_wrong_61 : decode cX7_wrong 61 = .ok (.iinc 1 1, 3) := by decide +kernel
theorem dX7_wrong_64 : decode cX7_wrong 64 = .ok (.goto (-62), 3) := by decide +kernel
theorem dX7_wrong_67 : decode cX7_wrong 67 = .ok (.iconst (-1), 1) := by decide +kernel
theorem dX7_wrong_68 : decode cX7_wrong 68 = .ok (.ireturn, 1) := by decide +kernel
theorem dX7_told_0 : decode cX7_told 0 = .ok (.aload_n 0, 1) := by decide +kernel
theorem dX7_told_1 : decode cX7_told 1 = .ok (.aload_n 0, 1) := by decide +kernel
theorem dX7_told_2 : decode cX7_told 2 = .ok (.getfield 7, 3) := by decide +kernel
theorem dX7_told_5 : decode cX7_told 5 = .ok (.invokevirtual 139, 3) := by decide +kernel
theorem dX7_told_8 : decode cX7_told 8 = .ok (.iload_n 1, 1) := by decide +kernel
theorem dX7_told_9 : decode cX7_told 9 = .ok (.tableswitch 141 0 11 #[63, 70, 75, 80, 87, 97, 107, 114, 121, 126, 131, 136], 63) := by decide +kernel
theorem dX7_told_72 : decode cX7_told 72 = .ok (.aload_n 0, 1) := by decide +kernel
theorem dX7_told_73 : decode cX7_told 73 = .ok (.getfield 7, 3) := by decide +kernel
theorem dX7_told_76 : decode cX7_told 76 = .ok (.iconst 0, 1) := by decide +kernel
theorem dX7_told_77 : decode cX7_told 77 = .ok (.iaload, 1) := by decide +kernel
theorem dX7_told_78 : decode cX7_told 78 = .ok (.ireturn, 1) := by decide +kernel
theorem dX7_told_79 : decode cX7_told 79 = .ok (.aload_n 0, 1) := by decide +kernel
theorem dX7_told_80 : decode cX7_told 80 = .ok (.invokevirtual 142, 3) := by decide +kernel
theorem dX7_told_83 : decode cX7_told 83 = .ok (.ireturn, 1) := by decide +kernel
theorem dX7_told_84 : decode cX7_told 84 = .ok (.aload_n 0, 1) := by decide +kernel
theorem dX7_told_85 : decode cX7_told 85 = .ok (.invokevirtual 145, 3) := by decide +kernel
theorem dX7_told_88 : decode cX7_told 88 = .ok (.ireturn, 1) := by decide +kernel
theorem dX7_told_89 : decode cX7_told 89 = .ok (.aload_n 0, 1) := by decide +kernel
theorem dX7_told_90 : decode cX7_told 90 = .ok (.getfield 7, 3) := by decide +kernel
theorem dX7_told_93 : decode cX7_told 93 = .ok (.iconst 1, 1) := by decide +kernel
theorem dX7_told_94 : decode cX7_told 94 = .ok (.iaload, 1) := by decide +kernel
theorem dX7_told_95 : decode cX7_told 95 = .ok (.ireturn, 1) := by decide +kernel
theorem dX7_told_96 : decode cX7_told 96 = .ok (.aload_n 0, 1) := by decide +kernel
theorem dX7_told_97 : decode cX7_told 97 = .ok (.getfield 7, 3) := by decide +kernel
theorem dX7_told_100 : decode cX7_told 100 = .ok (.iconst 2, 1) := by decide +kernel
theorem dX7_told_101 : decode cX7_told 101 = .ok (.iaload, 1) := by decide +kernel
theorem dX7_told_102 : decode cX7_told 102 = .ok (.bipush 100, 2) := by decide +kernel
theorem dX7_told_104 : decode cX7_told 104 = .ok (.iadd, 1) := by decide +kernel
theorem dX7_told_105 : decode cX7_told 105 = .ok (.ireturn, 1) := by decide +kernel
theorem dX7_told_106 : decode cX7_told 106 = .ok (.aload_n 0, 1) := by decide +kernel
theorem dX7_told_107 : decode cX7_told 107 = .ok (.getfield 7, 3) := by decide +kernel
theorem dX7_told_110 : decode cX7_told 110 = .ok (.iconst 3, 1) := by decide +kernel
theorem dX7_told_111 : decode cX7_told 111 = .ok (.iaload, 1) := by decide +kernel
theorem dX7_told_112 : decode cX7_told 112 = .ok (.bipush 100, 2) := by decide +kernel
theorem dX7_told_114 : decode cX7_told 114 = .ok (.iadd, 1) := by decide +kernel
theorem dX7_told_115 : decode cX7_told 115 = .ok (.ireturn, 1) := by decide +kernel
theorem dX7_told_116 : decode cX7_told 116 = .ok (.aload_n 0, 1) := by decide +kernel
theorem dX7_told_117 : decode cX7_told 117 = .ok (.getfield 7, 3) := by decide +kernel
theorem dX7_told_120 : decode cX7_told 120 = .ok (.iconst 4, 1) := by decide +kernel
theorem dX7_told_121 : decode cX7_told 121 = .ok (.iaload, 1) := by decide +kernel
theorem dX7_told_122 : decode cX7_told 122 = .ok (.ireturn, 1) := by decide +kernel
theorem dX7_told_123 : decode cX7_told 123 = .ok (.aload_n 0, 1) := by decide +kernel
theorem dX7_told_124 : decode cX7_told 124 = .ok (.getfield 7, 3) := by decide +kernel
theorem dX7_told_127 : decode cX7_told 127 = .ok (.iconst 5, 1) := by decide +kernel
theorem dX7_told_128 : decode cX7_told 128 = .ok (.iaload, 1) := by decide +kernel
theorem dX7_told_129 : decode cX7_told 129 = .ok (.ireturn, 1) := by decide +kernel
theorem dX7_told_130 : decode cX7_told 130 = .ok (.aload_n 0, 1) := by decide +kernel
theorem dX7_told_131 : decode cX7_told 131 = .ok (.invokevirtual 148, 3) := by decide +kernel
theorem dX7_told_134 : decode cX7_told 134 = .ok (.ireturn, 1) := by decide +kernel
theorem dX7_told_135 : decode cX7_told 135 = .ok (.aload_n 0, 1) := by decide +kernel
theorem dX7_told_136 : decode cX7_told 136 = .ok (.getfield 128, 3) := by decide +kernel
theorem dX7_told_139 : decode cX7_told 139 = .ok (.ireturn, 1) := by decide +kernel
theorem dX7_told_140 : decode cX7_told 140 = .ok (.aload_n 0, 1) := by decide +kernel
theorem dX7_told_141 : decode cX7_told 141 = .ok (.invokevirtual 151, 3) := by decide +kernel
theorem dX7_told_144 : decode cX7_told 144 = .ok (.ireturn, 1) := by decide +kernel
theorem dX7_told_145 : decode cX7_told 145 = .ok (.aload_n 0, 1) := by decide +kernel
theorem dX7_told_146 : decode cX7_told 146 = .ok (.getfield 154, 3) := by decide +kernel
theorem dX7_told_149 : decode cX7_told 149 = .ok (.ireturn, 1) := by decide +kernel
theorem dX7_told_150 : decode cX7_told 150 = .ok (.ldc 157, 2) := by decide +kernel
theorem dX7_told_152 : decode cX7_told 152 = .ok (.ireturn, 1) := by decide +kernel
theorem dX7_leaves_0 : decode cX7_leaves 0 = .ok (.iload_n 1, 1) := by decide +kernel
theorem dX7_leaves_1 : decode cX7_leaves 1 = .ok (.istore_n 2, 1) := by decide +kernel
theorem dX7_leaves_2 : decode cX7_leaves 2 = .ok (.iload_n 2, 1) := by decide +kernel
theorem dX7_leaves_3 : decode cX7_leaves 3 = .ok (.iconst 1, 1) := by decide +kernel
theorem dX7_leaves_4 : decode cX7_leaves 4 = .ok (.iadd, 1) := by decide +kernel
theorem dX7_leaves_5 : decode cX7_leaves 5 = .ok (.aload_n 0, 1) := by decide +kernel
theorem dX7_leaves_6 : decode cX7_leaves 6 = .ok (.iconst 0, 1) := by decide +kernel
theorem dX7_leaves_7 : decode cX7_leaves 7 = .ok (.iaload, 1) := by decide +kernel
theorem dX7_leaves_8 : decode cX7_leaves 8 = .ok (.if_icmp .ge 51, 3) := by decide +kernel
theorem dX7_leaves_11 : decode cX7_leaves 11 = .ok (.aload_n 0, 1) := by decide +kernel
theorem dX7_leaves_12 : decode cX7_leaves 12 = .ok (.bipush 6, 2) := by decide +kernel
theorem dX7_leaves_14 : decode cX7_leaves 14 = .ok (.iload_n 2, 1) := by decide +kernel
theorem dX7_leaves_15 : decode cX7_leaves 15 = .ok (.iadd, 1) := by decide +kernel
theorem dX7_leaves_16 : decode cX7_leaves 16 = .ok (.aload_n 0, 1) := by decide +kernel
theorem dX7_leaves_17 : decode cX7_leaves 17 = .ok (.bipush 6, 2) := by decide +kernel
theorem dX7_leaves_19 : decode cX7_leaves 19 = .ok (.iload_n 2, 1) := by decide +kernel
theorem dX7_leaves_20 : decode cX7_leaves 20 = .ok (.iadd, 1) := by decide +kernel
theorem dX7_leaves_21 : decode cX7_leaves 21 = .ok (.iconst 1, 1) := by decide +kernel
theorem dX7_leaves_22 : decode cX7_leaves 22 = .ok (.iadd, 1) := by decide +kernel
theorem dX7_leaves_23 : decode cX7_leaves 23 = .ok (.iaload, 1) := by decide +kernel
theorem dX7_leaves_24 : decode cX7_leaves 24 = .ok (.iastore, 1) := by decide +kernel
theorem dX7_leaves_25 : decode cX7_leaves 25 = .ok (.aload_n 0, 1) := by decide +kernel
theorem dX7_leaves_26 : decode cX7_leaves 26 = .ok (.bipush 46, 2) := by decide +kernel
theorem dX7_leaves_28 : decode cX7_leaves 28 = .ok (.iload_n 2, 1) := by decide +kernel
theorem dX7_leaves_29 : decode cX7_leaves 29 = .ok (.iadd, 1) := by decide +kernel
theorem dX7_leaves_30 : decode cX7_leaves 30 = .ok (.aload_n 0, 1) := by decide +kernel
theorem dX7_leaves_31 : decode cX7_leaves 31 = .ok (.bipush 46, 2) := by decide +kernel
theorem dX7_leaves_33 : decode cX7_leaves 33 = .ok (.iload_n 2, 1) := by decide +kernel
theorem dX7_leaves_34 : decode cX7_leaves 34 = .ok (.iadd, 1) := by decide +kernel
theorem dX7_leaves_35 : decode cX7_leaves 35 = .ok (.iconst 1, 1) := by decide +kernel
theorem dX7_leaves_36 : decode cX7_leaves 36 = .ok (.iadd, 1) := by decide +kernel
theorem dX7_leaves_37 : decode cX7_leaves 37 = .ok (.iaload, 1) := by decide +kernel
theorem dX7_leaves_38 : decode cX7_leaves 38 = .ok (.iastore, 1) := by decide +kernel
theorem dX7_leaves_39 : decode cX7_leaves 39 = .ok (.aload_n 0, 1) := by decide +kernel
theorem dX7_leaves_40 : decode cX7_leaves 40 = .ok (.bipush 86, 2) := by decide +kernel
theorem dX7_leaves_42 : decode cX7_leaves 42 = .ok (.iload_n 2, 1) := by decide +kernel
theorem dX7_leaves_43 : decode cX7_leaves 43 = .ok (.iadd, 1) := by decide +kernel
theorem dX7_leaves_44 : decode cX7_leaves 44 = .ok (.aload_n 0, 1) := by decide +kernel
theorem dX7_leaves_45 : decode cX7_leaves 45 = .ok (.bipush 86, 2) := by decide +kernel
theorem dX7_leaves_47 : decode cX7_leaves 47 = .ok (.iload_n 2, 1) := by decide +kernel
theorem dX7_leaves_48 : decode cX7_leaves 48 = .ok (.iadd, 1) := by decide +kernel
theorem dX7_leaves_49 : decode cX7_leaves 49 = .ok (.iconst 1, 1) := by decide +kernel
theorem dX7_leaves_50 : decode cX7_leaves 50 = .ok (.iadd, 1) := by decide +kernel
theorem dX7_leaves_51 : decode cX7_leaves 51 = .ok (.iaload, 1) := by decide +kernel
theorem dX7_leaves_52 : decode cX7_leaves 52 = .ok (.iastore, 1) := by decide +kernel
theorem dX7_leaves_53 : decode cX7_leaves 53 = .ok (.iinc 2 1, 3) := by decide +kernel
theorem dX7_leaves_56 : decode cX7_leaves 56 = .ok (.goto (-54), 3) := by decide +kernel
theorem dX7_leaves_59 : decode cX7_leaves 59 = .ok (.aload_n 0, 1) := by decide +kernel
theorem dX7_leaves_60 : decode cX7_leaves 60 = .ok (.iconst 0, 1) := by decide +kernel
theorem dX7_leaves_61 : decode cX7_leaves 61 = .ok (.dup2, 1) := by decide +kernel
theorem dX7_leaves_62 : decode cX7_leaves 62 = .ok (.iaload, 1) := by decide +kernel
theorem dX7_leaves_63 : decode cX7_leaves 63 = .ok (.iconst 1, 1) := by decide +kernel
theorem dX7_leaves_64 : decode cX7_leaves 64 = .ok (.isub, 1) := by decide +kernel
theorem dX7_leaves_65 : decode cX7_leaves 65 = .ok (.iastore, 1) := by decide +kernel
theorem dX7_leaves_66 : decode cX7_leaves 66 = .ok (.return_, 1) := by decide +kernel
theorem dX7_changedBy_0 : decode cX7_changedBy 0 = .ok (.iconst 0, 1) := by decide +kernel
theorem dX7_changedBy_1 : decode cX7_changedBy 1 = .ok (.istore_n 2, 1) := by decide +kernel
theorem dX7_changedBy_2 : decode cX7_changedBy 2 = .ok (.iload_n 2, 1) := by decide +kernel
theorem dX7_changedBy_3 : decode cX7_changedBy 3 = .ok (.aload_n 0, 1) := by decide +kernel
theorem dX7_changedBy_4 : decode cX7_changedBy 4 = .ok (.getfield 7, 3) := by decide +kernel
theorem dX7_changedBy_7 : decode cX7_changedBy 7 = .ok (.iconst 0, 1) := by decide +kernel
theorem dX7_changedBy_8 : decode cX7_changedBy 8 = .ok (.iaload, 1) := by decide +kernel
theorem dX7_changedBy_9 : decode cX7_changedBy 9 = .ok (.if_icmp .ge 25, 3) := by decide +kernel
theorem dX7_changedBy_12 : decode cX7_changedBy 12 = .ok (.aload_n 0, 1) := by decide +kernel
theorem dX7_changedBy_13 : decode cX7_changedBy 13 = .ok (.getfield 60, 3) := by decide +kernel
theorem dX7_changedBy_16 : decode cX7_changedBy 16 = .ok (.iload_n 2, 1) := by decide +kernel
theorem dX7_changedBy_17 : decode cX7_changedBy 17 = .ok (.aload_n 0, 1) := by decide +kernel
theorem dX7_changedBy_18 : decode cX7_changedBy 18 = .ok (.aload_n 0, 1) := by decide +kernel
theorem dX7_changedBy_19 : decode cX7_changedBy 19 = .ok (.getfield 7, 3) := by decide +kernel
theorem dX7_changedBy_22 : decode cX7_changedBy 22 = .ok (.iload_n 2, 1) := by decide +kernel
theorem dX7_changedBy_23 : decode cX7_changedBy 23 = .ok (.iconst 2, 1) := by decide +kernel
theorem dX7_changedBy_24 : decode cX7_changedBy 24 = .ok (.invokevirtual 135, 3) := by decide +kernel
theorem dX7_changedBy_27 : decode cX7_changedBy 27 = .ok (.iastore, 1) := by decide +kernel
theorem dX7_changedBy_28 : decode cX7_changedBy 28 = .ok (.iinc 2 1, 3) := by decide +kernel
theorem dX7_changedBy_31 : decode cX7_changedBy 31 = .ok (.goto (-29), 3) := by decide +kernel
theorem dX7_changedBy_34 : decode cX7_changedBy 34 = .ok (.aload_n 0, 1) := by decide +kernel
theorem dX7_changedBy_35 : decode cX7_changedBy 35 = .ok (.getfield 7, 3) := by decide +kernel
theorem dX7_changedBy_38 : decode cX7_changedBy 38 = .ok (.iconst 0, 1) := by decide +kernel
theorem dX7_changedBy_39 : decode cX7_changedBy 39 = .ok (.aload_n 0, 1) := by decide +kernel
theorem dX7_changedBy_40 : decode cX7_changedBy 40 = .ok (.getfield 13, 3) := by decide +kernel
theorem dX7_changedBy_43 : decode cX7_changedBy 43 = .ok (.iconst 0, 1) := by decide +kernel
theorem dX7_changedBy_44 : decode cX7_changedBy 44 = .ok (.invokestatic 158, 3) := by decide +kernel
theorem dX7_changedBy_47 : decode cX7_changedBy 47 = .ok (.aload_n 0, 1) := by decide +kernel
theorem dX7_changedBy_48 : decode cX7_changedBy 48 = .ok (.getfield 13, 3) := by decide +kernel
theorem dX7_changedBy_51 : decode cX7_changedBy 51 = .ok (.iload_n 1, 1) := by decide +kernel
theorem dX7_changedBy_52 : decode cX7_changedBy 52 = .ok (.invokestatic 162, 3) := by decide +kernel
theorem dX7_changedBy_55 : decode cX7_changedBy 55 = .ok (.aload_n 0, 1) := by decide +kernel
theorem dX7_changedBy_56 : decode cX7_changedBy 56 = .ok (.aload_n 0, 1) := by decide +kernel
theorem dX7_changedBy_57 : decode cX7_changedBy 57 = .ok (.getfield 13, 3) := by decide +kernel
theorem dX7_changedBy_60 : decode cX7_changedBy 60 = .ok (.invokevirtual 139, 3) := by decide +kernel
theorem dX7_changedBy_63 : decode cX7_changedBy 63 = .ok (.iconst 0, 1) := by decide +kernel
theorem dX7_changedBy_64 : decode cX7_changedBy 64 = .ok (.istore_n 2, 1) := by decide +kernel
theorem dX7_changedBy_65 : decode cX7_changedBy 65 = .ok (.iconst 0, 1) := by decide +kernel
theorem dX7_changedBy_66 : decode cX7_changedBy 66 = .ok (.istore_n 3, 1) := by decide +kernel
theorem dX7_changedBy_67 : decode cX7_changedBy 67 = .ok (.iload_n 3, 1) := by decide +kernel
theorem dX7_changedBy_68 : decode cX7_changedBy 68 = .ok (.aload_n 0, 1) := by decide +kernel
theorem dX7_changedBy_69 : decode cX7_changedBy 69 = .ok (.getfield 13, 3) := by decide +kernel
theorem dX7_changedBy_72 : decode cX7_changedBy 72 = .ok (.iconst 0, 1) := by decide +kernel
theorem dX7_changedBy_73 : decode cX7_changedBy 73 = .ok (.iaload, 1) := by decide +kernel
theorem dX7_changedBy_74 : decode cX7_changedBy 74 = .ok (.if_icmp .ge 47, 3) := by decide +kernel
theorem dX7_changedBy_77 : decode cX7_changedBy 77 = .ok (.iload_n 2, 1) := by decide +kernel
theorem dX7_changedBy_78 : decode cX7_changedBy 78 = .ok (.aload_n 0, 1) := by decide +kernel
theorem dX7_changedBy_79 : decode cX7_changedBy 79 = .ok (.aload_n 0, 1) := by decide +kernel
theorem dX7_changedBy_80 : decode cX7_changedBy 80 = .ok (.getfield 13, 3) := by decide +kernel
theorem dX7_changedBy_83 : decode cX7_changedBy 83 = .ok (.iload_n 3, 1) := by decide +kernel
theorem dX7_changedBy_84 : decode cX7_changedBy 84 = .ok (.iconst 2, 1) := by decide +kernel
theorem dX7_changedBy_85 : decode cX7_changedBy 85 = .ok (.invokevirtual 135, 3) := by decide +kernel
theorem dX7_changedBy_88 : decode cX7_changedBy 88 = .ok (.aload_n 0, 1) := by decide +kernel
theorem dX7_changedBy_89 : decode cX7_changedBy 89 = .ok (.getfield 60, 3) := by decide +kernel
theorem dX7_changedBy_92 : decode cX7_changedBy 92 = .ok (.iload_n 3, 1) := by decide +kernel
theorem dX7_changedBy_93 : decode cX7_changedBy 93 = .ok (.iload_n 1, 1) := by decide +kernel
theorem dX7_changedBy_94 : decode cX7_changedBy 94 = .ok (.if_icmp .ge 7, 3) := by decide +kernel
theorem dX7_changedBy_97 : decode cX7_changedBy 97 = .ok (.iload_n 3, 1) := by decide +kernel
theorem dX7_changedBy_98 : decode cX7_changedBy 98 = .ok (.goto 6, 3) := by decide +kernel
theorem dX7_changedBy_101 : decode cX7_changedBy 101 = .ok (.iload_n 3, 1) := by decide +kernel
theorem dX7_changedBy_102 : decode cX7_changedBy 102 = .ok (.iconst 1, 1) := by decide +kernel
theorem dX7_changedBy_103 : decode cX7_changedBy 103 = .ok (.iadd, 1) := by decide +kernel
theorem dX7_changedBy_104 : decode cX7_changedBy 104 = .ok (.iaload, 1) := by decide +kernel
theorem dX7_changedBy_105 : decode cX7_changedBy 105 = .ok (.if_icmp .eq 7, 3) := by decide +kernel
theorem dX7_changedBy_108 : decode cX7_changedBy 108 = .ok (.iconst 1, 1) := by decide +kernel
theorem dX7_changedBy_109 : decode cX7_changedBy 109 = .ok (.goto 4, 3) := by decide +kernel
theorem dX7_changedBy_112 : decode cX7_changedBy 112 = .ok (.iconst 0, 1) := by decide +kernel
theorem dX7_changedBy_113 : decode cX7_changedBy 113 = .ok (.iadd, 1) := by decide +kernel
theorem dX7_changedBy_114 : decode cX7_changedBy 114 = .ok (.istore_n 2, 1) := by decide +kernel
theorem dX7_changedBy_115 : decode cX7_changedBy 115 = .ok (.iinc 3 1, 3) := by decide +kernel
theorem dX7_changedBy_118 : decode cX7_changedBy 118 = .ok (.goto (-51), 3) := by decide +kernel
theorem dX7_changedBy_121 : decode cX7_changedBy 121 = .ok (.iload_n 2, 1) := by decide +kernel
theorem dX7_changedBy_122 : decode cX7_changedBy 122 = .ok (.ireturn, 1) := by decide +kernel
theorem dX7_row_0 : decode cX7_row 0 = .ok (.aload_n 0, 1) := by decide +kernel
theorem dX7_row_1 : decode cX7_row 1 = .ok (.iload_n 1, 1) := by decide +kernel
theorem dX7_row_2 : decode cX7_row 2 = .ok (.invokevirtual 131, 3) := by decide +kernel
theorem dX7_row_5 : decode cX7_row 5 = .ok (.ifCond .ne 6, 3) := by decide +kernel
theorem dX7_row_8 : decode cX7_row 8 = .ok (.ldc 165, 2) := by decide +kernel
theorem dX7_row_10 : decode cX7_row 10 = .ok (.ireturn, 1) := by decide +kernel
theorem dX7_row_11 : decode cX7_row 11 = .ok (.aload_n 0, 1) := by decide +kernel
theorem dX7_row_12 : decode cX7_row 12 = .ok (.aload_n 0, 1) := by decide +kernel
theorem dX7_row_13 : decode cX7_row 13 = .ok (.getfield 7, 3) := by decide +kernel
theorem dX7_row_16 : decode cX7_row 16 = .ok (.invokevirtual 139, 3) := by decide +kernel
theorem dX7_row_19 : decode cX7_row 19 = .ok (.iload_n 2, 1) := by decide +kernel
theorem dX7_row_20 : decode cX7_row 20 = .ok (.tableswitch 141 0 8 #[52, 62, 72, 82, 96, 112, 121, 128, 135], 52) := by decide +kernel
theorem dX7_row_72 : decode cX7_row 72 = .ok (.aload_n 0, 1) := by decide +kernel
theorem dX7_row_73 : decode cX7_row 73 = .ok (.getfield 7, 3) := by decide +kernel
theorem dX7_row_76 : decode cX7_row 76 = .ok (.bipush 6, 2) := by decide +kernel
theorem dX7_row_78 : decode cX7_row 78 = .ok (.iload_n 1, 1) := by decide +kernel
theorem dX7_row_79 : decode cX7_row 79 = .ok (.iadd, 1) := by decide +kernel
theorem dX7_row_80 : decode cX7_row 80 = .ok (.iaload, 1) := by decide +kernel
theorem dX7_row_81 : decode cX7_row 81 = .ok (.ireturn, 1) := by decide +kernel
theorem dX7_row_82 : decode cX7_row 82 = .ok (.aload_n 0, 1) := by decide +kernel
theorem dX7_row_83 : decode cX7_row 83 = .ok (.getfield 7, 3) := by decide +kernel
theorem dX7_row_86 : decode cX7_row 86 = .ok (.bipush 46, 2) := by decide +kernel
theorem dX7_row_88 : decode cX7_row 88 = .ok (.iload_n 1, 1) := by decide +kernel
theorem dX7_row_89 : decode cX7_row 89 = .ok (.iadd, 1) := by decide +kernel
theorem dX7_row_90 : decode cX7_row 90 = .ok (.iaload, 1) := by decide +kernel
theorem dX7_row_91 : decode cX7_row 91 = .ok (.ireturn, 1) := by decide +kernel
theorem dX7_row_92 : decode cX7_row 92 = .ok (.aload_n 0, 1) := by decide +kernel
theorem dX7_row_93 : decode cX7_row 93 = .ok (.getfield 7, 3) := by decide +kernel
theorem dX7_row_96 : decode cX7_row 96 = .ok (.bipush 86, 2) := by decide +kernel
theorem dX7_row_98 : decode cX7_row 98 = .ok (.iload_n 1, 1) := by decide +kernel
theorem dX7_row_99 : decode cX7_row 99 = .ok (.iadd, 1) := by decide +kernel
theorem dX7_row_100 : decode cX7_row 100 = .ok (.iaload, 1) := by decide +kernel
theorem dX7_row_101 : decode cX7_row 101 = .ok (.ireturn, 1) := by decide +kernel
theorem dX7_row_102 : decode cX7_row 102 = .ok (.aload_n 0, 1) := by decide +kernel
theorem dX7_row_103 : decode cX7_row 103 = .ok (.getfield 32, 3) := by decide +kernel
theorem dX7_row_106 : decode cX7_row 106 = .ok (.iload_n 1, 1) := by decide +kernel
theorem dX7_row_107 : decode cX7_row 107 = .ok (.iaload, 1) := by decide +kernel
theorem dX7_row_108 : decode cX7_row 108 = .ok (.aload_n 0, 1) := by decide +kernel
theorem dX7_row_109 : decode cX7_row 109 = .ok (.getfield 35, 3) := by decide +kernel
theorem dX7_row_112 : decode cX7_row 112 = .ok (.iload_n 1, 1) := by decide +kernel
theorem dX7_row_113 : decode cX7_row 113 = .ok (.iaload, 1) := by decide +kernel
theorem dX7_row_114 : decode cX7_row 114 = .ok (.isub, 1) := by decide +kernel
theorem dX7_row_115 : decode cX7_row 115 = .ok (.ireturn, 1) := by decide +kernel
theorem dX7_row_116 : decode cX7_row 116 = .ok (.aload_n 0, 1) := by decide +kernel
theorem dX7_row_117 : decode cX7_row 117 = .ok (.getfield 41, 3) := by decide +kernel
theorem dX7_row_120 : decode cX7_row 120 = .ok (.iload_n 1, 1) := by decide +kernel
theorem dX7_row_121 : decode cX7_row 121 = .ok (.iaload, 1) := by decide +kernel
theorem dX7_row_122 : decode cX7_row 122 = .ok (.aload_n 0, 1) := by decide +kernel
theorem dX7_row_123 : decode cX7_row 123 = .ok (.getfield 35, 3) := by decide +kernel
theorem dX7_row_126 : decode cX7_row 126 = .ok (.iload_n 1, 1) := by decide +kernel
theorem dX7_row_127 : decode cX7_row 127 = .ok (.iaload, 1) := by decide +kernel
theorem dX7_row_128 : decode cX7_row 128 = .ok (.isub, 1) := by decide +kernel
theorem dX7_row_129 : decode cX7_row 129 = .ok (.iconst 1, 1) := by decide +kernel
theorem dX7_row_130 : decode cX7_row 130 = .ok (.iadd, 1) := by decide +kernel
theorem dX7_row_131 : decode cX7_row 131 = .ok (.ireturn, 1) := by decide +kernel
theorem dX7_row_132 : decode cX7_row 132 = .ok (.aload_n 0, 1) := by decide +kernel
theorem dX7_row_133 : decode cX7_row 133 = .ok (.getfield 47, 3) := by decide +kernel
theorem dX7_row_136 : decode cX7_row 136 = .ok (.iload_n 1, 1) := by decide +kernel
theorem dX7_row_137 : decode cX7_row 137 = .ok (.iaload, 1) := by decide +kernel
theorem dX7_row_138 : decode cX7_row 138 = .ok (.iconst 1, 1) := by decide +kernel
theorem dX7_row_139 : decode cX7_row 139 = .ok (.iadd, 1) := by decide +kernel
theorem dX7_row_140 : decode cX7_row 140 = .ok (.ireturn, 1) := by decide +kernel
theorem dX7_row_141 : decode cX7_row 141 = .ok (.aload_n 0, 1) := by decide +kernel
theorem dX7_row_142 : decode cX7_row 142 = .ok (.getfield 44, 3) := by decide +kernel
theorem dX7_row_145 : decode cX7_row 145 = .ok (.iload_n 1, 1) := by decide +kernel
theorem dX7_row_146 : decode cX7_row 146 = .ok (.iaload, 1) := by decide +kernel
theorem dX7_row_147 : decode cX7_row 147 = .ok (.ireturn, 1) := by decide +kernel
theorem dX7_row_148 : decode cX7_row 148 = .ok (.aload_n 0, 1) := by decide +kernel
theorem dX7_row_149 : decode cX7_row 149 = .ok (.getfield 32, 3) := by decide +kernel
theorem dX7_row_152 : decode cX7_row 152 = .ok (.iload_n 1, 1) := by decide +kernel
theorem dX7_row_153 : decode cX7_row 153 = .ok (.iaload, 1) := by decide +kernel
theorem dX7_row_154 : decode cX7_row 154 = .ok (.ireturn, 1) := by decide +kernel
theorem dX7_row_155 : decode cX7_row 155 = .ok (.aload_n 0, 1) := by decide +kernel
theorem dX7_row_156 : decode cX7_row 156 = .ok (.iload_n 1, 1) := by decide +kernel
theorem dX7_row_157 : decode cX7_row 157 = .ok (.invokevirtual 166, 3) := by decide +kernel
theorem dX7_row_160 : decode cX7_row 160 = .ok (.ireturn, 1) := by decide +kernel
theorem dX7_row_161 : decode cX7_row 161 = .ok (.ldc 157, 2) := by decide +kernel
theorem dX7_row_163 : decode cX7_row 163 = .ok (.ireturn, 1) := by decide +kernel
theorem dX7_standing_0 : decode cX7_standing 0 = .ok (.aload_n 0, 1) := by decide +kernel
theorem dX7_standing_1 : decode cX7_standing 1 = .ok (.aload_n 0, 1) := by decide +kernel
theorem dX7_standing_2 : decode cX7_standing 2 = .ok (.getfield 7, 3) := by decide +kernel
theorem dX7_standing_5 : decode cX7_standing 5 = .ok (.invokevirtual 139, 3) := by decide +kernel
theorem dX7_standing_8 : decode cX7_standing 8 = .ok (.iload_n 1, 1) := by decide +kernel
theorem dX7_standing_9 : decode cX7_standing 9 = .ok (.iconst 0, 1) := by decide +kernel
theorem dX7_standing_10 : decode cX7_standing 10 = .ok (.aload_n 0, 1) := by decide +kernel
theorem dX7_standing_11 : decode cX7_standing 11 = .ok (.getfield 7, 3) := by decide +kernel
theorem dX7_standing_14 : decode cX7_standing 14 = .ok (.iconst 0, 1) := by decide +kernel
theorem dX7_standing_15 : decode cX7_standing 15 = .ok (.iaload, 1) := by decide +kernel
theorem dX7_standing_16 : decode cX7_standing 16 = .ok (.iconst 1, 1) := by decide +kernel
theorem dX7_standing_17 : decode cX7_standing 17 = .ok (.isub, 1) := by decide +kernel
theorem dX7_standing_18 : decode cX7_standing 18 = .ok (.invokestatic 120, 3) := by decide +kernel
theorem dX7_standing_21 : decode cX7_standing 21 = .ok (.ifCond .eq 12, 3) := by decide +kernel
theorem dX7_standing_24 : decode cX7_standing 24 = .ok (.aload_n 0, 1) := by decide +kernel
theorem dX7_standing_25 : decode cX7_standing 25 = .ok (.getfield 29, 3) := by decide +kernel
theorem dX7_standing_28 : decode cX7_standing 28 = .ok (.iload_n 1, 1) := by decide +kernel
theorem dX7_standing_29 : decode cX7_standing 29 = .ok (.iaload, 1) := by decide +kernel
theorem dX7_standing_30 : decode cX7_standing 30 = .ok (.goto 4, 3) := by decide +kernel
theorem dX7_standing_33 : decode cX7_standing 33 = .ok (.iconst (-1), 1) := by decide +kernel
theorem dX7_standing_34 : decode cX7_standing 34 = .ok (.ireturn, 1) := by decide +kernel
theorem dX7_isKey_0 : decode cX7_isKey 0 = .ok (.iload_n 0, 1) := by decide +kernel
theorem dX7_isKey_1 : decode cX7_isKey 1 = .ok (.ldc 66, 2) := by decide +kernel
theorem dX7_isKey_3 : decode cX7_isKey 3 = .ok (.if_icmp .eq 14, 3) := by decide +kernel
theorem dX7_isKey_6 : decode cX7_isKey 6 = .ok (.iload_n 0, 1) := by decide +kernel
theorem dX7_isKey_7 : decode cX7_isKey 7 = .ok (.bipush (-99), 2) := by decide +kernel
theorem dX7_isKey_9 : decode cX7_isKey 9 = .ok (.bipush 99, 2) := by decide +kernel
theorem dX7_isKey_11 : decode cX7_isKey 11 = .ok (.invokestatic 120, 3) := by decide +kernel
theorem dX7_isKey_14 : decode cX7_isKey 14 = .ok (.ifCond .eq 7, 3) := by decide +kernel
theorem dX7_isKey_17 : decode cX7_isKey 17 = .ok (.iconst 1, 1) := by decide +kernel
theorem dX7_isKey_18 : decode cX7_isKey 18 = .ok (.goto 4, 3) := by decide +kernel
theorem dX7_isKey_21 : decode cX7_isKey 21 = .ok (.iconst 0, 1) := by decide +kernel
theorem dX7_isKey_22 : decode cX7_isKey 22 = .ok (.ireturn, 1) := by decide +kernel
theorem dX7_isWorth_0 : decode cX7_isWorth 0 = .ok (.iload_n 0, 1) := by decide +kernel
theorem dX7_isWorth_1 : decode cX7_isWorth 1 = .ok (.ldc 66, 2) := by decide +kernel
theorem dX7_isWorth_3 : decode cX7_isWorth 3 = .ok (.if_icmp .eq 16, 3) := by decide +kernel
theorem dX7_isWorth_6 : decode cX7_isWorth 6 = .ok (.iload_n 0, 1) := by decide +kernel
theorem dX7_isWorth_7 : decode cX7_isWorth 7 = .ok (.sipush (-999), 3) := by decide +kernel
theorem dX7_isWorth_10 : decode cX7_isWorth 10 = .ok (.sipush 999, 3) := by decide +kernel
theorem dX7_isWorth_13 : decode cX7_isWorth 13 = .ok (.invokestatic 120, 3) := by decide +kernel
theorem dX7_isWorth_16 : decode cX7_isWorth 16 = .ok (.ifCond .eq 7, 3) := by decide +kernel
theorem dX7_isWorth_19 : decode cX7_isWorth 19 = .ok (.iconst 1, 1) := by decide +kernel
theorem dX7_isWorth_20 : decode cX7_isWorth 20 = .ok (.goto 4, 3) := by decide +kernel
theorem dX7_isWorth_23 : decode cX7_isWorth 23 = .ok (.iconst 0, 1) := by decide +kernel
theorem dX7_isWorth_24 : decode cX7_isWorth 24 = .ok (.ireturn, 1) := by decide +kernel
theorem dX7_notes_0 : decode cX7_notes 0 = .ok (.aload_n 0, 1) := by decide +kernel
theorem dX7_notes_1 : decode cX7_notes 1 = .ok (.getfield 154, 3) := by decide +kernel
theorem dX7_notes_4 : decode cX7_notes 4 = .ok (.bipush 20, 2) := by decide +kernel
theorem dX7_notes_6 : decode cX7_notes 6 = .ok (.if_icmp .ne 43, 3) := by decide +kernel
theorem dX7_notes_9 : decode cX7_notes 9 = .ok (.iconst 0, 1) := by decide +kernel
theorem dX7_notes_10 : decode cX7_notes 10 = .ok (.istore_n 1, 1) := by decide +kernel
theorem dX7_notes_11 : decode cX7_notes 11 = .ok (.iload_n 1, 1) := by decide +kernel
theorem dX7_notes_12 : decode cX7_notes 12 = .ok (.sipush 2394, 3) := by decide +kernel
theorem dX7_notes_15 : decode cX7_notes 15 = .ok (.if_icmp .ge 24, 3) := by decide +kernel
theorem dX7_notes_18 : decode cX7_notes 18 = .ok (.aload_n 0, 1) := by decide +kernel
theorem dX7_notes_19 : decode cX7_notes 19 = .ok (.getfield 16, 3) := by decide +kernel
theorem dX7_notes_22 : decode cX7_notes 22 = .ok (.iload_n 1, 1) := by decide +kernel
theorem dX7_notes_23 : decode cX7_notes 23 = .ok (.aload_n 0, 1) := by decide +kernel
theorem dX7_notes_24 : decode cX7_notes 24 = .ok (.getfield 16, 3) := by decide +kernel
theorem dX7_notes_27 : decode cX7_notes 27 = .ok (.iload_n 1, 1) := by decide +kernel
theorem dX7_notes_28 : decode cX7_notes 28 = .ok (.bipush 126, 2) := by decide +kernel
theorem dX7_notes_30 : decode cX7_notes 30 = .ok (.iadd, 1) := by decide +kernel
theorem dX7_notes_31 : decode cX7_notes 31 = .ok (.iaload, 1) := by decide +kernel
theorem dX7_notes_32 : decode cX7_notes 32 = .ok (.iastore, 1) := by decide +kernel
theorem dX7_notes_33 : decode cX7_notes 33 = .ok (.iinc 1 1, 3) := by decide +kernel
theorem dX7_notes_36 : decode cX7_notes 36 = .ok (.goto (-25), 3) := by decide +kernel
theorem dX7_notes_39 : decode cX7_notes 39 = .ok (.aload_n 0, 1) := by decide +kernel
theorem dX7_notes_40 : decode cX7_notes 40 = .ok (.dup, 1) := by decide +kernel
theorem dX7_notes_41 : decode cX7_notes 41 = .ok (.getfield 154, 3) := by decide +kernel
theorem dX7_notes_44 : decode cX7_notes 44 = .ok (.iconst 1, 1) := by decide +kernel
theorem dX7_notes_45 : decode cX7_notes 45 = .ok (.isub, 1) := by decide +kernel
theorem dX7_notes_46 : decode cX7_notes 46 = .ok (.putfield 154, 3) := by decide +kernel
theorem dX7_notes_49 : decode cX7_notes 49 = .ok (.aload_n 0, 1) := by decide +kernel
theorem dX7_notes_50 : decode cX7_notes 50 = .ok (.getfield 7, 3) := by decide +kernel
theorem dX7_notes_53 : decode cX7_notes 53 = .ok (.iconst 0, 1) := by decide +kernel
theorem dX7_notes_54 : decode cX7_notes 54 = .ok (.aload_n 0, 1) := by decide +kernel
theorem dX7_notes_55 : decode cX7_notes 55 = .ok (.getfield 16, 3) := by decide +kernel
theorem dX7_notes_58 : decode cX7_notes 58 = .ok (.bipush 126, 2) := by decide +kernel
theorem dX7_notes_60 : decode cX7_notes 60 = .ok (.aload_n 0, 1) := by decide +kernel
theorem dX7_notes_61 : decode cX7_notes 61 = .ok (.getfield 154, 3) := by decide +kernel
theorem dX7_notes_64 : decode cX7_notes 64 = .ok (.imul, 1) := by decide +kernel
theorem dX7_notes_65 : decode cX7_notes 65 = .ok (.invokestatic 158, 3) := by decide +kernel
theorem dX7_notes_68 : decode cX7_notes 68 = .ok (.aload_n 0, 1) := by decide +kernel
theorem dX7_notes_69 : decode cX7_notes 69 = .ok (.dup, 1) := by decide +kernel
theorem dX7_notes_70 : decode cX7_notes 70 = .ok (.getfield 154, 3) := by decide +kernel
theorem dX7_notes_73 : decode cX7_notes 73 = .ok (.iconst 1, 1) := by decide +kernel
theorem dX7_notes_74 : decode cX7_notes 74 = .ok (.iadd, 1) := by decide +kernel
theorem dX7_notes_75 : decode cX7_notes 75 = .ok (.putfield 154, 3) := by decide +kernel
theorem dX7_notes_78 : decode cX7_notes 78 = .ok (.return_, 1) := by decide +kernel
theorem dX7_puts_0 : decode cX7_puts 0 = .ok (.aload_n 0, 1) := by decide +kernel
theorem dX7_puts_1 : decode cX7_puts 1 = .ok (.invokevirtual 170, 3) := by decide +kernel
theorem dX7_puts_4 : decode cX7_puts 4 = .ok (.aload_n 0, 1) := by decide +kernel
theorem dX7_puts_5 : decode cX7_puts 5 = .ok (.getfield 7, 3) := by decide +kernel
theorem dX7_puts_8 : decode cX7_puts 8 = .ok (.iconst 0, 1) := by decide +kernel
theorem dX7_puts_9 : decode cX7_puts 9 = .ok (.iaload, 1) := by decide +kernel
theorem dX7_puts_10 : decode cX7_puts 10 = .ok (.istore 4, 2) := by decide +kernel
theorem dX7_puts_12 : decode cX7_puts 12 = .ok (.aload_n 0, 1) := by decide +kernel
theorem dX7_puts_13 : decode cX7_puts 13 = .ok (.getfield 7, 3) := by decide +kernel
theorem dX7_puts_16 : decode cX7_puts 16 = .ok (.bipush 6, 2) := by decide +kernel
theorem dX7_puts_18 : decode cX7_puts 18 = .ok (.iload 4, 2) := by decide +kernel
theorem dX7_puts_20 : decode cX7_puts 20 = .ok (.iadd, 1) := by decide +kernel
theorem dX7_puts_21 : decode cX7_puts 21 = .ok (.iload_n 1, 1) := by decide +kernel
theorem dX7_puts_22 : decode cX7_puts 22 = .ok (.iastore, 1) := by decide +kernel
theorem dX7_puts_23 : decode cX7_puts 23 = .ok (.aload_n 0, 1) := by decide +kernel
theorem dX7_puts_24 : decode cX7_puts 24 = .ok (.getfield 7, 3) := by decide +kernel
theorem dX7_puts_27 : decode cX7_puts 27 = .ok (.bipush 46, 2) := by decide +kernel
theorem dX7_puts_29 : decode cX7_puts 29 = .ok (.iload 4, 2) := by decide +kernel
theorem dX7_puts_31 : decode cX7_puts 31 = .ok (.iadd, 1) := by decide +kernel
theorem dX7_puts_32 : decode cX7_puts 32 = .ok (.iload_n 2, 1) := by decide +kernel
theorem dX7_puts_33 : decode cX7_puts 33 = .ok (.iastore, 1) := by decide +kernel
theorem dX7_puts_34 : decode cX7_puts 34 = .ok (.aload_n 0, 1) := by decide +kernel
theorem dX7_puts_35 : decode cX7_puts 35 = .ok (.getfield 7, 3) := by decide +kernel
theorem dX7_puts_38 : decode cX7_puts 38 = .ok (.bipush 86, 2) := by decide +kernel
theorem dX7_puts_40 : decode cX7_puts 40 = .ok (.iload 4, 2) := by decide +kernel
theorem dX7_puts_42 : decode cX7_puts 42 = .ok (.iadd, 1) := by decide +kernel
theorem dX7_puts_43 : decode cX7_puts 43 = .ok (.iload_n 3, 1) := by decide +kernel
theorem dX7_puts_44 : decode cX7_puts 44 = .ok (.iastore, 1) := by decide +kernel
theorem dX7_puts_45 : decode cX7_puts 45 = .ok (.aload_n 0, 1) := by decide +kernel
theorem dX7_puts_46 : decode cX7_puts 46 = .ok (.getfield 7, 3) := by decide +kernel
theorem dX7_puts_49 : decode cX7_puts 49 = .ok (.iconst 0, 1) := by decide +kernel
theorem dX7_puts_50 : decode cX7_puts 50 = .ok (.dup2, 1) := by decide +kernel
theorem dX7_puts_51 : decode cX7_puts 51 = .ok (.iaload, 1) := by decide +kernel
theorem dX7_puts_52 : decode cX7_puts 52 = .ok (.iconst 1, 1) := by decide +kernel
theorem dX7_puts_53 : decode cX7_puts 53 = .ok (.iadd, 1) := by decide +kernel
theorem dX7_puts_54 : decode cX7_puts 54 = .ok (.iastore, 1) := by decide +kernel
theorem dX7_puts_55 : decode cX7_puts 55 = .ok (.return_, 1) := by decide +kernel
theorem dX7_put_0 : decode cX7_put 0 = .ok (.iload_n 1, 1) := by decide +kernel
theorem dX7_put_1 : decode cX7_put 1 = .ok (.iconst 0, 1) := by decide +kernel
theorem dX7_put_2 : decode cX7_put 2 = .ok (.iconst 5, 1) := by decide +kernel
theorem dX7_put_3 : decode cX7_put 3 = .ok (.invokestatic 120, 3) := by decide +kernel
theorem dX7_put_6 : decode cX7_put 6 = .ok (.ifCond .eq 17, 3) := by decide +kernel
theorem dX7_put_9 : decode cX7_put 9 = .ok (.iload_n 2, 1) := by decide +kernel
theorem dX7_put_10 : decode cX7_put 10 = .ok (.invokestatic 173, 3) := by decide +kernel
theorem dX7_put_13 : decode cX7_put 13 = .ok (.ifCond .eq 10, 3) := by decide +kernel
theorem dX7_put_16 : decode cX7_put 16 = .ok (.iload_n 3, 1) := by decide +kernel
theorem dX7_put_17 : decode cX7_put 17 = .ok (.invokestatic 176, 3) := by decide +kernel
theorem dX7_put_20 : decode cX7_put 20 = .ok (.ifCond .ne 6, 3) := by decide +kernel
theorem dX7_put_23 : decode cX7_put 23 = .ok (.ldc 157, 2) := by decide +kernel
theorem dX7_put_25 : decode cX7_put 25 = .ok (.ireturn, 1) := by decide +kernel
theorem dX7_put_26 : decode cX7_put 26 = .ok (.aload_n 0, 1) := by decide +kernel
theorem dX7_put_27 : decode cX7_put 27 = .ok (.getfield 7, 3) := by decide +kernel
theorem dX7_put_30 : decode cX7_put 30 = .ok (.iconst 0, 1) := by decide +kernel
theorem dX7_put_31 : decode cX7_put 31 = .ok (.iaload, 1) := by decide +kernel
theorem dX7_put_32 : decode cX7_put 32 = .ok (.bipush 40, 2) := by decide +kernel
theorem dX7_put_34 : decode cX7_put 34 = .ok (.if_icmp .ne 6, 3) := by decide +kernel
theorem dX7_put_37 : decode cX7_put 37 = .ok (.ldc 179, 2) := by decide +kernel
theorem dX7_put_39 : decode cX7_put 39 = .ok (.ireturn, 1) := by decide +kernel
theorem dX7_put_40 : decode cX7_put 40 = .ok (.aload_n 0, 1) := by decide +kernel
theorem dX7_put_41 : decode cX7_put 41 = .ok (.iload_n 1, 1) := by decide +kernel
theorem dX7_put_42 : decode cX7_put 42 = .ok (.iload_n 2, 1) := by decide +kernel
theorem dX7_put_43 : decode cX7_put 43 = .ok (.iload_n 3, 1) := by decide +kernel
theorem dX7_put_44 : decode cX7_put 44 = .ok (.invokevirtual 180, 3) := by decide +kernel
theorem dX7_put_47 : decode cX7_put 47 = .ok (.aload_n 0, 1) := by decide +kernel
theorem dX7_put_48 : decode cX7_put 48 = .ok (.getfield 7, 3) := by decide +kernel
theorem dX7_put_51 : decode cX7_put 51 = .ok (.iconst 0, 1) := by decide +kernel
theorem dX7_put_52 : decode cX7_put 52 = .ok (.iaload, 1) := by decide +kernel
theorem dX7_put_53 : decode cX7_put 53 = .ok (.iconst 1, 1) := by decide +kernel
theorem dX7_put_54 : decode cX7_put 54 = .ok (.isub, 1) := by decide +kernel
theorem dX7_put_55 : decode cX7_put 55 = .ok (.ireturn, 1) := by decide +kernel
theorem dX7_take_0 : decode cX7_take 0 = .ok (.aload_n 0, 1) := by decide +kernel
theorem dX7_take_1 : decode cX7_take 1 = .ok (.iload_n 1, 1) := by decide +kernel
theorem dX7_take_2 : decode cX7_take 2 = .ok (.invokevirtual 131, 3) := by decide +kernel
theorem dX7_take_5 : decode cX7_take 5 = .ok (.ifCond .ne 6, 3) := by decide +kernel
theorem dX7_take_8 : decode cX7_take 8 = .ok (.ldc 165, 2) := by decide +kernel
theorem dX7_take_10 : decode cX7_take 10 = .ok (.ireturn, 1) := by decide +kernel
theorem dX7_take_11 : decode cX7_take 11 = .ok (.aload_n 0, 1) := by decide +kernel
theorem dX7_take_12 : decode cX7_take 12 = .ok (.invokevirtual 170, 3) := by decide +kernel
theorem dX7_take_15 : decode cX7_take 15 = .ok (.aload_n 0, 1) := by decide +kernel
theorem dX7_take_16 : decode cX7_take 16 = .ok (.getfield 7, 3) := by decide +kernel
theorem dX7_take_19 : decode cX7_take 19 = .ok (.iload_n 1, 1) := by decide +kernel
theorem dX7_take_20 : decode cX7_take 20 = .ok (.invokestatic 162, 3) := by decide +kernel
theorem dX7_take_23 : decode cX7_take 23 = .ok (.aload_n 0, 1) := by decide +kernel
theorem dX7_take_24 : decode cX7_take 24 = .ok (.getfield 7, 3) := by decide +kernel
theorem dX7_take_27 : decode cX7_take 27 = .ok (.iconst 0, 1) := by decide +kernel
theorem dX7_take_28 : decode cX7_take 28 = .ok (.iaload, 1) := by decide +kernel
theorem dX7_take_29 : decode cX7_take 29 = .ok (.ireturn, 1) := by decide +kernel
theorem dX7_change_0 : decode cX7_change 0 = .ok (.aload_n 0, 1) := by decide +kernel
theorem dX7_change_1 : decode cX7_change 1 = .ok (.iload_n 1, 1) := by decide +kernel
theorem dX7_change_2 : decode cX7_change 2 = .ok (.invokevirtual 131, 3) := by decide +kernel
theorem dX7_change_5 : decode cX7_change 5 = .ok (.ifCond .ne 6, 3) := by decide +kernel
theorem dX7_change_8 : decode cX7_change 8 = .ok (.ldc 165, 2) := by decide +kernel
theorem dX7_change_10 : decode cX7_change 10 = .ok (.ireturn, 1) := by decide +kernel
theorem dX7_change_11 : decode cX7_change 11 = .ok (.iload_n 2, 1) := by decide +kernel
theorem dX7_change_12 : decode cX7_change 12 = .ok (.invokestatic 173, 3) := by decide +kernel
theorem dX7_change_15 : decode cX7_change 15 = .ok (.ifCond .eq 10, 3) := by decide +kernel
theorem dX7_change_18 : decode cX7_change 18 = .ok (.iload_n 3, 1) := by decide +kernel
theorem dX7_change_19 : decode cX7_change 19 = .ok (.invokestatic 176, 3) := by decide +kernel
theorem dX7_change_22 : decode cX7_change 22 = .ok (.ifCond .ne 6, 3) := by decide +kernel
theorem dX7_change_25 : decode cX7_change 25 = .ok (.ldc 157, 2) := by decide +kernel
theorem dX7_change_27 : decode cX7_change 27 = .ok (.ireturn, 1) := by decide +kernel
theorem dX7_change_28 : decode cX7_change 28 = .ok (.aload_n 0, 1) := by decide +kernel
theorem dX7_change_29 : decode cX7_change 29 = .ok (.invokevirtual 170, 3) := by decide +kernel
theorem dX7_change_32 : decode cX7_change 32 = .ok (.aload_n 0, 1) := by decide +kernel
theorem dX7_change_33 : decode cX7_change 33 = .ok (.aload_n 0, 1) := by decide +kernel
theorem dX7_change_34 : decode cX7_change 34 = .ok (.getfield 7, 3) := by decide +kernel
theorem dX7_change_37 : decode cX7_change 37 = .ok (.invokevirtual 139, 3) := by decide +kernel
theorem dX7_change_40 : decode cX7_change 40 = .ok (.aload_n 0, 1) := by decide +kernel
theorem dX7_change_41 : decode cX7_change 41 = .ok (.getfield 32, 3) := by decide +kernel
theorem dX7_change_44 : decode cX7_change 44 = .ok (.iload_n 1, 1) := by decide +kernel
theorem dX7_change_45 : decode cX7_change 45 = .ok (.iaload, 1) := by decide +kernel
theorem dX7_change_46 : decode cX7_change 46 = .ok (.istore 4, 2) := by decide +kernel
theorem dX7_change_48 : decode cX7_change 48 = .ok (.aload_n 0, 1) := by decide +kernel
theorem dX7_change_49 : decode cX7_change 49 = .ok (.getfield 7, 3) := by decide +kernel
theorem dX7_change_52 : decode cX7_change 52 = .ok (.bipush 46, 2) := by decide +kernel
theorem dX7_change_54 : decode cX7_change 54 = .ok (.iload_n 1, 1) := by decide +kernel
theorem dX7_change_55 : decode cX7_change 55 = .ok (.iadd, 1) := by decide +kernel
theorem dX7_change_56 : decode cX7_change 56 = .ok (.iload_n 2, 1) := by decide +kernel
theorem dX7_change_57 : decode cX7_change 57 = .ok (.iastore, 1) := by decide +kernel
theorem dX7_change_58 : decode cX7_change 58 = .ok (.aload_n 0, 1) := by decide +kernel
theorem dX7_change_59 : decode cX7_change 59 = .ok (.getfield 7, 3) := by decide +kernel
theorem dX7_change_62 : decode cX7_change 62 = .ok (.bipush 86, 2) := by decide +kernel
theorem dX7_change_64 : decode cX7_change 64 = .ok (.iload_n 1, 1) := by decide +kernel
theorem dX7_change_65 : decode cX7_change 65 = .ok (.iadd, 1) := by decide +kernel
theorem dX7_change_66 : decode cX7_change 66 = .ok (.iload_n 3, 1) := by decide +kernel
theorem dX7_change_67 : decode cX7_change 67 = .ok (.iastore, 1) := by decide +kernel
theorem dX7_change_68 : decode cX7_change 68 = .ok (.aload_n 0, 1) := by decide +kernel
theorem dX7_change_69 : decode cX7_change 69 = .ok (.aload_n 0, 1) := by decide +kernel
theorem dX7_change_70 : decode cX7_change 70 = .ok (.getfield 7, 3) := by decide +kernel
theorem dX7_change_73 : decode cX7_change 73 = .ok (.invokevirtual 139, 3) := by decide +kernel
theorem dX7_change_76 : decode cX7_change 76 = .ok (.aload_n 0, 1) := by decide +kernel
theorem dX7_change_77 : decode cX7_change 77 = .ok (.getfield 32, 3) := by decide +kernel
theorem dX7_change_80 : decode cX7_change 80 = .ok (.iload_n 1, 1) := by decide +kernel
theorem dX7_change_81 : decode cX7_change 81 = .ok (.iaload, 1) := by decide +kernel
theorem dX7_change_82 : decode cX7_change 82 = .ok (.iload 4, 2) := by decide +kernel
theorem dX7_change_84 : decode cX7_change 84 = .ok (.if_icmp .ne 7, 3) := by decide +kernel
theorem dX7_change_87 : decode cX7_change 87 = .ok (.iconst 0, 1) := by decide +kernel
theorem dX7_change_88 : decode cX7_change 88 = .ok (.goto 4, 3) := by decide +kernel
theorem dX7_change_91 : decode cX7_change 91 = .ok (.iconst 1, 1) := by decide +kernel
theorem dX7_change_92 : decode cX7_change 92 = .ok (.ireturn, 1) := by decide +kernel
theorem dX7_isBound_0 : decode cX7_isBound 0 = .ok (.iload_n 0, 1) := by decide +kernel
theorem dX7_isBound_1 : decode cX7_isBound 1 = .ok (.bipush 99, 2) := by decide +kernel
theorem dX7_isBound_3 : decode cX7_isBound 3 = .ok (.if_icmp .eq 14, 3) := by decide +kernel
theorem dX7_isBound_6 : decode cX7_isBound 6 = .ok (.iload_n 0, 1) := by decide +kernel
theorem dX7_isBound_7 : decode cX7_isBound 7 = .ok (.bipush (-20), 2) := by decide +kernel
theorem dX7_isBound_9 : decode cX7_isBound 9 = .ok (.bipush 20, 2) := by decide +kernel
theorem dX7_isBound_11 : decode cX7_isBound 11 = .ok (.invokestatic 120, 3) := by decide +kernel
theorem dX7_isBound_14 : decode cX7_isBound 14 = .ok (.ifCond .eq 7, 3) := by decide +kernel
theorem dX7_isBound_17 : decode cX7_isBound 17 = .ok (.iconst 1, 1) := by decide +kernel
theorem dX7_isBound_18 : decode cX7_isBound 18 = .ok (.goto 4, 3) := by decide +kernel
theorem dX7_isBound_21 : decode cX7_isBound 21 = .ok (.iconst 0, 1) := by decide +kernel
theorem dX7_isBound_22 : decode cX7_isBound 22 = .ok (.ireturn, 1) := by decide +kernel
theorem dX7_frame_0 : decode cX7_frame 0 = .ok (.iload_n 1, 1) := by decide +kernel
theorem dX7_frame_1 : decode cX7_frame 1 = .ok (.iconst 0, 1) := by decide +kernel
theorem dX7_frame_2 : decode cX7_frame 2 = .ok (.iconst 2, 1) := by decide +kernel
theorem dX7_frame_3 : decode cX7_frame 3 = .ok (.invokestatic 120, 3) := by decide +kernel
theorem dX7_frame_6 : decode cX7_frame 6 = .ok (.ifCond .eq 27, 3) := by decide +kernel
theorem dX7_frame_9 : decode cX7_frame 9 = .ok (.iload_n 2, 1) := by decide +kernel
theorem dX7_frame_10 : decode cX7_frame 10 = .ok (.invokestatic 184, 3) := by decide +kernel
theorem dX7_frame_13 : decode cX7_frame 13 = .ok (.ifCond .eq 20, 3) := by decide +kernel
theorem dX7_frame_16 : decode cX7_frame 16 = .ok (.iload_n 3, 1) := by decide +kernel
theorem dX7_frame_17 : decode cX7_frame 17 = .ok (.invokestatic 184, 3) := by decide +kernel
theorem dX7_frame_20 : decode cX7_frame 20 = .ok (.ifCond .eq 13, 3) := by decide +kernel
theorem dX7_frame_23 : decode cX7_frame 23 = .ok (.iload 4, 2) := by decide +kernel
theorem dX7_frame_25 : decode cX7_frame 25 = .ok (.iconst 0, 1) := by decide +kernel
theorem dX7_frame_26 : decode cX7_frame 26 = .ok (.iconst 3, 1) := by decide +kernel
theorem dX7_frame_27 : decode cX7_frame 27 = .ok (.invokestatic 120, 3) := by decide +kernel
theorem dX7_frame_30 : decode cX7_frame 30 = .ok (.ifCond .ne 6, 3) := by decide +kernel
theorem dX7_frame_33 : decode cX7_frame 33 = .ok (.ldc 157, 2) := by decide +kernel
theorem dX7_frame_35 : decode cX7_frame 35 = .ok (.ireturn, 1) := by decide +kernel
theorem dX7_frame_36 : decode cX7_frame 36 = .ok (.aload_n 0, 1) := by decide +kernel
theorem dX7_frame_37 : decode cX7_frame 37 = .ok (.invokevirtual 170, 3) := by decide +kernel
theorem dX7_frame_40 : decode cX7_frame 40 = .ok (.aload_n 0, 1) := by decide +kernel
theorem dX7_frame_41 : decode cX7_frame 41 = .ok (.getfield 7, 3) := by decide +kernel
theorem dX7_frame_44 : decode cX7_frame 44 = .ok (.iconst 1, 1) := by decide +kernel
theorem dX7_frame_45 : decode cX7_frame 45 = .ok (.iload_n 1, 1) := by decide +kernel
theorem dX7_frame_46 : decode cX7_frame 46 = .ok (.iastore, 1) := by decide +kernel
theorem dX7_frame_47 : decode cX7_frame 47 = .ok (.aload_n 0, 1) := by decide +kernel
theorem dX7_frame_48 : decode cX7_frame 48 = .ok (.getfield 7, 3) := by decide +kernel
theorem dX7_frame_51 : decode cX7_frame 51 = .ok (.iconst 2, 1) := by decide +kernel
theorem dX7_frame_52 : decode cX7_frame 52 = .ok (.iload_n 2, 1) := by decide +kernel
theorem dX7_frame_53 : decode cX7_frame 53 = .ok (.iastore, 1) := by decide +kernel
theorem dX7_frame_54 : decode cX7_frame 54 = .ok (.aload_n 0, 1) := by decide +kernel
theorem dX7_frame_55 : decode cX7_frame 55 = .ok (.getfield 7, 3) := by decide +kernel
theorem dX7_frame_58 : decode cX7_frame 58 = .ok (.iconst 3, 1) := by decide +kernel
theorem dX7_frame_59 : decode cX7_frame 59 = .ok (.iload_n 3, 1) := by decide +kernel
theorem dX7_frame_60 : decode cX7_frame 60 = .ok (.iastore, 1) := by decide +kernel
theorem dX7_frame_61 : decode cX7_frame 61 = .ok (.aload_n 0, 1) := by decide +kernel
theorem dX7_frame_62 : decode cX7_frame 62 = .ok (.getfield 7, 3) := by decide +kernel
theorem dX7_frame_65 : decode cX7_frame 65 = .ok (.iconst 4, 1) := by decide +kernel
theorem dX7_frame_66 : decode cX7_frame 66 = .ok (.iload 4, 2) := by decide +kernel
theorem dX7_frame_68 : decode cX7_frame 68 = .ok (.iastore, 1) := by decide +kernel
theorem dX7_frame_69 : decode cX7_frame 69 = .ok (.aload_n 0, 1) := by decide +kernel
theorem dX7_frame_70 : decode cX7_frame 70 = .ok (.aload_n 0, 1) := by decide +kernel
theorem dX7_frame_71 : decode cX7_frame 71 = .ok (.getfield 7, 3) := by decide +kernel
theorem dX7_frame_74 : decode cX7_frame 74 = .ok (.invokevirtual 139, 3) := by decide +kernel
theorem dX7_frame_77 : decode cX7_frame 77 = .ok (.iconst 0, 1) := by decide +kernel
theorem dX7_frame_78 : decode cX7_frame 78 = .ok (.istore 5, 2) := by decide +kernel
theorem dX7_frame_80 : decode cX7_frame 80 = .ok (.iconst 0, 1) := by decide +kernel
theorem dX7_frame_81 : decode cX7_frame 81 = .ok (.istore 6, 2) := by decide +kernel
theorem dX7_frame_83 : decode cX7_frame 83 = .ok (.iload 6, 2) := by decide +kernel
theorem dX7_frame_85 : decode cX7_frame 85 = .ok (.aload_n 0, 1) := by decide +kernel
theorem dX7_frame_86 : decode cX7_frame 86 = .ok (.getfield 7, 3) := by decide +kernel
theorem dX7_frame_89 : decode cX7_frame 89 = .ok (.iconst 0, 1) := by decide +kernel
theorem dX7_frame_90 : decode cX7_frame 90 = .ok (.iaload, 1) := by decide +kernel
theorem dX7_frame_91 : decode cX7_frame 91 = .ok (.if_icmp .ge 28, 3) := by decide +kernel
theorem dX7_frame_94 : decode cX7_frame 94 = .ok (.aload_n 0, 1) := by decide +kernel
theorem dX7_frame_95 : decode cX7_frame 95 = .ok (.aload_n 0, 1) := by decide +kernel
theorem dX7_frame_96 : decode cX7_frame 96 = .ok (.getfield 7, 3) := by decide +kernel
theorem dX7_frame_99 : decode cX7_frame 99 = .ok (.iload 6, 2) := by decide +kernel
theorem dX7_frame_101 : decode cX7_frame 101 = .ok (.invokevirtual 106, 3) := by decide +kernel
theorem dX7_frame_104 : decode cX7_frame 104 = .ok (.iload 5, 2) := by decide +kernel
theorem dX7_frame_106 : decode cX7_frame 106 = .ok (.aload_n 0, 1) := by decide +kernel
theorem dX7_frame_107 : decode cX7_frame 107 = .ok (.getfield 100, 3) := by decide +kernel
theorem dX7_frame_110 : decode cX7_frame 110 = .ok (.iadd, 1) := by decide +kernel
theorem dX7_frame_111 : decode cX7_frame 111 = .ok (.istore 5, 2) := by decide +kernel
theorem dX7_frame_113 : decode cX7_frame 113 = .ok (.iinc 6 1, 3) := by decide +kernel
theorem dX7_frame_116 : decode cX7_frame 116 = .ok (.goto (-33), 3) := by decide +kernel
theorem dX7_frame_119 : decode cX7_frame 119 = .ok (.iload 5, 2) := by decide +kernel
theorem dX7_frame_121 : decode cX7_frame 121 = .ok (.ireturn, 1) := by decide +kernel
theorem dX7_ahead_0 : decode cX7_ahead 0 = .ok (.aload_n 0, 1) := by decide +kernel
theorem dX7_ahead_1 : decode cX7_ahead 1 = .ok (.invokevirtual 170, 3) := by decide +kernel
theorem dX7_ahead_4 : decode cX7_ahead 4 = .ok (.aload_n 0, 1) := by decide +kernel
theorem dX7_ahead_5 : decode cX7_ahead 5 = .ok (.aload_n 0, 1) := by decide +kernel
theorem dX7_ahead_6 : decode cX7_ahead 6 = .ok (.getfield 7, 3) := by decide +kernel
theorem dX7_ahead_9 : decode cX7_ahead 9 = .ok (.invokevirtual 139, 3) := by decide +kernel
theorem dX7_ahead_12 : decode cX7_ahead 12 = .ok (.iconst 0, 1) := by decide +kernel
theorem dX7_ahead_13 : decode cX7_ahead 13 = .ok (.istore_n 2, 1) := by decide +kernel
theorem dX7_ahead_14 : decode cX7_ahead 14 = .ok (.iload_n 2, 1) := by decide +kernel
theorem dX7_ahead_15 : decode cX7_ahead 15 = .ok (.aload_n 0, 1) := by decide +kernel
theorem dX7_ahead_16 : decode cX7_ahead 16 = .ok (.getfield 7, 3) := by decide +kernel
theorem dX7_ahead_19 : decode cX7_ahead 19 = .ok (.iconst 0, 1) := by decide +kernel
theorem dX7_ahead_20 : decode cX7_ahead 20 = .ok (.iaload, 1) := by decide +kernel
theorem dX7_ahead_21 : decode cX7_ahead 21 = .ok (.if_icmp .ge 21, 3) := by decide +kernel
theorem dX7_ahead_24 : decode cX7_ahead 24 = .ok (.aload_n 0, 1) := by decide +kernel
theorem dX7_ahead_25 : decode cX7_ahead 25 = .ok (.getfield 63, 3) := by decide +kernel
theorem dX7_ahead_28 : decode cX7_ahead 28 = .ok (.iload_n 2, 1) := by decide +kernel
theorem dX7_ahead_29 : decode cX7_ahead 29 = .ok (.aload_n 0, 1) := by decide +kernel
theorem dX7_ahead_30 : decode cX7_ahead 30 = .ok (.getfield 32, 3) := by decide +kernel
theorem dX7_ahead_33 : decode cX7_ahead 33 = .ok (.iload_n 2, 1) := by decide +kernel
theorem dX7_ahead_34 : decode cX7_ahead 34 = .ok (.iaload, 1) := by decide +kernel
theorem dX7_ahead_35 : decode cX7_ahead 35 = .ok (.iastore, 1) := by decide +kernel
theorem dX7_ahead_36 : decode cX7_ahead 36 = .ok (.iinc 2 1, 3) := by decide +kernel
theorem dX7_ahead_39 : decode cX7_ahead 39 = .ok (.goto (-25), 3) := by decide +kernel
theorem dX7_ahead_42 : decode cX7_ahead 42 = .ok (.aload_n 0, 1) := by decide +kernel
theorem dX7_ahead_43 : decode cX7_ahead 43 = .ok (.getfield 7, 3) := by decide +kernel
theorem dX7_ahead_46 : decode cX7_ahead 46 = .ok (.iconst 5, 1) := by decide +kernel
theorem dX7_ahead_47 : decode cX7_ahead 47 = .ok (.iload_n 1, 1) := by decide +kernel
theorem dX7_ahead_48 : decode cX7_ahead 48 = .ok (.ifCond .eq 7, 3) := by decide +kernel
theorem dX7_ahead_51 : decode cX7_ahead 51 = .ok (.iconst 1, 1) := by decide +kernel
theorem dX7_ahead_52 : decode cX7_ahead 52 = .ok (.goto 4, 3) := by decide +kernel
theorem dX7_ahead_55 : decode cX7_ahead 55 = .ok (.iconst 0, 1) := by decide +kernel
theorem dX7_ahead_56 : decode cX7_ahead 56 = .ok (.iastore, 1) := by decide +kernel
theorem dX7_ahead_57 : decode cX7_ahead 57 = .ok (.aload_n 0, 1) := by decide +kernel
theorem dX7_ahead_58 : decode cX7_ahead 58 = .ok (.aload_n 0, 1) := by decide +kernel
theorem dX7_ahead_59 : decode cX7_ahead 59 = .ok (.getfield 7, 3) := by decide +kernel
theorem dX7_ahead_62 : decode cX7_ahead 62 = .ok (.invokevirtual 139, 3) := by decide +kernel
theorem dX7_ahead_65 : decode cX7_ahead 65 = .ok (.iconst 0, 1) := by decide +kernel
theorem dX7_ahead_66 : decode cX7_ahead 66 = .ok (.istore_n 2, 1) := by decide +kernel
theorem dX7_ahead_67 : decode cX7_ahead 67 = .ok (.iconst 0, 1) := by decide +kernel
theorem dX7_ahead_68 : decode cX7_ahead 68 = .ok (.istore_n 3, 1) := by decide +kernel
theorem dX7_ahead_69 : decode cX7_ahead 69 = .ok (.iload_n 3, 1) := by decide +kernel
theorem dX7_ahead_70 : decode cX7_ahead 70 = .ok (.aload_n 0, 1) := by decide +kernel
theorem dX7_ahead_71 : decode cX7_ahead 71 = .ok (.getfield 7, 3) := by decide +kernel
theorem dX7_ahead_74 : decode cX7_ahead 74 = .ok (.iconst 0, 1) := by decide +kernel
theorem dX7_ahead_75 : decode cX7_ahead 75 = .ok (.iaload, 1) := by decide +kernel
theorem dX7_ahead_76 : decode cX7_ahead 76 = .ok (.if_icmp .ge 32, 3) := by decide +kernel
theorem dX7_ahead_79 : decode cX7_ahead 79 = .ok (.iload_n 2, 1) := by decide +kernel
theorem dX7_ahead_80 : decode cX7_ahead 80 = .ok (.aload_n 0, 1) := by decide +kernel
theorem dX7_ahead_81 : decode cX7_ahead 81 = .ok (.getfield 63, 3) := by decide +kernel
theorem dX7_ahead_84 : decode cX7_ahead 84 = .ok (.iload_n 3, 1) := by decide +kernel
theorem dX7_ahead_85 : decode cX7_ahead 85 = .ok (.iaload, 1) := by decide +kernel
theorem dX7_ahead_86 : decode cX7_ahead 86 = .ok (.aload_n 0, 1) := by decide +kernel
theorem dX7_ahead_87 : decode cX7_ahead 87 = .ok (.getfield 32, 3) := by decide +kernel
theorem dX7_ahead_90 : decode cX7_ahead 90 = .ok (.iload_n 3, 1) := by decide +kernel
theorem dX7_ahead_91 : decode cX7_ahead 91 = .ok (.iaload, 1) := by decide +kernel
theorem dX7_ahead_92 : decode cX7_ahead 92 = .ok (.if_icmp .ne 7, 3) := by decide +kernel
theorem dX7_ahead_95 : decode cX7_ahead 95 = .ok (.iconst 0, 1) := by decide +kernel
theorem dX7_ahead_96 : decode cX7_ahead 96 = .ok (.goto 4, 3) := by decide +kernel
theorem dX7_ahead_99 : decode cX7_ahead 99 = .ok (.iconst 1, 1) := by decide +kernel
theorem dX7_ahead_100 : decode cX7_ahead 100 = .ok (.iadd, 1) := by decide +kernel
theorem dX7_ahead_101 : decode cX7_ahead 101 = .ok (.istore_n 2, 1) := by decide +kernel
theorem dX7_ahead_102 : decode cX7_ahead 102 = .ok (.iinc 3 1, 3) := by decide +kernel
theorem dX7_ahead_105 : decode cX7_ahead 105 = .ok (.goto (-36), 3) := by decide +kernel
theorem dX7_ahead_108 : decode cX7_ahead 108 = .ok (.iload_n 2, 1) := by decide +kernel
theorem dX7_ahead_109 : decode cX7_ahead 109 = .ok (.ireturn, 1) := by decide +kernel
theorem dX7_draw_0 : decode cX7_draw 0 = .ok (.aload_n 0, 1) := by decide +kernel
theorem dX7_draw_1 : decode cX7_draw 1 = .ok (.aload_n 0, 1) := by decide +kernel
theorem dX7_draw_2 : decode cX7_draw 2 = .ok (.getfield 187, 3) := by decide +kernel
theorem dX7_draw_5 : decode cX7_draw 5 = .ok (.i2l, 1) := by decide +kernel
theorem dX7_draw_6 : decode cX7_draw 6 = .ok (.ldc2_w 190, 3) := by decide +kernel
theorem dX7_draw_9 : decode cX7_draw 9 = .ok (.lmul, 1) := by decide +kernel
theorem dX7_draw_10 : decode cX7_draw 10 = .ok (.ldc2_w 192, 3) := by decide +kernel
theorem dX7_draw_13 : decode cX7_draw 13 = .ok (.ladd, 1) := by decide +kernel
theorem dX7_draw_14 : decode cX7_draw 14 = .ok (.ldc2_w 194, 3) := by decide +kernel
theorem dX7_draw_17 : decode cX7_draw 17 = .ok (.lrem, 1) := by decide +kernel
theorem dX7_draw_18 : decode cX7_draw 18 = .ok (.l2i, 1) := by decide +kernel
theorem dX7_draw_19 : decode cX7_draw 19 = .ok (.putfield 187, 3) := by decide +kernel
theorem dX7_draw_22 : decode cX7_draw 22 = .ok (.aload_n 0, 1) := by decide +kernel
theorem dX7_draw_23 : decode cX7_draw 23 = .ok (.getfield 187, 3) := by decide +kernel
theorem dX7_draw_26 : decode cX7_draw 26 = .ok (.ldc 196, 2) := by decide +kernel
theorem dX7_draw_28 : decode cX7_draw 28 = .ok (.idiv, 1) := by decide +kernel
theorem dX7_draw_29 : decode cX7_draw 29 = .ok (.iload_n 1, 1) := by decide +kernel
theorem dX7_draw_30 : decode cX7_draw 30 = .ok (.irem, 1) := by decide +kernel
theorem dX7_draw_31 : decode cX7_draw 31 = .ok (.ireturn, 1) := by decide +kernel
theorem dX7_drift_0 : decode cX7_drift 0 = .ok (.iload_n 1, 1) := by decide +kernel
theorem dX7_drift_1 : decode cX7_drift 1 = .ok (.iconst 1, 1) := by decide +kernel
theorem dX7_drift_2 : decode cX7_drift 2 = .ok (.bipush 20, 2) := by decide +kernel
theorem dX7_drift_4 : decode cX7_drift 4 = .ok (.invokestatic 120, 3) := by decide +kernel
theorem dX7_drift_7 : decode cX7_drift 7 = .ok (.ifCond .ne 6, 3) := by decide +kernel
theorem dX7_drift_10 : decode cX7_drift 10 = .ok (.ldc 157, 2) := by decide +kernel
theorem dX7_drift_12 : decode cX7_drift 12 = .ok (.ireturn, 1) := by decide +kernel
theorem dX7_drift_13 : decode cX7_drift 13 = .ok (.iconst 0, 1) := by decide +kernel
theorem dX7_drift_14 : decode cX7_drift 14 = .ok (.istore_n 2, 1) := by decide +kernel
theorem dX7_drift_15 : decode cX7_drift 15 = .ok (.iload_n 2, 1) := by decide +kernel
theorem dX7_drift_16 : decode cX7_drift 16 = .ok (.iload_n 1, 1) := by decide +kernel
theorem dX7_drift_17 : decode cX7_drift 17 = .ok (.if_icmp .ge 78, 3) := by decide +kernel
theorem dX7_drift_20 : decode cX7_drift 20 = .ok (.aload_n 0, 1) := by decide +kernel
theorem dX7_drift_21 : decode cX7_drift 21 = .ok (.getfield 7, 3) := by decide +kernel
theorem dX7_drift_24 : decode cX7_drift 24 = .ok (.iconst 0, 1) := by decide +kernel
theorem dX7_drift_25 : decode cX7_drift 25 = .ok (.iaload, 1) := by decide +kernel
theorem dX7_drift_26 : decode cX7_drift 26 = .ok (.bipush 40, 2) := by decide +kernel
theorem dX7_drift_28 : decode cX7_drift 28 = .ok (.if_icmp .ge 67, 3) := by decide +kernel
theorem dX7_drift_31 : decode cX7_drift 31 = .ok (.aload_n 0, 1) := by decide +kernel
theorem dX7_drift_32 : decode cX7_drift 32 = .ok (.iconst 3, 1) := by decide +kernel
theorem dX7_drift_33 : decode cX7_drift 33 = .ok (.invokevirtual 197, 3) := by decide +kernel
theorem dX7_drift_36 : decode cX7_drift 36 = .ok (.istore_n 3, 1) := by decide +kernel
theorem dX7_drift_37 : decode cX7_drift 37 = .ok (.aload_n 0, 1) := by decide +kernel
theorem dX7_drift_38 : decode cX7_drift 38 = .ok (.bipush 12, 2) := by decide +kernel
theorem dX7_drift_40 : decode cX7_drift 40 = .ok (.invokevirtual 197, 3) := by decide +kernel
theorem dX7_drift_43 : decode cX7_drift 43 = .ok (.istore 4, 2) := by decide +kernel
theorem dX7_drift_45 : decode cX7_drift 45 = .ok (.aload_n 0, 1) := by decide +kernel
theorem dX7_drift_46 : decode cX7_drift 46 = .ok (.bipush 21, 2) := by decide +kernel
theorem dX7_drift_48 : decode cX7_drift 48 = .ok (.invokevirtual 197, 3) := by decide +kernel
theorem dX7_drift_51 : decode cX7_drift 51 = .ok (.istore 5, 2) := by decide +kernel
theorem dX7_drift_53 : decode cX7_drift 53 = .ok (.aload_n 0, 1) := by decide +kernel
theorem dX7_drift_54 : decode cX7_drift 54 = .ok (.iload_n 3, 1) := by decide +kernel
theorem dX7_drift_55 : decode cX7_drift 55 = .ok (.iload 4, 2) := by decide +kernel
theorem dX7_drift_57 : decode cX7_drift 57 = .ok (.bipush 11, 2) := by decide +kernel
theorem dX7_drift_59 : decode cX7_drift 59 = .ok (.if_icmp .ne 8, 3) := by decide +kernel
theorem dX7_drift_62 : decode cX7_drift 62 = .ok (.ldc 66, 2) := by decide +kernel
theorem dX7_drift_64 : decode cX7_drift 64 = .ok (.goto 5, 3) := by decide +kernel
theorem dX7_drift_67 : decode cX7_drift 67 = .ok (.iload 4, 2) := by decide +kernel
theorem dX7_drift_69 : decode cX7_drift 69 = .ok (.iload 5, 2) := by decide +kernel
theorem dX7_drift_71 : decode cX7_drift 71 = .ok (.bipush 20, 2) := by decide +kernel
theorem dX7_drift_73 : decode cX7_drift 73 = .ok (.if_icmp .ne 8, 3) := by decide +kernel
theorem dX7_drift_76 : decode cX7_drift 76 = .ok (.ldc 66, 2) := by decide +kernel
theorem dX7_drift_78 : decode cX7_drift 78 = .ok (.goto 8, 3) := by decide +kernel
theorem dX7_drift_81 : decode cX7_drift 81 = .ok (.iload 5, 2) := by decide +kernel
theorem dX7_drift_83 : decode cX7_drift 83 = .ok (.bipush 10, 2) := by decide +kernel
theorem dX7_drift_85 : decode cX7_drift 85 = .ok (.isub, 1) := by decide +kernel
theorem dX7_drift_86 : decode cX7_drift 86 = .ok (.invokevirtual 180, 3) := by decide +kernel
theorem dX7_drift_89 : decode cX7_drift 89 = .ok (.iinc 2 1, 3) := by decide +kernel
theorem dX7_drift_92 : decode cX7_drift 92 = .ok (.goto (-77), 3) := by decide +kernel
theorem dX7_drift_95 : decode cX7_drift 95 = .ok (.aload_n 0, 1) := by decide +kernel
theorem dX7_drift_96 : decode cX7_drift 96 = .ok (.getfield 7, 3) := by decide +kernel
theorem dX7_drift_99 : decode cX7_drift 99 = .ok (.iconst 0, 1) := by decide +kernel
theorem dX7_drift_100 : decode cX7_drift 100 = .ok (.iaload, 1) := by decide +kernel
theorem dX7_drift_101 : decode cX7_drift 101 = .ok (.ireturn, 1) := by decide +kernel
theorem dX7_undo_0 : decode cX7_undo 0 = .ok (.iload_n 1, 1) := by decide +kernel
theorem dX7_undo_1 : decode cX7_undo 1 = .ok (.iconst 1, 1) := by decide +kernel
theorem dX7_undo_2 : decode cX7_undo 2 = .ok (.bipush 20, 2) := by decide +kernel
theorem dX7_undo_4 : decode cX7_undo 4 = .ok (.invokestatic 120, 3) := by decide +kernel
theorem dX7_undo_7 : decode cX7_undo 7 = .ok (.ifCond .ne 6, 3) := by decide +kernel
theorem dX7_undo_10 : decode cX7_undo 10 = .ok (.ldc 157, 2) := by decide +kernel
theorem dX7_undo_12 : decode cX7_undo 12 = .ok (.ireturn, 1) := by decide +kernel
theorem dX7_undo_13 : decode cX7_undo 13 = .ok (.iload_n 1, 1) := by decide +kernel
theorem dX7_undo_14 : decode cX7_undo 14 = .ok (.aload_n 0, 1) := by decide +kernel
theorem dX7_undo_15 : decode cX7_undo 15 = .ok (.getfield 154, 3) := by decide +kernel
theorem dX7_undo_18 : decode cX7_undo 18 = .ok (.if_icmp .le 6, 3) := by decide +kernel
theorem dX7_undo_21 : decode cX7_undo 21 = .ok (.ldc 200, 2) := by decide +kernel
theorem dX7_undo_23 : decode cX7_undo 23 = .ok (.ireturn, 1) := by decide +kernel
theorem dX7_undo_24 : decode cX7_undo 24 = .ok (.aload_n 0, 1) := by decide +kernel
theorem dX7_undo_25 : decode cX7_undo 25 = .ok (.dup, 1) := by decide +kernel
theorem dX7_undo_26 : decode cX7_undo 26 = .ok (.getfield 154, 3) := by decide +kernel
theorem dX7_undo_29 : decode cX7_undo 29 = .ok (.iload_n 1, 1) := by decide +kernel
theorem dX7_undo_30 : decode cX7_undo 30 = .ok (.isub, 1) := by decide +kernel
theorem dX7_undo_31 : decode cX7_undo 31 = .ok (.putfield 154, 3) := by decide +kernel
theorem dX7_undo_34 : decode cX7_undo 34 = .ok (.aload_n 0, 1) := by decide +kernel
theorem dX7_undo_35 : decode cX7_undo 35 = .ok (.getfield 16, 3) := by decide +kernel
theorem dX7_undo_38 : decode cX7_undo 38 = .ok (.bipush 126, 2) := by decide +kernel
theorem dX7_undo_40 : decode cX7_undo 40 = .ok (.aload_n 0, 1) := by decide +kernel
theorem dX7_undo_41 : decode cX7_undo 41 = .ok (.getfield 154, 3) := by decide +kernel
theorem dX7_undo_44 : decode cX7_undo 44 = .ok (.imul, 1) := by decide +kernel
theorem dX7_undo_45 : decode cX7_undo 45 = .ok (.aload_n 0, 1) := by decide +kernel
theorem dX7_undo_46 : decode cX7_undo 46 = .ok (.getfield 7, 3) := by decide +kernel
theorem dX7_undo_49 : decode cX7_undo 49 = .ok (.iconst 0, 1) := by decide +kernel
theorem dX7_undo_50 : decode cX7_undo 50 = .ok (.invokestatic 158, 3) := by decide +kernel
theorem dX7_undo_53 : decode cX7_undo 53 = .ok (.aload_n 0, 1) := by decide +kernel
theorem dX7_undo_54 : decode cX7_undo 54 = .ok (.getfield 7, 3) := by decide +kernel
theorem dX7_undo_57 : decode cX7_undo 57 = .ok (.iconst 0, 1) := by decide +kernel
theorem dX7_undo_58 : decode cX7_undo 58 = .ok (.iaload, 1) := by decide +kernel
theorem dX7_undo_59 : decode cX7_undo 59 = .ok (.ireturn, 1) := by decide +kernel
theorem dX7_of_0 : decode cX7_of 0 = .ok (.aload_n 0, 1) := by decide +kernel
theorem dX7_of_1 : decode cX7_of 1 = .ok (.iload_n 1, 1) := by decide +kernel
theorem dX7_of_2 : decode cX7_of 2 = .ok (.invokevirtual 131, 3) := by decide +kernel
theorem dX7_of_5 : decode cX7_of 5 = .ok (.ifCond .ne 6, 3) := by decide +kernel
theorem dX7_of_8 : decode cX7_of 8 = .ok (.ldc 165, 2) := by decide +kernel
theorem dX7_of_10 : decode cX7_of 10 = .ok (.ireturn, 1) := by decide +kernel
theorem dX7_of_11 : decode cX7_of 11 = .ok (.iload_n 2, 1) := by decide +kernel
theorem dX7_of_12 : decode cX7_of 12 = .ok (.iconst 0, 1) := by decide +kernel
theorem dX7_of_13 : decode cX7_of 13 = .ok (.bipush 8, 2) := by decide +kernel
theorem dX7_of_15 : decode cX7_of 15 = .ok (.invokestatic 120, 3) := by decide +kernel
theorem dX7_of_18 : decode cX7_of 18 = .ok (.ifCond .ne 6, 3) := by decide +kernel
theorem dX7_of_21 : decode cX7_of 21 = .ok (.ldc 157, 2) := by decide +kernel
theorem dX7_of_23 : decode cX7_of 23 = .ok (.ireturn, 1) := by decide +kernel
theorem dX7_of_24 : decode cX7_of 24 = .ok (.aload_n 0, 1) := by decide +kernel
theorem dX7_of_25 : decode cX7_of 25 = .ok (.aload_n 0, 1) := by decide +kernel
theorem dX7_of_26 : decode cX7_of 26 = .ok (.getfield 7, 3) := by decide +kernel
theorem dX7_of_29 : decode cX7_of 29 = .ok (.invokevirtual 139, 3) := by decide +kernel
theorem dX7_of_32 : decode cX7_of 32 = .ok (.aload_n 0, 1) := by decide +kernel
theorem dX7_of_33 : decode cX7_of 33 = .ok (.aload_n 0, 1) := by decide +kernel
theorem dX7_of_34 : decode cX7_of 34 = .ok (.getfield 7, 3) := by decide +kernel
theorem dX7_of_37 : decode cX7_of 37 = .ok (.iload_n 1, 1) := by decide +kernel
theorem dX7_of_38 : decode cX7_of 38 = .ok (.iload_n 2, 1) := by decide +kernel
theorem dX7_of_39 : decode cX7_of 39 = .ok (.invokevirtual 135, 3) := by decide +kernel
theorem dX7_of_42 : decode cX7_of 42 = .ok (.ireturn, 1) := by decide +kernel
theorem dX7_rows_0 : decode cX7_rows 0 = .ok (.aload_n 0, 1) := by decide +kernel
theorem dX7_rows_1 : decode cX7_rows 1 = .ok (.iload_n 1, 1) := by decide +kernel
theorem dX7_rows_2 : decode cX7_rows 2 = .ok (.invokevirtual 131, 3) := by decide +kernel
theorem dX7_rows_5 : decode cX7_rows 5 = .ok (.ifCond .ne 5, 3) := by decide +kernel
theorem dX7_rows_8 : decode cX7_rows 8 = .ok (.lconst 0, 1) := by decide +kernel
theorem dX7_rows_9 : decode cX7_rows 9 = .ok (.lreturn, 1) := by decide +kernel
theorem dX7_rows_10 : decode cX7_rows 10 = .ok (.aload_n 0, 1) := by decide +kernel
theorem dX7_rows_11 : decode cX7_rows 11 = .ok (.aload_n 0, 1) := by decide +kernel
theorem dX7_rows_12 : decode cX7_rows 12 = .ok (.getfield 7, 3) := by decide +kernel
theorem dX7_rows_15 : decode cX7_rows 15 = .ok (.invokevirtual 139, 3) := by decide +kernel
theorem dX7_rows_18 : decode cX7_rows 18 = .ok (.aload_n 0, 1) := by decide +kernel
theorem dX7_rows_19 : decode cX7_rows 19 = .ok (.iload_n 1, 1) := by decide +kernel
theorem dX7_rows_20 : decode cX7_rows 20 = .ok (.invokevirtual 124, 3) := by decide +kernel
theorem dX7_rows_23 : decode cX7_rows 23 = .ok (.lreturn, 1) := by decide +kernel
theorem dX7_inFrame_0 : decode cX7_inFrame 0 = .ok (.aload_n 0, 1) := by decide +kernel
theorem dX7_inFrame_1 : decode cX7_inFrame 1 = .ok (.iload_n 1, 1) := by decide +kernel
theorem dX7_inFrame_2 : decode cX7_inFrame 2 = .ok (.invokevirtual 131, 3) := by decide +kernel
theorem dX7_inFrame_5 : decode cX7_inFrame 5 = .ok (.ifCond .ne 6, 3) := by decide +kernel
theorem dX7_inFrame_8 : decode cX7_inFrame 8 = .ok (.ldc 165, 2) := by decide +kernel
theorem dX7_inFrame_10 : decode cX7_inFrame 10 = .ok (.ireturn, 1) := by decide +kernel
theorem dX7_inFrame_11 : decode cX7_inFrame 11 = .ok (.aload_n 0, 1) := by decide +kernel
theorem dX7_inFrame_12 : decode cX7_inFrame 12 = .ok (.aload_n 0, 1) := by decide +kernel
theorem dX7_inFrame_13 : decode cX7_inFrame 13 = .ok (.getfield 7, 3) := by decide +kernel
theorem dX7_inFrame_16 : decode cX7_inFrame 16 = .ok (.invokevirtual 139, 3) := by decide +kernel
theorem dX7_inFrame_19 : decode cX7_inFrame 19 = .ok (.aload_n 0, 1) := by decide +kernel
theorem dX7_inFrame_20 : decode cX7_inFrame 20 = .ok (.aload_n 0, 1) := by decide +kernel
theorem dX7_inFrame_21 : decode cX7_inFrame 21 = .ok (.getfield 7, 3) := by decide +kernel
theorem dX7_inFrame_24 : decode cX7_inFrame 24 = .ok (.iload_n 1, 1) := by decide +kernel
theorem dX7_inFrame_25 : decode cX7_inFrame 25 = .ok (.invokevirtual 106, 3) := by decide +kernel
theorem dX7_inFrame_28 : decode cX7_inFrame 28 = .ok (.iload_n 2, 1) := by decide +kernel
theorem dX7_inFrame_29 : decode cX7_inFrame 29 = .ok (.iconst 0, 1) := by decide +kernel
theorem dX7_inFrame_30 : decode cX7_inFrame 30 = .ok (.aload_n 0, 1) := by decide +kernel
theorem dX7_inFrame_31 : decode cX7_inFrame 31 = .ok (.getfield 100, 3) := by decide +kernel
theorem dX7_inFrame_34 : decode cX7_inFrame 34 = .ok (.iconst 1, 1) := by decide +kernel
theorem dX7_inFrame_35 : decode cX7_inFrame 35 = .ok (.isub, 1) := by decide +kernel
theorem dX7_inFrame_36 : decode cX7_inFrame 36 = .ok (.invokestatic 120, 3) := by decide +kernel
theorem dX7_inFrame_39 : decode cX7_inFrame 39 = .ok (.ifCond .eq 12, 3) := by decide +kernel
theorem dX7_inFrame_42 : decode cX7_inFrame 42 = .ok (.aload_n 0, 1) := by decide +kernel
theorem dX7_inFrame_43 : decode cX7_inFrame 43 = .ok (.getfield 50, 3) := by decide +kernel
theorem dX7_inFrame_46 : decode cX7_inFrame 46 = .ok (.iload_n 2, 1) := by decide +kernel
theorem dX7_inFrame_47 : decode cX7_inFrame 47 = .ok (.iaload, 1) := by decide +kernel
theorem dX7_inFrame_48 : decode cX7_inFrame 48 = .ok (.goto 4, 3) := by decide +kernel
theorem dX7_inFrame_51 : decode cX7_inFrame 51 = .ok (.iconst (-1), 1) := by decide +kernel
theorem dX7_inFrame_52 : decode cX7_inFrame 52 = .ok (.ireturn, 1) := by decide +kernel
theorem dX7_heap_0 : decode cX7_heap 0 = .ok (.aload_n 0, 1) := by decide +kernel
theorem dX7_heap_1 : decode cX7_heap 1 = .ok (.iload_n 1, 1) := by decide +kernel
theorem dX7_heap_2 : decode cX7_heap 2 = .ok (.invokevirtual 131, 3) := by decide +kernel
theorem dX7_heap_5 : decode cX7_heap 5 = .ok (.ifCond .ne 6, 3) := by decide +kernel
theorem dX7_heap_8 : decode cX7_heap 8 = .ok (.ldc 165, 2) := by decide +kernel
theorem dX7_heap_10 : decode cX7_heap 10 = .ok (.ireturn, 1) := by decide +kernel
theorem dX7_heap_11 : decode cX7_heap 11 = .ok (.iload_n 2, 1) := by decide +kernel
theorem dX7_heap_12 : decode cX7_heap 12 = .ok (.iconst 1, 1) := by decide +kernel
theorem dX7_heap_13 : decode cX7_heap 13 = .ok (.bipush 20, 2) := by decide +kernel
theorem dX7_heap_15 : decode cX7_heap 15 = .ok (.invokestatic 120, 3) := by decide +kernel
theorem dX7_heap_18 : decode cX7_heap 18 = .ok (.ifCond .ne 6, 3) := by decide +kernel
theorem dX7_heap_21 : decode cX7_heap 21 = .ok (.ldc 157, 2) := by decide +kernel
theorem dX7_heap_23 : decode cX7_heap 23 = .ok (.ireturn, 1) := by decide +kernel
theorem dX7_heap_24 : decode cX7_heap 24 = .ok (.aload_n 0, 1) := by decide +kernel
theorem dX7_heap_25 : decode cX7_heap 25 = .ok (.aload_n 0, 1) := by decide +kernel
theorem dX7_heap_26 : decode cX7_heap 26 = .ok (.getfield 7, 3) := by decide +kernel
theorem dX7_heap_29 : decode cX7_heap 29 = .ok (.invokevirtual 139, 3) := by decide +kernel
theorem dX7_heap_32 : decode cX7_heap 32 = .ok (.aload_n 0, 1) := by decide +kernel
theorem dX7_heap_33 : decode cX7_heap 33 = .ok (.getfield 32, 3) := by decide +kernel
theorem dX7_heap_36 : decode cX7_heap 36 = .ok (.iload_n 1, 1) := by decide +kernel
theorem dX7_heap_37 : decode cX7_heap 37 = .ok (.iaload, 1) := by decide +kernel
theorem dX7_heap_38 : decode cX7_heap 38 = .ok (.aload_n 0, 1) := by decide +kernel
theorem dX7_heap_39 : decode cX7_heap 39 = .ok (.getfield 35, 3) := by decide +kernel
theorem dX7_heap_42 : decode cX7_heap 42 = .ok (.iload_n 1, 1) := by decide +kernel
theorem dX7_heap_43 : decode cX7_heap 43 = .ok (.iaload, 1) := by decide +kernel
theorem dX7_heap_44 : decode cX7_heap 44 = .ok (.isub, 1) := by decide +kernel
theorem dX7_heap_45 : decode cX7_heap 45 = .ok (.istore_n 3, 1) := by decide +kernel
theorem dX7_heap_46 : decode cX7_heap 46 = .ok (.iconst 0, 1) := by decide +kernel
theorem dX7_heap_47 : decode cX7_heap 47 = .ok (.istore 4, 2) := by decide +kernel
theorem dX7_heap_49 : decode cX7_heap 49 = .ok (.iload_n 3, 1) := by decide +kernel
theorem dX7_heap_50 : decode cX7_heap 50 = .ok (.aload_n 0, 1) := by decide +kernel
theorem dX7_heap_51 : decode cX7_heap 51 = .ok (.getfield 38, 3) := by decide +kernel
theorem dX7_heap_54 : decode cX7_heap 54 = .ok (.iload_n 1, 1) := by decide +kernel
theorem dX7_heap_55 : decode cX7_heap 55 = .ok (.iaload, 1) := by decide +kernel
theorem dX7_heap_56 : decode cX7_heap 56 = .ok (.iload_n 2, 1) := by decide +kernel
theorem dX7_heap_57 : decode cX7_heap 57 = .ok (.idiv, 1) := by decide +kernel
theorem dX7_heap_58 : decode cX7_heap 58 = .ok (.iload 4, 2) := by decide +kernel
theorem dX7_heap_60 : decode cX7_heap 60 = .ok (.aload_n 0, 1) := by decide +kernel
theorem dX7_heap_61 : decode cX7_heap 61 = .ok (.getfield 38, 3) := by decide +kernel
theorem dX7_heap_64 : decode cX7_heap 64 = .ok (.iload_n 1, 1) := by decide +kernel
theorem dX7_heap_65 : decode cX7_heap 65 = .ok (.iaload, 1) := by decide +kernel
theorem dX7_heap_66 : decode cX7_heap 66 = .ok (.iload_n 2, 1) := by decide +kernel
theorem dX7_heap_67 : decode cX7_heap 67 = .ok (.irem, 1) := by decide +kernel
theorem dX7_heap_68 : decode cX7_heap 68 = .ok (.if_icmp .ge 7, 3) := by decide +kernel
theorem dX7_heap_71 : decode cX7_heap 71 = .ok (.iconst 1, 1) := by decide +kernel
theorem dX7_heap_72 : decode cX7_heap 72 = .ok (.goto 4, 3) := by decide +kernel
theorem dX7_heap_75 : decode cX7_heap 75 = .ok (.iconst 0, 1) := by decide +kernel
theorem dX7_heap_76 : decode cX7_heap 76 = .ok (.iadd, 1) := by decide +kernel
theorem dX7_heap_77 : decode cX7_heap 77 = .ok (.if_icmp .lt 39, 3) := by decide +kernel
theorem dX7_heap_80 : decode cX7_heap 80 = .ok (.iload_n 3, 1) := by decide +kernel
theorem dX7_heap_81 : decode cX7_heap 81 = .ok (.aload_n 0, 1) := by decide +kernel
theorem dX7_heap_82 : decode cX7_heap 82 = .ok (.getfield 38, 3) := by decide +kernel
theorem dX7_heap_85 : decode cX7_heap 85 = .ok (.iload_n 1, 1) := by decide +kernel
theorem dX7_heap_86 : decode cX7_heap 86 = .ok (.iaload, 1) := by decide +kernel
theorem dX7_heap_87 : decode cX7_heap 87 = .ok (.iload_n 2, 1) := by decide +kernel
theorem dX7_heap_88 : decode cX7_heap 88 = .ok (.idiv, 1) := by decide +kernel
theorem dX7_heap_89 : decode cX7_heap 89 = .ok (.iload 4, 2) := by decide +kernel
theorem dX7_heap_91 : decode cX7_heap 91 = .ok (.aload_n 0, 1) := by decide +kernel
theorem dX7_heap_92 : decode cX7_heap 92 = .ok (.getfield 38, 3) := by decide +kernel
theorem dX7_heap_95 : decode cX7_heap 95 = .ok (.iload_n 1, 1) := by decide +kernel
theorem dX7_heap_96 : decode cX7_heap 96 = .ok (.iaload, 1) := by decide +kernel
theorem dX7_heap_97 : decode cX7_heap 97 = .ok (.iload_n 2, 1) := by decide +kernel
theorem dX7_heap_98 : decode cX7_heap 98 = .ok (.irem, 1) := by decide +kernel
theorem dX7_heap_99 : decode cX7_heap 99 = .ok (.if_icmp .ge 7, 3) := by decide +kernel
theorem dX7_heap_102 : decode cX7_heap 102 = .ok (.iconst 1, 1) := by decide +kernel
theorem dX7_heap_103 : decode cX7_heap 103 = .ok (.goto 4, 3) := by decide +kernel
theorem dX7_heap_106 : decode cX7_heap 106 = .ok (.iconst 0, 1) := by decide +kernel
theorem dX7_heap_107 : decode cX7_heap 107 = .ok (.iadd, 1) := by decide +kernel
theorem dX7_heap_108 : decode cX7_heap 108 = .ok (.isub, 1) := by decide +kernel
theorem dX7_heap_109 : decode cX7_heap 109 = .ok (.istore_n 3, 1) := by decide +kernel
theorem dX7_heap_110 : decode cX7_heap 110 = .ok (.iinc 4 1, 3) := by decide +kernel
theorem dX7_heap_113 : decode cX7_heap 113 = .ok (.goto (-64), 3) := by decide +kernel
theorem dX7_heap_116 : decode cX7_heap 116 = .ok (.iload 4, 2) := by decide +kernel
theorem dX7_heap_118 : decode cX7_heap 118 = .ok (.ireturn, 1) := by decide +kernel
theorem dX7_shift_0 : decode cX7_shift 0 = .ok (.aload_n 0, 1) := by decide +kernel
theorem dX7_shift_1 : decode cX7_shift 1 = .ok (.iload_n 1, 1) := by decide +kernel
theorem dX7_shift_2 : decode cX7_shift 2 = .ok (.invokevirtual 131, 3) := by decide +kernel
theorem dX7_shift_5 : decode cX7_shift 5 = .ok (.ifCond .ne 6, 3) := by decide +kernel
theorem dX7_shift_8 : decode cX7_shift 8 = .ok (.ldc 165, 2) := by decide +kernel
theorem dX7_shift_10 : decode cX7_shift 10 = .ok (.ireturn, 1) := by decide +kernel
theorem dX7_shift_11 : decode cX7_shift 11 = .ok (.iload_n 2, 1) := by decide +kernel
theorem dX7_shift_12 : decode cX7_shift 12 = .ok (.bipush (-20), 2) := by decide +kernel
theorem dX7_shift_14 : decode cX7_shift 14 = .ok (.bipush 20, 2) := by decide +kernel
theorem dX7_shift_16 : decode cX7_shift 16 = .ok (.invokestatic 120, 3) := by decide +kernel
theorem dX7_shift_19 : decode cX7_shift 19 = .ok (.ifCond .ne 6, 3) := by decide +kernel
theorem dX7_shift_22 : decode cX7_shift 22 = .ok (.ldc 157, 2) := by decide +kernel
theorem dX7_shift_24 : decode cX7_shift 24 = .ok (.ireturn, 1) := by decide +kernel
theorem dX7_shift_25 : decode cX7_shift 25 = .ok (.aload_n 0, 1) := by decide +kernel
theorem dX7_shift_26 : decode cX7_shift 26 = .ok (.aload_n 0, 1) := by decide +kernel
theorem dX7_shift_27 : decode cX7_shift 27 = .ok (.getfield 7, 3) := by decide +kernel
theorem dX7_shift_30 : decode cX7_shift 30 = .ok (.invokevirtual 139, 3) := by decide +kernel
theorem dX7_shift_33 : decode cX7_shift 33 = .ok (.aload_n 0, 1) := by decide +kernel
theorem dX7_shift_34 : decode cX7_shift 34 = .ok (.getfield 32, 3) := by decide +kernel
theorem dX7_shift_37 : decode cX7_shift 37 = .ok (.iload_n 1, 1) := by decide +kernel
theorem dX7_shift_38 : decode cX7_shift 38 = .ok (.iaload, 1) := by decide +kernel
theorem dX7_shift_39 : decode cX7_shift 39 = .ok (.iload_n 2, 1) := by decide +kernel
theorem dX7_shift_40 : decode cX7_shift 40 = .ok (.iadd, 1) := by decide +kernel
theorem dX7_shift_41 : decode cX7_shift 41 = .ok (.istore_n 3, 1) := by decide +kernel
theorem dX7_shift_42 : decode cX7_shift 42 = .ok (.iload_n 3, 1) := by decide +kernel
theorem dX7_shift_43 : decode cX7_shift 43 = .ok (.aload_n 0, 1) := by decide +kernel
theorem dX7_shift_44 : decode cX7_shift 44 = .ok (.getfield 35, 3) := by decide +kernel
theorem dX7_shift_47 : decode cX7_shift 47 = .ok (.iload_n 1, 1) := by decide +kernel
theorem dX7_shift_48 : decode cX7_shift 48 = .ok (.iaload, 1) := by decide +kernel
theorem dX7_shift_49 : decode cX7_shift 49 = .ok (.aload_n 0, 1) := by decide +kernel
theorem dX7_shift_50 : decode cX7_shift 50 = .ok (.getfield 35, 3) := by decide +kernel
theorem dX7_shift_53 : decode cX7_shift 53 = .ok (.iload_n 1, 1) := by decide +kernel
theorem dX7_shift_54 : decode cX7_shift 54 = .ok (.iaload, 1) := by decide +kernel
theorem dX7_shift_55 : decode cX7_shift 55 = .ok (.aload_n 0, 1) := by decide +kernel
theorem dX7_shift_56 : decode cX7_shift 56 = .ok (.getfield 38, 3) := by decide +kernel
theorem dX7_shift_59 : decode cX7_shift 59 = .ok (.iload_n 1, 1) := by decide +kernel
theorem dX7_shift_60 : decode cX7_shift 60 = .ok (.iaload, 1) := by decide +kernel
theorem dX7_shift_61 : decode cX7_shift 61 = .ok (.iadd, 1) := by decide +kernel
theorem dX7_shift_62 : decode cX7_shift 62 = .ok (.iconst 1, 1) := by decide +kernel
theorem dX7_shift_63 : decode cX7_shift 63 = .ok (.isub, 1) := by decide +kernel
theorem dX7_shift_64 : decode cX7_shift 64 = .ok (.invokestatic 120, 3) := by decide +kernel
theorem dX7_shift_67 : decode cX7_shift 67 = .ok (.ifCond .eq 12, 3) := by decide +kernel
theorem dX7_shift_70 : decode cX7_shift 70 = .ok (.aload_n 0, 1) := by decide +kernel
theorem dX7_shift_71 : decode cX7_shift 71 = .ok (.getfield 29, 3) := by decide +kernel
theorem dX7_shift_74 : decode cX7_shift 74 = .ok (.iload_n 3, 1) := by decide +kernel
theorem dX7_shift_75 : decode cX7_shift 75 = .ok (.iaload, 1) := by decide +kernel
theorem dX7_shift_76 : decode cX7_shift 76 = .ok (.goto 4, 3) := by decide +kernel
theorem dX7_shift_79 : decode cX7_shift 79 = .ok (.iconst (-1), 1) := by decide +kernel
theorem dX7_shift_80 : decode cX7_shift 80 = .ok (.ireturn, 1) := by decide +kernel
theorem dX7_best_0 : decode cX7_best 0 = .ok (.iload_n 1, 1) := by decide +kernel
theorem dX7_best_1 : decode cX7_best 1 = .ok (.iconst 0, 1) := by decide +kernel
theorem dX7_best_2 : decode cX7_best 2 = .ok (.bipush 8, 2) := by decide +kernel
theorem dX7_best_4 : decode cX7_best 4 = .ok (.invokestatic 120, 3) := by decide +kernel
theorem dX7_best_7 : decode cX7_best 7 = .ok (.ifCond .ne 6, 3) := by decide +kernel
theorem dX7_best_10 : decode cX7_best 10 = .ok (.ldc 157, 2) := by decide +kernel
theorem dX7_best_12 : decode cX7_best 12 = .ok (.ireturn, 1) := by decide +kernel
theorem dX7_best_13 : decode cX7_best 13 = .ok (.aload_n 0, 1) := by decide +kernel
theorem dX7_best_14 : decode cX7_best 14 = .ok (.aload_n 0, 1) := by decide +kernel
theorem dX7_best_15 : decode cX7_best 15 = .ok (.getfield 7, 3) := by decide +kernel
theorem dX7_best_18 : decode cX7_best 18 = .ok (.invokevirtual 139, 3) := by decide +kernel
theorem dX7_best_21 : decode cX7_best 21 = .ok (.iconst (-1), 1) := by decide +kernel
theorem dX7_best_22 : decode cX7_best 22 = .ok (.istore_n 2, 1) := by decide +kernel
theorem dX7_best_23 : decode cX7_best 23 = .ok (.iconst 0, 1) := by decide +kernel
theorem dX7_best_24 : decode cX7_best 24 = .ok (.istore_n 3, 1) := by decide +kernel
theorem dX7_best_25 : decode cX7_best 25 = .ok (.iconst 0, 1) := by decide +kernel
theorem dX7_best_26 : decode cX7_best 26 = .ok (.istore 4, 2) := by decide +kernel
theorem dX7_best_28 : decode cX7_best 28 = .ok (.iload 4, 2) := by decide +kernel
theorem dX7_best_30 : decode cX7_best 30 = .ok (.aload_n 0, 1) := by decide +kernel
theorem dX7_best_31 : decode cX7_best 31 = .ok (.getfield 7, 3) := by decide +kernel
theorem dX7_best_34 : decode cX7_best 34 = .ok (.iconst 0, 1) := by decide +kernel
theorem dX7_best_35 : decode cX7_best 35 = .ok (.iaload, 1) := by decide +kernel
theorem dX7_best_36 : decode cX7_best 36 = .ok (.if_icmp .ge 69, 3) := by decide +kernel
theorem dX7_best_39 : decode cX7_best 39 = .ok (.aload_n 0, 1) := by decide +kernel
theorem dX7_best_40 : decode cX7_best 40 = .ok (.aload_n 0, 1) := by decide +kernel
theorem dX7_best_41 : decode cX7_best 41 = .ok (.getfield 7, 3) := by decide +kernel
theorem dX7_best_44 : decode cX7_best 44 = .ok (.iload 4, 2) := by decide +kernel
theorem dX7_best_46 : decode cX7_best 46 = .ok (.iload_n 1, 1) := by decide +kernel
theorem dX7_best_47 : decode cX7_best 47 = .ok (.invokevirtual 135, 3) := by decide +kernel
theorem dX7_best_50 : decode cX7_best 50 = .ok (.istore 5, 2) := by decide +kernel
theorem dX7_best_52 : decode cX7_best 52 = .ok (.iload 5, 2) := by decide +kernel
theorem dX7_best_54 : decode cX7_best 54 = .ok (.ldc 66, 2) := by decide +kernel
theorem dX7_best_56 : decode cX7_best 56 = .ok (.if_icmp .ne 8, 3) := by decide +kernel
theorem dX7_best_59 : decode cX7_best 59 = .ok (.ldc 67, 2) := by decide +kernel
theorem dX7_best_61 : decode cX7_best 61 = .ok (.goto 5, 3) := by decide +kernel
theorem dX7_best_64 : decode cX7_best 64 = .ok (.iload 5, 2) := by decide +kernel
theorem dX7_best_66 : decode cX7_best 66 = .ok (.istore 5, 2) := by decide +kernel
theorem dX7_best_68 : decode cX7_best 68 = .ok (.iload_n 2, 1) := by decide +kernel
theorem dX7_best_69 : decode cX7_best 69 = .ok (.iconst (-1), 1) := by decide +kernel
theorem dX7_best_70 : decode cX7_best 70 = .ok (.if_icmp .eq 9, 3) := by decide +kernel
theorem dX7_best_73 : decode cX7_best 73 = .ok (.iload 5, 2) := by decide +kernel
theorem dX7_best_75 : decode cX7_best 75 = .ok (.iload_n 3, 1) := by decide +kernel
theorem dX7_best_76 : decode cX7_best 76 = .ok (.if_icmp .le 8, 3) := by decide +kernel
theorem dX7_best_79 : decode cX7_best 79 = .ok (.iload 4, 2) := by decide +kernel
theorem dX7_best_81 : decode cX7_best 81 = .ok (.goto 4, 3) := by decide +kernel
theorem dX7_best_84 : decode cX7_best 84 = .ok (.iload_n 2, 1) := by decide +kernel
theorem dX7_best_85 : decode cX7_best 85 = .ok (.istore_n 2, 1) := by decide +kernel
theorem dX7_best_86 : decode cX7_best 86 = .ok (.iload_n 2, 1) := by decide +kernel
theorem dX7_best_87 : decode cX7_best 87 = .ok (.iload 4, 2) := by decide +kernel
theorem dX7_best_89 : decode cX7_best 89 = .ok (.if_icmp .ne 8, 3) := by decide +kernel
theorem dX7_best_92 : decode cX7_best 92 = .ok (.iload 5, 2) := by decide +kernel
theorem dX7_best_94 : decode cX7_best 94 = .ok (.goto 4, 3) := by decide +kernel
theorem dX7_best_97 : decode cX7_best 97 = .ok (.iload_n 3, 1) := by decide +kernel
theorem dX7_best_98 : decode cX7_best 98 = .ok (.istore_n 3, 1) := by decide +kernel
theorem dX7_best_99 : decode cX7_best 99 = .ok (.iinc 4 1, 3) := by decide +kernel
theorem dX7_best_102 : decode cX7_best 102 = .ok (.goto (-74), 3) := by decide +kernel
theorem dX7_best_105 : decode cX7_best 105 = .ok (.iload_n 2, 1) := by decide +kernel
theorem dX7_best_106 : decode cX7_best 106 = .ok (.ireturn, 1) := by decide +kernel
theorem dX7_would_0 : decode cX7_would 0 = .ok (.iload_n 1, 1) := by decide +kernel
theorem dX7_would_1 : decode cX7_would 1 = .ok (.iconst 0, 1) := by decide +kernel
theorem dX7_would_2 : decode cX7_would 2 = .ok (.iconst 5, 1) := by decide +kernel
theorem dX7_would_3 : decode cX7_would 3 = .ok (.invokestatic 120, 3) := by decide +kernel
theorem dX7_would_6 : decode cX7_would 6 = .ok (.ifCond .eq 10, 3) := by decide +kernel
theorem dX7_would_9 : decode cX7_would 9 = .ok (.iload_n 2, 1) := by decide +kernel
theorem dX7_would_10 : decode cX7_would 10 = .ok (.invokestatic 173, 3) := by decide +kernel
theorem dX7_would_13 : decode cX7_would 13 = .ok (.ifCond .ne 6, 3) := by decide +kernel
theorem dX7_would_16 : decode cX7_would 16 = .ok (.ldc 157, 2) := by decide +kernel
theorem dX7_would_18 : decode cX7_would 18 = .ok (.ireturn, 1) := by decide +kernel
