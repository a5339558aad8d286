theorem dX5_copy_53 : decode cX5_copy 53 = .ok (.aload_n 0, 1) := by decide +kernel
theorem dX5_copy_54 : decode cX5_copy 54 = .ok (.aload_n 1, 1) := by decide +kernel
theorem dX5_copy_55 : decode cX5_copy 55 = .ok (.getfield 25, 3) := by decide +kernel
theorem dX5_copy_58 : decode cX5_copy 58 = .ok (.putfield 25, 3) := by decide +kernel
theorem dX5_copy_61 : decode cX5_copy 61 = .ok (.aload_n 0, 1) := by decide +kernel
theorem dX5_copy_62 : decode cX5_copy 62 = .ok (.aload_n 1, 1) := by decide +kernel
theorem dX5_copy_63 : decode cX5_copy 63 = .ok (.getfield 28, 3) := by decide +kernel
theorem dX5_copy_66 : decode cX5_copy 66 = .ok (.putfield 28, 3) := by decide +kernel
theorem dX5_copy_69 : decode cX5_copy 69 = .ok (.aload_n 0, 1) := by decide +kernel
theorem dX5_copy_70 : decode cX5_copy 70 = .ok (.aload_n 1, 1) := by decide +kernel
theorem dX5_copy_71 : decode cX5_copy 71 = .ok (.getfield 31, 3) := by decide +kernel
theorem dX5_copy_74 : decode cX5_copy 74 = .ok (.putfield 31, 3) := by decide +kernel
theorem dX5_copy_77 : decode cX5_copy 77 = .ok (.aload_n 0, 1) := by decide +kernel
theorem dX5_copy_78 : decode cX5_copy 78 = .ok (.aload_n 1, 1) := by decide +kernel
theorem dX5_copy_79 : decode cX5_copy 79 = .ok (.getfield 34, 3) := by decide +kernel
theorem dX5_copy_82 : decode cX5_copy 82 = .ok (.putfield 34, 3) := by decide +kernel
theorem dX5_copy_85 : decode cX5_copy 85 = .ok (.aload_n 0, 1) := by decide +kernel
theorem dX5_copy_86 : decode cX5_copy 86 = .ok (.aload_n 1, 1) := by decide +kernel
theorem dX5_copy_87 : decode cX5_copy 87 = .ok (.getfield 37, 3) := by decide +kernel
theorem dX5_copy_90 : decode cX5_copy 90 = .ok (.putfield 37, 3) := by decide +kernel
theorem dX5_copy_93 : decode cX5_copy 93 = .ok (.return_, 1) := by decide +kernel
theorem dX5_add_0 : decode cX5_add 0 = .ok (.aload_n 0, 1) := by decide +kernel
theorem dX5_add_1 : decode cX5_add 1 = .ok (.getfield 21, 3) := by decide +kernel
theorem dX5_add_4 : decode cX5_add 4 = .ok (.bipush 40, 2) := by decide +kernel
theorem dX5_add_6 : decode cX5_add 6 = .ok (.if_icmp .lt 4, 3) := by decide +kernel
theorem dX5_add_9 : decode cX5_add 9 = .ok (.return_, 1) := by decide +kernel
theorem dX5_add_10 : decode cX5_add 10 = .ok (.aload_n 0, 1) := by decide +kernel
theorem dX5_add_11 : decode cX5_add 11 = .ok (.getfield 9, 3) := by decide +kernel
theorem dX5_add_14 : decode cX5_add 14 = .ok (.aload_n 0, 1) := by decide +kernel
theorem dX5_add_15 : decode cX5_add 15 = .ok (.getfield 21, 3) := by decide +kernel
theorem dX5_add_18 : decode cX5_add 18 = .ok (.iload_n 1, 1) := by decide +kernel
theorem dX5_add_19 : decode cX5_add 19 = .ok (.iastore, 1) := by decide +kernel
theorem dX5_add_20 : decode cX5_add 20 = .ok (.aload_n 0, 1) := by decide +kernel
theorem dX5_add_21 : decode cX5_add 21 = .ok (.getfield 15, 3) := by decide +kernel
theorem dX5_add_24 : decode cX5_add 24 = .ok (.aload_n 0, 1) := by decide +kernel
theorem dX5_add_25 : decode cX5_add 25 = .ok (.getfield 21, 3) := by decide +kernel
theorem dX5_add_28 : decode cX5_add 28 = .ok (.iload_n 2, 1) := by decide +kernel
theorem dX5_add_29 : decode cX5_add 29 = .ok (.iastore, 1) := by decide +kernel
theorem dX5_add_30 : decode cX5_add 30 = .ok (.aload_n 0, 1) := by decide +kernel
theorem dX5_add_31 : decode cX5_add 31 = .ok (.getfield 18, 3) := by decide +kernel
theorem dX5_add_34 : decode cX5_add 34 = .ok (.aload_n 0, 1) := by decide +kernel
theorem dX5_add_35 : decode cX5_add 35 = .ok (.getfield 21, 3) := by decide +kernel
theorem dX5_add_38 : decode cX5_add 38 = .ok (.iload_n 3, 1) := by decide +kernel
theorem dX5_add_39 : decode cX5_add 39 = .ok (.iastore, 1) := by decide +kernel
theorem dX5_add_40 : decode cX5_add 40 = .ok (.aload_n 0, 1) := by decide +kernel
theorem dX5_add_41 : decode cX5_add 41 = .ok (.dup, 1) := by decide +kernel
theorem dX5_add_42 : decode cX5_add 42 = .ok (.getfield 21, 3) := by decide +kernel
theorem dX5_add_45 : decode cX5_add 45 = .ok (.iconst 1, 1) := by decide +kernel
theorem dX5_add_46 : decode cX5_add 46 = .ok (.iadd, 1) := by decide +kernel
theorem dX5_add_47 : decode cX5_add 47 = .ok (.putfield 21, 3) := by decide +kernel
theorem dX5_add_50 : decode cX5_add 50 = .ok (.return_, 1) := by decide +kernel
theorem dX5_drop_0 : decode cX5_drop 0 = .ok (.aload_n 0, 1) := by decide +kernel
theorem dX5_drop_1 : decode cX5_drop 1 = .ok (.iload_n 1, 1) := by decide +kernel
theorem dX5_drop_2 : decode cX5_drop 2 = .ok (.invokevirtual 47, 3) := by decide +kernel
theorem dX5_drop_5 : decode cX5_drop 5 = .ok (.ifCond .ne 4, 3) := by decide +kernel
theorem dX5_drop_8 : decode cX5_drop 8 = .ok (.return_, 1) := by decide +kernel
theorem dX5_drop_9 : decode cX5_drop 9 = .ok (.iload_n 1, 1) := by decide +kernel
theorem dX5_drop_10 : decode cX5_drop 10 = .ok (.istore_n 2, 1) := by decide +kernel
theorem dX5_drop_11 : decode cX5_drop 11 = .ok (.iload_n 2, 1) := by decide +kernel
theorem dX5_drop_12 : decode cX5_drop 12 = .ok (.aload_n 0, 1) := by decide +kernel
theorem dX5_drop_13 : decode cX5_drop 13 = .ok (.getfield 21, 3) := by decide +kernel
theorem dX5_drop_16 : decode cX5_drop 16 = .ok (.iconst 1, 1) := by decide +kernel
theorem dX5_drop_17 : decode cX5_drop 17 = .ok (.isub, 1) := by decide +kernel
theorem dX5_drop_18 : decode cX5_drop 18 = .ok (.if_icmp .ge 51, 3) := by decide +kernel
theorem dX5_drop_21 : decode cX5_drop 21 = .ok (.aload_n 0, 1) := by decide +kernel
theorem dX5_drop_22 : decode cX5_drop 22 = .ok (.getfield 9, 3) := by decide +kernel
theorem dX5_drop_25 : decode cX5_drop 25 = .ok (.iload_n 2, 1) := by decide +kernel
theorem dX5_drop_26 : decode cX5_drop 26 = .ok (.aload_n 0, 1) := by decide +kernel
theorem dX5_drop_27 : decode cX5_drop 27 = .ok (.getfield 9, 3) := by decide +kernel
theorem dX5_drop_30 : decode cX5_drop 30 = .ok (.iload_n 2, 1) := by decide +kernel
theorem dX5_drop_31 : decode cX5_drop 31 = .ok (.iconst 1, 1) := by decide +kernel
theorem dX5_drop_32 : decode cX5_drop 32 = .ok (.iadd, 1) := by decide +kernel
theorem dX5_drop_33 : decode cX5_drop 33 = .ok (.iaload, 1) := by decide +kernel
theorem dX5_drop_34 : decode cX5_drop 34 = .ok (.iastore, 1) := by decide +kernel
theorem dX5_drop_35 : decode cX5_drop 35 = .ok (.aload_n 0, 1) := by decide +kernel
theorem dX5_drop_36 : decode cX5_drop 36 = .ok (.getfield 15, 3) := by decide +kernel
theorem dX5_drop_39 : decode cX5_drop 39 = .ok (.iload_n 2, 1) := by decide +kernel
theorem dX5_drop_40 : decode cX5_drop 40 = .ok (.aload_n 0, 1) := by decide +kernel
theorem dX5_drop_41 : decode cX5_drop 41 = .ok (.getfield 15, 3) := by decide +kernel
theorem dX5_drop_44 : decode cX5_drop 44 = .ok (.iload_n 2, 1) := by decide +kernel
theorem dX5_drop_45 : decode cX5_drop 45 = .ok (.iconst 1, 1) := by decide +kernel
theorem dX5_drop_46 : decode cX5_drop 46 = .ok (.iadd, 1) := by decide +kernel
theorem dX5_drop_47 : decode cX5_drop 47 = .ok (.iaload, 1) := by decide +kernel
theorem dX5_drop_48 : decode cX5_drop 48 = .ok (.iastore, 1) := by decide +kernel
theorem dX5_drop_49 : decode cX5_drop 49 = .ok (.aload_n 0, 1) := by decide +kernel
theorem dX5_drop_50 : decode cX5_drop 50 = .ok (.getfield 18, 3) := by decide +kernel
theorem dX5_drop_53 : decode cX5_drop 53 = .ok (.iload_n 2, 1) := by decide +kernel
theorem dX5_drop_54 : decode cX5_drop 54 = .ok (.aload_n 0, 1) := by decide +kernel
theorem dX5_drop_55 : decode cX5_drop 55 = .ok (.getfield 18, 3) := by decide +kernel
theorem dX5_drop_58 : decode cX5_drop 58 = .ok (.iload_n 2, 1) := by decide +kernel
theorem dX5_drop_59 : decode cX5_drop 59 = .ok (.iconst 1, 1) := by decide +kernel
theorem dX5_drop_60 : decode cX5_drop 60 = .ok (.iadd, 1) := by decide +kernel
theorem dX5_drop_61 : decode cX5_drop 61 = .ok (.iaload, 1) := by decide +kernel
theorem dX5_drop_62 : decode cX5_drop 62 = .ok (.iastore, 1) := by decide +kernel
theorem dX5_drop_63 : decode cX5_drop 63 = .ok (.iinc 2 1, 3) := by decide +kernel
theorem dX5_drop_66 : decode cX5_drop 66 = .ok (.goto (-55), 3) := by decide +kernel
theorem dX5_drop_69 : decode cX5_drop 69 = .ok (.aload_n 0, 1) := by decide +kernel
theorem dX5_drop_70 : decode cX5_drop 70 = .ok (.dup, 1) := by decide +kernel
theorem dX5_drop_71 : decode cX5_drop 71 = .ok (.getfield 21, 3) := by decide +kernel
theorem dX5_drop_74 : decode cX5_drop 74 = .ok (.iconst 1, 1) := by decide +kernel
theorem dX5_drop_75 : decode cX5_drop 75 = .ok (.isub, 1) := by decide +kernel
theorem dX5_drop_76 : decode cX5_drop 76 = .ok (.putfield 21, 3) := by decide +kernel
theorem dX5_drop_79 : decode cX5_drop 79 = .ok (.return_, 1) := by decide +kernel
theorem dX5_rankOf_0 : decode cX5_rankOf 0 = .ok (.iload_n 1, 1) := by decide +kernel
theorem dX5_rankOf_1 : decode cX5_rankOf 1 = .ok (.ldc 51, 2) := by decide +kernel
theorem dX5_rankOf_3 : decode cX5_rankOf 3 = .ok (.if_icmp .ne 15, 3) := by decide +kernel
theorem dX5_rankOf_6 : decode cX5_rankOf 6 = .ok (.aload_n 0, 1) := by decide +kernel
theorem dX5_rankOf_7 : decode cX5_rankOf 7 = .ok (.getfield 37, 3) := by decide +kernel
theorem dX5_rankOf_10 : decode cX5_rankOf 10 = .ok (.ifCond .eq 8, 3) := by decide +kernel
theorem dX5_rankOf_13 : decode cX5_rankOf 13 = .ok (.ldc 52, 2) := by decide +kernel
theorem dX5_rankOf_15 : decode cX5_rankOf 15 = .ok (.goto 4, 3) := by decide +kernel
theorem dX5_rankOf_18 : decode cX5_rankOf 18 = .ok (.iload_n 1, 1) := by decide +kernel
theorem dX5_rankOf_19 : decode cX5_rankOf 19 = .ok (.ireturn, 1) := by decide +kernel
theorem dX5_isBefore_0 : decode cX5_isBefore 0 = .ok (.iload_n 1, 1) := by decide +kernel
theorem dX5_isBefore_1 : decode cX5_isBefore 1 = .ok (.aload_n 0, 1) := by decide +kernel
theorem dX5_isBefore_2 : decode cX5_isBefore 2 = .ok (.getfield 9, 3) := by decide +kernel
theorem dX5_isBefore_5 : decode cX5_isBefore 5 = .ok (.iload_n 3, 1) := by decide +kernel
theorem dX5_isBefore_6 : decode cX5_isBefore 6 = .ok (.iaload, 1) := by decide +kernel
theorem dX5_isBefore_7 : decode cX5_isBefore 7 = .ok (.if_icmp .eq 19, 3) := by decide +kernel
theorem dX5_isBefore_10 : decode cX5_isBefore 10 = .ok (.iload_n 1, 1) := by decide +kernel
theorem dX5_isBefore_11 : decode cX5_isBefore 11 = .ok (.aload_n 0, 1) := by decide +kernel
theorem dX5_isBefore_12 : decode cX5_isBefore 12 = .ok (.getfield 9, 3) := by decide +kernel
theorem dX5_isBefore_15 : decode cX5_isBefore 15 = .ok (.iload_n 3, 1) := by decide +kernel
theorem dX5_isBefore_16 : decode cX5_isBefore 16 = .ok (.iaload, 1) := by decide +kernel
theorem dX5_isBefore_17 : decode cX5_isBefore 17 = .ok (.if_icmp .ge 7, 3) := by decide +kernel
theorem dX5_isBefore_20 : decode cX5_isBefore 20 = .ok (.iconst 1, 1) := by decide +kernel
theorem dX5_isBefore_21 : decode cX5_isBefore 21 = .ok (.goto 4, 3) := by decide +kernel
theorem dX5_isBefore_24 : decode cX5_isBefore 24 = .ok (.iconst 0, 1) := by decide +kernel
theorem dX5_isBefore_25 : decode cX5_isBefore 25 = .ok (.ireturn, 1) := by decide +kernel
theorem dX5_isBefore_26 : decode cX5_isBefore 26 = .ok (.aload_n 0, 1) := by decide +kernel
theorem dX5_isBefore_27 : decode cX5_isBefore 27 = .ok (.iload_n 2, 1) := by decide +kernel
theorem dX5_isBefore_28 : decode cX5_isBefore 28 = .ok (.invokevirtual 53, 3) := by decide +kernel
theorem dX5_isBefore_31 : decode cX5_isBefore 31 = .ok (.aload_n 0, 1) := by decide +kernel
theorem dX5_isBefore_32 : decode cX5_isBefore 32 = .ok (.aload_n 0, 1) := by decide +kernel
theorem dX5_isBefore_33 : decode cX5_isBefore 33 = .ok (.getfield 15, 3) := by decide +kernel
theorem dX5_isBefore_36 : decode cX5_isBefore 36 = .ok (.iload_n 3, 1) := by decide +kernel
theorem dX5_isBefore_37 : decode cX5_isBefore 37 = .ok (.iaload, 1) := by decide +kernel
theorem dX5_isBefore_38 : decode cX5_isBefore 38 = .ok (.invokevirtual 53, 3) := by decide +kernel
theorem dX5_isBefore_41 : decode cX5_isBefore 41 = .ok (.if_icmp .ge 7, 3) := by decide +kernel
theorem dX5_isBefore_44 : decode cX5_isBefore 44 = .ok (.iconst 1, 1) := by decide +kernel
theorem dX5_isBefore_45 : decode cX5_isBefore 45 = .ok (.goto 4, 3) := by decide +kernel
theorem dX5_isBefore_48 : decode cX5_isBefore 48 = .ok (.iconst 0, 1) := by decide +kernel
theorem dX5_isBefore_49 : decode cX5_isBefore 49 = .ok (.ireturn, 1) := by decide +kernel
theorem dX5_arePeers_0 : decode cX5_arePeers 0 = .ok (.aload_n 0, 1) := by decide +kernel
theorem dX5_arePeers_1 : decode cX5_arePeers 1 = .ok (.getfield 9, 3) := by decide +kernel
theorem dX5_arePeers_4 : decode cX5_arePeers 4 = .ok (.iload_n 1, 1) := by decide +kernel
theorem dX5_arePeers_5 : decode cX5_arePeers 5 = .ok (.iaload, 1) := by decide +kernel
theorem dX5_arePeers_6 : decode cX5_arePeers 6 = .ok (.aload_n 0, 1) := by decide +kernel
theorem dX5_arePeers_7 : decode cX5_arePeers 7 = .ok (.getfield 9, 3) := by decide +kernel
theorem dX5_arePeers_10 : decode cX5_arePeers 10 = .ok (.iload_n 2, 1) := by decide +kernel
theorem dX5_arePeers_11 : decode cX5_arePeers 11 = .ok (.iaload, 1) := by decide +kernel
theorem dX5_arePeers_12 : decode cX5_arePeers 12 = .ok (.if_icmp .ne 22, 3) := by decide +kernel
theorem dX5_arePeers_15 : decode cX5_arePeers 15 = .ok (.aload_n 0, 1) := by decide +kernel
theorem dX5_arePeers_16 : decode cX5_arePeers 16 = .ok (.getfield 15, 3) := by decide +kernel
theorem dX5_arePeers_19 : decode cX5_arePeers 19 = .ok (.iload_n 1, 1) := by decide +kernel
theorem dX5_arePeers_20 : decode cX5_arePeers 20 = .ok (.iaload, 1) := by decide +kernel
theorem dX5_arePeers_21 : decode cX5_arePeers 21 = .ok (.aload_n 0, 1) := by decide +kernel
theorem dX5_arePeers_22 : decode cX5_arePeers 22 = .ok (.getfield 15, 3) := by decide +kernel
theorem dX5_arePeers_25 : decode cX5_arePeers 25 = .ok (.iload_n 2, 1) := by decide +kernel
theorem dX5_arePeers_26 : decode cX5_arePeers 26 = .ok (.iaload, 1) := by decide +kernel
theorem dX5_arePeers_27 : decode cX5_arePeers 27 = .ok (.if_icmp .ne 7, 3) := by decide +kernel
theorem dX5_arePeers_30 : decode cX5_arePeers 30 = .ok (.iconst 1, 1) := by decide +kernel
theorem dX5_arePeers_31 : decode cX5_arePeers 31 = .ok (.goto 4, 3) := by decide +kernel
theorem dX5_arePeers_34 : decode cX5_arePeers 34 = .ok (.iconst 0, 1) := by decide +kernel
theorem dX5_arePeers_35 : decode cX5_arePeers 35 = .ok (.ireturn, 1) := by decide +kernel
theorem dX6_init_0 : decode cX6_init 0 = .ok (.aload_n 0, 1) := by decide +kernel
theorem dX6_init_1 : decode cX6_init 1 = .ok (.invokespecial 1, 3) := by decide +kernel
theorem dX6_init_4 : decode cX6_init 4 = .ok (.aload_n 0, 1) := by decide +kernel
theorem dX6_init_5 : decode cX6_init 5 = .ok (.new 7, 3) := by decide +kernel
theorem dX6_init_8 : decode cX6_init 8 = .ok (.dup, 1) := by decide +kernel
theorem dX6_init_9 : decode cX6_init 9 = .ok (.invokespecial 9, 3) := by decide +kernel
theorem dX6_init_12 : decode cX6_init 12 = .ok (.putfield 10, 3) := by decide +kernel
theorem dX6_init_15 : decode cX6_init 15 = .ok (.aload_n 0, 1) := by decide +kernel
theorem dX6_init_16 : decode cX6_init 16 = .ok (.aload_n 0, 1) := by decide +kernel
theorem dX6_init_17 : decode cX6_init 17 = .ok (.getfield 10, 3) := by decide +kernel
theorem dX6_init_20 : decode cX6_init 20 = .ok (.getfield 16, 3) := by decide +kernel
theorem dX6_init_23 : decode cX6_init 23 = .ok (.putfield 20, 3) := by decide +kernel
theorem dX6_init_26 : decode cX6_init 26 = .ok (.aload_n 0, 1) := by decide +kernel
theorem dX6_init_27 : decode cX6_init 27 = .ok (.aload_n 0, 1) := by decide +kernel
theorem dX6_init_28 : decode cX6_init 28 = .ok (.getfield 20, 3) := by decide +kernel
theorem dX6_init_31 : decode cX6_init 31 = .ok (.getfield 21, 3) := by decide +kernel
theorem dX6_init_34 : decode cX6_init 34 = .ok (.putfield 27, 3) := by decide +kernel
theorem dX6_init_37 : decode cX6_init 37 = .ok (.aload_n 0, 1) := by decide +kernel
theorem dX6_init_38 : decode cX6_init 38 = .ok (.new 7, 3) := by decide +kernel
theorem dX6_init_41 : decode cX6_init 41 = .ok (.dup, 1) := by decide +kernel
theorem dX6_init_42 : decode cX6_init 42 = .ok (.invokespecial 9, 3) := by decide +kernel
theorem dX6_init_45 : decode cX6_init 45 = .ok (.putfield 28, 3) := by decide +kernel
theorem dX6_init_48 : decode cX6_init 48 = .ok (.aload_n 0, 1) := by decide +kernel
theorem dX6_init_49 : decode cX6_init 49 = .ok (.aload_n 0, 1) := by decide +kernel
theorem dX6_init_50 : decode cX6_init 50 = .ok (.getfield 28, 3) := by decide +kernel
theorem dX6_init_53 : decode cX6_init 53 = .ok (.getfield 16, 3) := by decide +kernel
theorem dX6_init_56 : decode cX6_init 56 = .ok (.putfield 31, 3) := by decide +kernel
theorem dX6_init_59 : decode cX6_init 59 = .ok (.aload_n 0, 1) := by decide +kernel
theorem dX6_init_60 : decode cX6_init 60 = .ok (.aload_n 0, 1) := by decide +kernel
theorem dX6_init_61 : decode cX6_init 61 = .ok (.getfield 31, 3) := by decide +kernel
theorem dX6_init_64 : decode cX6_init 64 = .ok (.getfield 21, 3) := by decide +kernel
theorem dX6_init_67 : decode cX6_init 67 = .ok (.putfield 34, 3) := by decide +kernel
theorem dX6_init_70 : decode cX6_init 70 = .ok (.aload_n 0, 1) := by decide +kernel
theorem dX6_init_71 : decode cX6_init 71 = .ok (.new 37, 3) := by decide +kernel
theorem dX6_init_74 : decode cX6_init 74 = .ok (.dup, 1) := by decide +kernel
theorem dX6_init_75 : decode cX6_init 75 = .ok (.invokespecial 39, 3) := by decide +kernel
theorem dX6_init_78 : decode cX6_init 78 = .ok (.putfield 40, 3) := by decide +kernel
theorem dX6_init_81 : decode cX6_init 81 = .ok (.aload_n 0, 1) := by decide +kernel
theorem dX6_init_82 : decode cX6_init 82 = .ok (.new 44, 3) := by decide +kernel
theorem dX6_init_85 : decode cX6_init 85 = .ok (.dup, 1) := by decide +kernel
theorem dX6_init_86 : decode cX6_init 86 = .ok (.invokespecial 46, 3) := by decide +kernel
theorem dX6_init_89 : decode cX6_init 89 = .ok (.putfield 47, 3) := by decide +kernel
theorem dX6_init_92 : decode cX6_init 92 = .ok (.aload_n 0, 1) := by decide +kernel
theorem dX6_init_93 : decode cX6_init 93 = .ok (.iconst 2, 1) := by decide +kernel
theorem dX6_init_94 : decode cX6_init 94 = .ok (.anewarray 51, 3) := by decide +kernel
theorem dX6_init_97 : decode cX6_init 97 = .ok (.putfield 53, 3) := by decide +kernel
theorem dX6_init_100 : decode cX6_init 100 = .ok (.iconst 0, 1) := by decide +kernel
theorem dX6_init_101 : decode cX6_init 101 = .ok (.istore_n 1, 1) := by decide +kernel
theorem dX6_init_102 : decode cX6_init 102 = .ok (.iload_n 1, 1) := by decide +kernel
theorem dX6_init_103 : decode cX6_init 103 = .ok (.iconst 2, 1) := by decide +kernel
theorem dX6_init_104 : decode cX6_init 104 = .ok (.if_icmp .ge 22, 3) := by decide +kernel
theorem dX6_init_107 : decode cX6_init 107 = .ok (.aload_n 0, 1) := by decide +kernel
theorem dX6_init_108 : decode cX6_init 108 = .ok (.getfield 53, 3) := by decide +kernel
theorem dX6_init_111 : decode cX6_init 111 = .ok (.iload_n 1, 1) := by decide +kernel
theorem dX6_init_112 : decode cX6_init 112 = .ok (.new 51, 3) := by decide +kernel
theorem dX6_init_115 : decode cX6_init 115 = .ok (.dup, 1) := by decide +kernel
theorem dX6_init_116 : decode cX6_init 116 = .ok (.invokespecial 57, 3) := by decide +kernel
theorem dX6_init_119 : decode cX6_init 119 = .ok (.aastore, 1) := by decide +kernel
theorem dX6_init_120 : decode cX6_init 120 = .ok (.iinc 1 1, 3) := by decide +kernel
theorem dX6_init_123 : decode cX6_init 123 = .ok (.goto (-21), 3) := by decide +kernel
theorem dX6_init_126 : decode cX6_init 126 = .ok (.aload_n 0, 1) := by decide +kernel
theorem dX6_init_127 : decode cX6_init 127 = .ok (.iconst 0, 1) := by decide +kernel
theorem dX6_init_128 : decode cX6_init 128 = .ok (.putfield 58, 3) := by decide +kernel
theorem dX6_init_131 : decode cX6_init 131 = .ok (.return_, 1) := by decide +kernel
theorem dX6_told_0 : decode cX6_told 0 = .ok (.iload_n 1, 1) := by decide +kernel
theorem dX6_told_1 : decode cX6_told 1 = .ok (.tableswitch 177 0 11 #[63, 71, 79, 87, 95, 106, 117, 125, 141, 149, 157, 169], 63) := by decide +kernel
theorem dX6_told_64 : decode cX6_told 64 = .ok (.aload_n 0, 1) := by decide +kernel
theorem dX6_told_65 : decode cX6_told 65 = .ok (.getfield 27, 3) := by decide +kernel
theorem dX6_told_68 : decode cX6_told 68 = .ok (.getfield 62, 3) := by decide +kernel
theorem dX6_told_71 : decode cX6_told 71 = .ok (.ireturn, 1) := by decide +kernel
theorem dX6_told_72 : decode cX6_told 72 = .ok (.aload_n 0, 1) := by decide +kernel
theorem dX6_told_73 : decode cX6_told 73 = .ok (.getfield 20, 3) := by decide +kernel
theorem dX6_told_76 : decode cX6_told 76 = .ok (.invokevirtual 67, 3) := by decide +kernel
theorem dX6_told_79 : decode cX6_told 79 = .ok (.ireturn, 1) := by decide +kernel
theorem dX6_told_80 : decode cX6_told 80 = .ok (.aload_n 0, 1) := by decide +kernel
theorem dX6_told_81 : decode cX6_told 81 = .ok (.getfield 20, 3) := by decide +kernel
theorem dX6_told_84 : decode cX6_told 84 = .ok (.invokevirtual 71, 3) := by decide +kernel
theorem dX6_told_87 : decode cX6_told 87 = .ok (.ireturn, 1) := by decide +kernel
theorem dX6_told_88 : decode cX6_told 88 = .ok (.aload_n 0, 1) := by decide +kernel
theorem dX6_told_89 : decode cX6_told 89 = .ok (.getfield 27, 3) := by decide +kernel
theorem dX6_told_92 : decode cX6_told 92 = .ok (.getfield 74, 3) := by decide +kernel
theorem dX6_told_95 : decode cX6_told 95 = .ok (.ireturn, 1) := by decide +kernel
theorem dX6_told_96 : decode cX6_told 96 = .ok (.aload_n 0, 1) := by decide +kernel
theorem dX6_told_97 : decode cX6_told 97 = .ok (.getfield 27, 3) := by decide +kernel
theorem dX6_told_100 : decode cX6_told 100 = .ok (.getfield 77, 3) := by decide +kernel
theorem dX6_told_103 : decode cX6_told 103 = .ok (.bipush 100, 2) := by decide +kernel
theorem dX6_told_105 : decode cX6_told 105 = .ok (.iadd, 1) := by decide +kernel
theorem dX6_told_106 : decode cX6_told 106 = .ok (.ireturn, 1) := by decide +kernel
theorem dX6_told_107 : decode cX6_told 107 = .ok (.aload_n 0, 1) := by decide +kernel
theorem dX6_told_108 : decode cX6_told 108 = .ok (.getfield 27, 3) := by decide +kernel
theorem dX6_told_111 : decode cX6_told 111 = .ok (.getfield 80, 3) := by decide +kernel
theorem dX6_told_114 : decode cX6_told 114 = .ok (.bipush 100, 2) := by decide +kernel
theorem dX6_told_116 : decode cX6_told 116 = .ok (.iadd, 1) := by decide +kernel
theorem dX6_told_117 : decode cX6_told 117 = .ok (.ireturn, 1) := by decide +kernel
theorem dX6_told_118 : decode cX6_told 118 = .ok (.aload_n 0, 1) := by decide +kernel
theorem dX6_told_119 : decode cX6_told 119 = .ok (.getfield 27, 3) := by decide +kernel
theorem dX6_told_122 : decode cX6_told 122 = .ok (.getfield 83, 3) := by decide +kernel
theorem dX6_told_125 : decode cX6_told 125 = .ok (.ireturn, 1) := by decide +kernel
theorem dX6_told_126 : decode cX6_told 126 = .ok (.aload_n 0, 1) := by decide +kernel
theorem dX6_told_127 : decode cX6_told 127 = .ok (.getfield 27, 3) := by decide +kernel
theorem dX6_told_130 : decode cX6_told 130 = .ok (.getfield 86, 3) := by decide +kernel
theorem dX6_told_133 : decode cX6_told 133 = .ok (.ifCond .eq 7, 3) := by decide +kernel
theorem dX6_told_136 : decode cX6_told 136 = .ok (.iconst 1, 1) := by decide +kernel
theorem dX6_told_137 : decode cX6_told 137 = .ok (.goto 4, 3) := by decide +kernel
theorem dX6_told_140 : decode cX6_told 140 = .ok (.iconst 0, 1) := by decide +kernel
theorem dX6_told_141 : decode cX6_told 141 = .ok (.ireturn, 1) := by decide +kernel
theorem dX6_told_142 : decode cX6_told 142 = .ok (.aload_n 0, 1) := by decide +kernel
theorem dX6_told_143 : decode cX6_told 143 = .ok (.getfield 10, 3) := by decide +kernel
theorem dX6_told_146 : decode cX6_told 146 = .ok (.invokevirtual 90, 3) := by decide +kernel
theorem dX6_told_149 : decode cX6_told 149 = .ok (.ireturn, 1) := by decide +kernel
theorem dX6_told_150 : decode cX6_told 150 = .ok (.aload_n 0, 1) := by decide +kernel
theorem dX6_told_151 : decode cX6_told 151 = .ok (.getfield 47, 3) := by decide +kernel
theorem dX6_told_154 : decode cX6_told 154 = .ok (.getfield 93, 3) := by decide +kernel
theorem dX6_told_157 : decode cX6_told 157 = .ok (.ireturn, 1) := by decide +kernel
theorem dX6_told_158 : decode cX6_told 158 = .ok (.aload_n 0, 1) := by decide +kernel
theorem dX6_told_159 : decode cX6_told 159 = .ok (.getfield 47, 3) := by decide +kernel
theorem dX6_told_162 : decode cX6_told 162 = .ok (.aload_n 0, 1) := by decide +kernel
theorem dX6_told_163 : decode cX6_told 163 = .ok (.getfield 10, 3) := by decide +kernel
theorem dX6_told_166 : decode cX6_told 166 = .ok (.invokevirtual 94, 3) := by decide +kernel
theorem dX6_told_169 : decode cX6_told 169 = .ok (.ireturn, 1) := by decide +kernel
theorem dX6_told_170 : decode cX6_told 170 = .ok (.aload_n 0, 1) := by decide +kernel
theorem dX6_told_171 : decode cX6_told 171 = .ok (.getfield 40, 3) := by decide +kernel
theorem dX6_told_174 : decode cX6_told 174 = .ok (.getfield 98, 3) := by decide +kernel
theorem dX6_told_177 : decode cX6_told 177 = .ok (.ireturn, 1) := by decide +kernel
theorem dX6_told_178 : decode cX6_told 178 = .ok (.ldc 99, 2) := by decide +kernel
theorem dX6_told_180 : decode cX6_told 180 = .ok (.ireturn, 1) := by decide +kernel
theorem dX6_row_0 : decode cX6_row 0 = .ok (.aload_n 0, 1) := by decide +kernel
theorem dX6_row_1 : decode cX6_row 1 = .ok (.getfield 27, 3) := by decide +kernel
theorem dX6_row_4 : decode cX6_row 4 = .ok (.iload_n 1, 1) := by decide +kernel
theorem dX6_row_5 : decode cX6_row 5 = .ok (.invokevirtual 100, 3) := by decide +kernel
theorem dX6_row_8 : decode cX6_row 8 = .ok (.ifCond .ne 6, 3) := by decide +kernel
theorem dX6_row_11 : decode cX6_row 11 = .ok (.ldc 104, 2) := by decide +kernel
theorem dX6_row_13 : decode cX6_row 13 = .ok (.ireturn, 1) := by decide +kernel
theorem dX6_row_14 : decode cX6_row 14 = .ok (.iload_n 2, 1) := by decide +kernel
theorem dX6_row_15 : decode cX6_row 15 = .ok (.tableswitch 137 0 8 #[49, 59, 69, 79, 89, 100, 112, 121, 131], 49) := by decide +kernel
theorem dX6_row_64 : decode cX6_row 64 = .ok (.aload_n 0, 1) := by decide +kernel
theorem dX6_row_65 : decode cX6_row 65 = .ok (.getfield 27, 3) := by decide +kernel
theorem dX6_row_68 : decode cX6_row 68 = .ok (.getfield 105, 3) := by decide +kernel
theorem dX6_row_71 : decode cX6_row 71 = .ok (.iload_n 1, 1) := by decide +kernel
theorem dX6_row_72 : decode cX6_row 72 = .ok (.iaload, 1) := by decide +kernel
theorem dX6_row_73 : decode cX6_row 73 = .ok (.ireturn, 1) := by decide +kernel
theorem dX6_row_74 : decode cX6_row 74 = .ok (.aload_n 0, 1) := by decide +kernel
theorem dX6_row_75 : decode cX6_row 75 = .ok (.getfield 27, 3) := by decide +kernel
theorem dX6_row_78 : decode cX6_row 78 = .ok (.getfield 109, 3) := by decide +kernel
theorem dX6_row_81 : decode cX6_row 81 = .ok (.iload_n 1, 1) := by decide +kernel
theorem dX6_row_82 : decode cX6_row 82 = .ok (.iaload, 1) := by decide +kernel
theorem dX6_row_83 : decode cX6_row 83 = .ok (.ireturn, 1) := by decide +kernel
theorem dX6_row_84 : decode cX6_row 84 = .ok (.aload_n 0, 1) := by decide +kernel
theorem dX6_row_85 : decode cX6_row 85 = .ok (.getfield 27, 3) := by decide +kernel
theorem dX6_row_88 : decode cX6_row 88 = .ok (.getfield 112, 3) := by decide +kernel
theorem dX6_row_91 : decode cX6_row 91 = .ok (.iload_n 1, 1) := by decide +kernel
theorem dX6_row_92 : decode cX6_row 92 = .ok (.iaload, 1) := by decide +kernel
theorem dX6_row_93 : decode cX6_row 93 = .ok (.ireturn, 1) := by decide +kernel
theorem dX6_row_94 : decode cX6_row 94 = .ok (.aload_n 0, 1) := by decide +kernel
theorem dX6_row_95 : decode cX6_row 95 = .ok (.getfield 20, 3) := by decide +kernel
theorem dX6_row_98 : decode cX6_row 98 = .ok (.getfield 115, 3) := by decide +kernel
theorem dX6_row_101 : decode cX6_row 101 = .ok (.iload_n 1, 1) := by decide +kernel
theorem dX6_row_102 : decode cX6_row 102 = .ok (.iaload, 1) := by decide +kernel
theorem dX6_row_103 : decode cX6_row 103 = .ok (.ireturn, 1) := by decide +kernel
theorem dX6_row_104 : decode cX6_row 104 = .ok (.iconst 1, 1) := by decide +kernel
theorem dX6_row_105 : decode cX6_row 105 = .ok (.aload_n 0, 1) := by decide +kernel
theorem dX6_row_106 : decode cX6_row 106 = .ok (.getfield 20, 3) := by decide +kernel
theorem dX6_row_109 : decode cX6_row 109 = .ok (.iload_n 1, 1) := by decide +kernel
theorem dX6_row_110 : decode cX6_row 110 = .ok (.invokevirtual 118, 3) := by decide +kernel
theorem dX6_row_113 : decode cX6_row 113 = .ok (.iadd, 1) := by decide +kernel
theorem dX6_row_114 : decode cX6_row 114 = .ok (.ireturn, 1) := by decide +kernel
theorem dX6_row_115 : decode cX6_row 115 = .ok (.iconst 1, 1) := by decide +kernel
theorem dX6_row_116 : decode cX6_row 116 = .ok (.aload_n 0, 1) := by decide +kernel
theorem dX6_row_117 : decode cX6_row 117 = .ok (.getfield 20, 3) := by decide +kernel
theorem dX6_row_120 : decode cX6_row 120 = .ok (.getfield 122, 3) := by decide +kernel
theorem dX6_row_123 : decode cX6_row 123 = .ok (.iload_n 1, 1) := by decide +kernel
theorem dX6_row_124 : decode cX6_row 124 = .ok (.iaload, 1) := by decide +kernel
theorem dX6_row_125 : decode cX6_row 125 = .ok (.iadd, 1) := by decide +kernel
theorem dX6_row_126 : decode cX6_row 126 = .ok (.ireturn, 1) := by decide +kernel
theorem dX6_row_127 : decode cX6_row 127 = .ok (.aload_n 0, 1) := by decide +kernel
theorem dX6_row_128 : decode cX6_row 128 = .ok (.getfield 20, 3) := by decide +kernel
theorem dX6_row_131 : decode cX6_row 131 = .ok (.iload_n 1, 1) := by decide +kernel
theorem dX6_row_132 : decode cX6_row 132 = .ok (.invokevirtual 125, 3) := by decide +kernel
theorem dX6_row_135 : decode cX6_row 135 = .ok (.ireturn, 1) := by decide +kernel
theorem dX6_row_136 : decode cX6_row 136 = .ok (.aload_n 0, 1) := by decide +kernel
theorem dX6_row_137 : decode cX6_row 137 = .ok (.getfield 20, 3) := by decide +kernel
theorem dX6_row_140 : decode cX6_row 140 = .ok (.getfield 128, 3) := by decide +kernel
theorem dX6_row_143 : decode cX6_row 143 = .ok (.iload_n 1, 1) := by decide +kernel
theorem dX6_row_144 : decode cX6_row 144 = .ok (.iaload, 1) := by decide +kernel
theorem dX6_row_145 : decode cX6_row 145 = .ok (.ireturn, 1) := by decide +kernel
theorem dX6_row_146 : decode cX6_row 146 = .ok (.aload_n 0, 1) := by decide +kernel
theorem dX6_row_147 : decode cX6_row 147 = .ok (.iload_n 1, 1) := by decide +kernel
theorem dX6_row_148 : decode cX6_row 148 = .ok (.invokevirtual 131, 3) := by decide +kernel
theorem dX6_row_151 : decode cX6_row 151 = .ok (.ireturn, 1) := by decide +kernel
theorem dX6_row_152 : decode cX6_row 152 = .ok (.ldc 99, 2) := by decide +kernel
theorem dX6_row_154 : decode cX6_row 154 = .ok (.ireturn, 1) := by decide +kernel
theorem dX6_standing_0 : decode cX6_standing 0 = .ok (.aload_n 0, 1) := by decide +kernel
theorem dX6_standing_1 : decode cX6_standing 1 = .ok (.getfield 20, 3) := by decide +kernel
theorem dX6_standing_4 : decode cX6_standing 4 = .ok (.iload_n 1, 1) := by decide +kernel
theorem dX6_standing_5 : decode cX6_standing 5 = .ok (.invokevirtual 134, 3) := by decide +kernel
theorem dX6_standing_8 : decode cX6_standing 8 = .ok (.ireturn, 1) := by decide +kernel
theorem dX6_put_0 : decode cX6_put 0 = .ok (.iload_n 1, 1) := by decide +kernel
theorem dX6_put_1 : decode cX6_put 1 = .ok (.invokestatic 137, 3) := by decide +kernel
theorem dX6_put_4 : decode cX6_put 4 = .ok (.ifCond .eq 17, 3) := by decide +kernel
theorem dX6_put_7 : decode cX6_put 7 = .ok (.iload_n 2, 1) := by decide +kernel
theorem dX6_put_8 : decode cX6_put 8 = .ok (.invokestatic 140, 3) := by decide +kernel
theorem dX6_put_11 : decode cX6_put 11 = .ok (.ifCond .eq 10, 3) := by decide +kernel
theorem dX6_put_14 : decode cX6_put 14 = .ok (.iload_n 3, 1) := by decide +kernel
theorem dX6_put_15 : decode cX6_put 15 = .ok (.invokestatic 143, 3) := by decide +kernel
theorem dX6_put_18 : decode cX6_put 18 = .ok (.ifCond .ne 6, 3) := by decide +kernel
theorem dX6_put_21 : decode cX6_put 21 = .ok (.ldc 99, 2) := by decide +kernel
theorem dX6_put_23 : decode cX6_put 23 = .ok (.ireturn, 1) := by decide +kernel
theorem dX6_put_24 : decode cX6_put 24 = .ok (.aload_n 0, 1) := by decide +kernel
theorem dX6_put_25 : decode cX6_put 25 = .ok (.getfield 27, 3) := by decide +kernel
theorem dX6_put_28 : decode cX6_put 28 = .ok (.getfield 62, 3) := by decide +kernel
theorem dX6_put_31 : decode cX6_put 31 = .ok (.bipush 40, 2) := by decide +kernel
theorem dX6_put_33 : decode cX6_put 33 = .ok (.if_icmp .lt 6, 3) := by decide +kernel
theorem dX6_put_36 : decode cX6_put 36 = .ok (.ldc 146, 2) := by decide +kernel
theorem dX6_put_38 : decode cX6_put 38 = .ok (.ireturn, 1) := by decide +kernel
theorem dX6_put_39 : decode cX6_put 39 = .ok (.aload_n 0, 1) := by decide +kernel
theorem dX6_put_40 : decode cX6_put 40 = .ok (.getfield 40, 3) := by decide +kernel
theorem dX6_put_43 : decode cX6_put 43 = .ok (.aload_n 0, 1) := by decide +kernel
theorem dX6_put_44 : decode cX6_put 44 = .ok (.getfield 27, 3) := by decide +kernel
theorem dX6_put_47 : decode cX6_put 47 = .ok (.invokevirtual 147, 3) := by decide +kernel
theorem dX6_put_50 : decode cX6_put 50 = .ok (.aload_n 0, 1) := by decide +kernel
theorem dX6_put_51 : decode cX6_put 51 = .ok (.getfield 27, 3) := by decide +kernel
theorem dX6_put_54 : decode cX6_put 54 = .ok (.iload_n 1, 1) := by decide +kernel
theorem dX6_put_55 : decode cX6_put 55 = .ok (.iload_n 2, 1) := by decide +kernel
theorem dX6_put_56 : decode cX6_put 56 = .ok (.iload_n 3, 1) := by decide +kernel
theorem dX6_put_57 : decode cX6_put 57 = .ok (.invokevirtual 151, 3) := by decide +kernel
theorem dX6_put_60 : decode cX6_put 60 = .ok (.aload_n 0, 1) := by decide +kernel
theorem dX6_put_61 : decode cX6_put 61 = .ok (.getfield 20, 3) := by decide +kernel
theorem dX6_put_64 : decode cX6_put 64 = .ok (.invokevirtual 155, 3) := by decide +kernel
theorem dX6_put_67 : decode cX6_put 67 = .ok (.aload_n 0, 1) := by decide +kernel
theorem dX6_put_68 : decode cX6_put 68 = .ok (.getfield 27, 3) := by decide +kernel
theorem dX6_put_71 : decode cX6_put 71 = .ok (.getfield 62, 3) := by decide +kernel
theorem dX6_put_74 : decode cX6_put 74 = .ok (.iconst 1, 1) := by decide +kernel
theorem dX6_put_75 : decode cX6_put 75 = .ok (.isub, 1) := by decide +kernel
theorem dX6_put_76 : decode cX6_put 76 = .ok (.ireturn, 1) := by decide +kernel
theorem dX6_take_0 : decode cX6_take 0 = .ok (.aload_n 0, 1) := by decide +kernel
theorem dX6_take_1 : decode cX6_take 1 = .ok (.getfield 27, 3) := by decide +kernel
theorem dX6_take_4 : decode cX6_take 4 = .ok (.iload_n 1, 1) := by decide +kernel
theorem dX6_take_5 : decode cX6_take 5 = .ok (.invokevirtual 100, 3) := by decide +kernel
theorem dX6_take_8 : decode cX6_take 8 = .ok (.ifCond .ne 6, 3) := by decide +kernel
theorem dX6_take_11 : decode cX6_take 11 = .ok (.ldc 104, 2) := by decide +kernel
theorem dX6_take_13 : decode cX6_take 13 = .ok (.ireturn, 1) := by decide +kernel
theorem dX6_take_14 : decode cX6_take 14 = .ok (.aload_n 0, 1) := by decide +kernel
theorem dX6_take_15 : decode cX6_take 15 = .ok (.getfield 40, 3) := by decide +kernel
theorem dX6_take_18 : decode cX6_take 18 = .ok (.aload_n 0, 1) := by decide +kernel
theorem dX6_take_19 : decode cX6_take 19 = .ok (.getfield 27, 3) := by decide +kernel
theorem dX6_take_22 : decode cX6_take 22 = .ok (.invokevirtual 147, 3) := by decide +kernel
theorem dX6_take_25 : decode cX6_take 25 = .ok (.aload_n 0, 1) := by decide +kernel
theorem dX6_take_26 : decode cX6_take 26 = .ok (.getfield 27, 3) := by decide +kernel
theorem dX6_take_29 : decode cX6_take 29 = .ok (.iload_n 1, 1) := by decide +kernel
theorem dX6_take_30 : decode cX6_take 30 = .ok (.invokevirtual 158, 3) := by decide +kernel
theorem dX6_take_33 : decode cX6_take 33 = .ok (.aload_n 0, 1) := by decide +kernel
theorem dX6_take_34 : decode cX6_take 34 = .ok (.getfield 20, 3) := by decide +kernel
theorem dX6_take_37 : decode cX6_take 37 = .ok (.invokevirtual 155, 3) := by decide +kernel
theorem dX6_take_40 : decode cX6_take 40 = .ok (.aload_n 0, 1) := by decide +kernel
theorem dX6_take_41 : decode cX6_take 41 = .ok (.getfield 27, 3) := by decide +kernel
theorem dX6_take_44 : decode cX6_take 44 = .ok (.getfield 62, 3) := by decide +kernel
theorem dX6_take_47 : decode cX6_take 47 = .ok (.ireturn, 1) := by decide +kernel
theorem dX6_change_0 : decode cX6_change 0 = .ok (.aload_n 0, 1) := by decide +kernel
theorem dX6_change_1 : decode cX6_change 1 = .ok (.getfield 27, 3) := by decide +kernel
theorem dX6_change_4 : decode cX6_change 4 = .ok (.iload_n 1, 1) := by decide +kernel
theorem dX6_change_5 : decode cX6_change 5 = .ok (.invokevirtual 100, 3) := by decide +kernel
theorem dX6_change_8 : decode cX6_change 8 = .ok (.ifCond .ne 6, 3) := by decide +kernel
theorem dX6_change_11 : decode cX6_change 11 = .ok (.ldc 104, 2) := by decide +kernel
theorem dX6_change_13 : decode cX6_change 13 = .ok (.ireturn, 1) := by decide +kernel
theorem dX6_change_14 : decode cX6_change 14 = .ok (.iload_n 2, 1) := by decide +kernel
theorem dX6_change_15 : decode cX6_change 15 = .ok (.invokestatic 140, 3) := by decide +kernel
theorem dX6_change_18 : decode cX6_change 18 = .ok (.ifCond .eq 10, 3) := by decide +kernel
theorem dX6_change_21 : decode cX6_change 21 = .ok (.iload_n 3, 1) := by decide +kernel
theorem dX6_change_22 : decode cX6_change 22 = .ok (.invokestatic 143, 3) := by decide +kernel
theorem dX6_change_25 : decode cX6_change 25 = .ok (.ifCond .ne 6, 3) := by decide +kernel
theorem dX6_change_28 : decode cX6_change 28 = .ok (.ldc 99, 2) := by decide +kernel
theorem dX6_change_30 : decode cX6_change 30 = .ok (.ireturn, 1) := by decide +kernel
theorem dX6_change_31 : decode cX6_change 31 = .ok (.aload_n 0, 1) := by decide +kernel
theorem dX6_change_32 : decode cX6_change 32 = .ok (.getfield 20, 3) := by decide +kernel
theorem dX6_change_35 : decode cX6_change 35 = .ok (.getfield 128, 3) := by decide +kernel
theorem dX6_change_38 : decode cX6_change 38 = .ok (.iload_n 1, 1) := by decide +kernel
theorem dX6_change_39 : decode cX6_change 39 = .ok (.iaload, 1) := by decide +kernel
theorem dX6_change_40 : decode cX6_change 40 = .ok (.istore 4, 2) := by decide +kernel
theorem dX6_change_42 : decode cX6_change 42 = .ok (.aload_n 0, 1) := by decide +kernel
theorem dX6_change_43 : decode cX6_change 43 = .ok (.getfield 40, 3) := by decide +kernel
theorem dX6_change_46 : decode cX6_change 46 = .ok (.aload_n 0, 1) := by decide +kernel
theorem dX6_change_47 : decode cX6_change 47 = .ok (.getfield 27, 3) := by decide +kernel
theorem dX6_change_50 : decode cX6_change 50 = .ok (.invokevirtual 147, 3) := by decide +kernel
theorem dX6_change_53 : decode cX6_change 53 = .ok (.aload_n 0, 1) := by decide +kernel
theorem dX6_change_54 : decode cX6_change 54 = .ok (.getfield 27, 3) := by decide +kernel
theorem dX6_change_57 : decode cX6_change 57 = .ok (.getfield 109, 3) := by decide +kernel
theorem dX6_change_60 : decode cX6_change 60 = .ok (.iload_n 1, 1) := by decide +kernel
theorem dX6_change_61 : decode cX6_change 61 = .ok (.iload_n 2, 1) := by decide +kernel
theorem dX6_change_62 : decode cX6_change 62 = .ok (.iastore, 1) := by decide +kernel
theorem dX6_change_63 : decode cX6_change 63 = .ok (.aload_n 0, 1) := by decide +kernel
theorem dX6_change_64 : decode cX6_change 64 = .ok (.getfield 27, 3) := by decide +kernel
theorem dX6_change_67 : decode cX6_change 67 = .ok (.getfield 112, 3) := by decide +kernel
theorem dX6_change_70 : decode cX6_change 70 = .ok (.iload_n 1, 1) := by decide +kernel
theorem dX6_change_71 : decode cX6_change 71 = .ok (.iload_n 3, 1) := by decide +kernel
theorem dX6_change_72 : decode cX6_change 72 = .ok (.iastore, 1) := by decide +kernel
theorem dX6_change_73 : decode cX6_change 73 = .ok (.aload_n 0, 1) := by decide +kernel
theorem dX6_change_74 : decode cX6_change 74 = .ok (.getfield 20, 3) := by decide +kernel
theorem dX6_change_77 : decode cX6_change 77 = .ok (.invokevirtual 155, 3) := by decide +kernel
theorem dX6_change_80 : decode cX6_change 80 = .ok (.aload_n 0, 1) := by decide +kernel
theorem dX6_change_81 : decode cX6_change 81 = .ok (.getfield 20, 3) := by decide +kernel
theorem dX6_change_84 : decode cX6_change 84 = .ok (.getfield 128, 3) := by decide +kernel
theorem dX6_change_87 : decode cX6_change 87 = .ok (.iload_n 1, 1) := by decide +kernel
theorem dX6_change_88 : decode cX6_change 88 = .ok (.iaload, 1) := by decide +kernel
theorem dX6_change_89 : decode cX6_change 89 = .ok (.iload 4, 2) := by decide +kernel
theorem dX6_change_91 : decode cX6_change 91 = .ok (.if_icmp .ne 7, 3) := by decide +kernel
theorem dX6_change_94 : decode cX6_change 94 = .ok (.iconst 0, 1) := by decide +kernel
theorem dX6_change_95 : decode cX6_change 95 = .ok (.goto 4, 3) := by decide +kernel
theorem dX6_change_98 : decode cX6_change 98 = .ok (.iconst 1, 1) := by decide +kernel
theorem dX6_change_99 : decode cX6_change 99 = .ok (.ireturn, 1) := by decide +kernel
theorem dX6_frame_0 : decode cX6_frame 0 = .ok (.iload_n 1, 1) := by decide +kernel
theorem dX6_frame_1 : decode cX6_frame 1 = .ok (.iconst 0, 1) := by decide +kernel
theorem dX6_frame_2 : decode cX6_frame 2 = .ok (.iconst 2, 1) := by decide +kernel
theorem dX6_frame_3 : decode cX6_frame 3 = .ok (.invokestatic 162, 3) := by decide +kernel
theorem dX6_frame_6 : decode cX6_frame 6 = .ok (.ifCond .eq 27, 3) := by decide +kernel
theorem dX6_frame_9 : decode cX6_frame 9 = .ok (.iload_n 2, 1) := by decide +kernel
theorem dX6_frame_10 : decode cX6_frame 10 = .ok (.invokestatic 166, 3) := by decide +kernel
theorem dX6_frame_13 : decode cX6_frame 13 = .ok (.ifCond .eq 20, 3) := by decide +kernel
theorem dX6_frame_16 : decode cX6_frame 16 = .ok (.iload_n 3, 1) := by decide +kernel
theorem dX6_frame_17 : decode cX6_frame 17 = .ok (.invokestatic 166, 3) := by decide +kernel
theorem dX6_frame_20 : decode cX6_frame 20 = .ok (.ifCond .eq 13, 3) := by decide +kernel
theorem dX6_frame_23 : decode cX6_frame 23 = .ok (.iload 4, 2) := by decide +kernel
theorem dX6_frame_25 : decode cX6_frame 25 = .ok (.iconst 0, 1) := by decide +kernel
theorem dX6_frame_26 : decode cX6_frame 26 = .ok (.iconst 3, 1) := by decide +kernel
theorem dX6_frame_27 : decode cX6_frame 27 = .ok (.invokestatic 162, 3) := by decide +kernel
theorem dX6_frame_30 : decode cX6_frame 30 = .ok (.ifCond .ne 6, 3) := by decide +kernel
theorem dX6_frame_33 : decode cX6_frame 33 = .ok (.ldc 99, 2) := by decide +kernel
theorem dX6_frame_35 : decode cX6_frame 35 = .ok (.ireturn, 1) := by decide +kernel
theorem dX6_frame_36 : decode cX6_frame 36 = .ok (.aload_n 0, 1) := by decide +kernel
theorem dX6_frame_37 : decode cX6_frame 37 = .ok (.getfield 40, 3) := by decide +kernel
theorem dX6_frame_40 : decode cX6_frame 40 = .ok (.aload_n 0, 1) := by decide +kernel
theorem dX6_frame_41 : decode cX6_frame 41 = .ok (.getfield 27, 3) := by decide +kernel
theorem dX6_frame_44 : decode cX6_frame 44 = .ok (.invokevirtual 147, 3) := by decide +kernel
theorem dX6_frame_47 : decode cX6_frame 47 = .ok (.aload_n 0, 1) := by decide +kernel
theorem dX6_frame_48 : decode cX6_frame 48 = .ok (.getfield 27, 3) := by decide +kernel
theorem dX6_frame_51 : decode cX6_frame 51 = .ok (.iload_n 1, 1) := by decide +kernel
theorem dX6_frame_52 : decode cX6_frame 52 = .ok (.putfield 74, 3) := by decide +kernel
theorem dX6_frame_55 : decode cX6_frame 55 = .ok (.aload_n 0, 1) := by decide +kernel
theorem dX6_frame_56 : decode cX6_frame 56 = .ok (.getfield 27, 3) := by decide +kernel
theorem dX6_frame_59 : decode cX6_frame 59 = .ok (.iload_n 2, 1) := by decide +kernel
theorem dX6_frame_60 : decode cX6_frame 60 = .ok (.putfield 77, 3) := by decide +kernel
theorem dX6_frame_63 : decode cX6_frame 63 = .ok (.aload_n 0, 1) := by decide +kernel
theorem dX6_frame_64 : decode cX6_frame 64 = .ok (.getfield 27, 3) := by decide +kernel
theorem dX6_frame_67 : decode cX6_frame 67 = .ok (.iload_n 3, 1) := by decide +kernel
theorem dX6_frame_68 : decode cX6_frame 68 = .ok (.putfield 80, 3) := by decide +kernel
theorem dX6_frame_71 : decode cX6_frame 71 = .ok (.aload_n 0, 1) := by decide +kernel
theorem dX6_frame_72 : decode cX6_frame 72 = .ok (.getfield 27, 3) := by decide +kernel
theorem dX6_frame_75 : decode cX6_frame 75 = .ok (.iload 4, 2) := by decide +kernel
theorem dX6_frame_77 : decode cX6_frame 77 = .ok (.putfield 83, 3) := by decide +kernel
theorem dX6_frame_80 : decode cX6_frame 80 = .ok (.aload_n 0, 1) := by decide +kernel
theorem dX6_frame_81 : decode cX6_frame 81 = .ok (.getfield 10, 3) := by decide +kernel
theorem dX6_frame_84 : decode cX6_frame 84 = .ok (.invokevirtual 169, 3) := by decide +kernel
theorem dX6_frame_87 : decode cX6_frame 87 = .ok (.ireturn, 1) := by decide +kernel
theorem dX6_ahead_0 : decode cX6_ahead 0 = .ok (.aload_n 0, 1) := by decide +kernel
theorem dX6_ahead_1 : decode cX6_ahead 1 = .ok (.getfield 40, 3) := by decide +kernel
theorem dX6_ahead_4 : decode cX6_ahead 4 = .ok (.aload_n 0, 1) := by decide +kernel
theorem dX6_ahead_5 : decode cX6_ahead 5 = .ok (.getfield 27, 3) := by decide +kernel
theorem dX6_ahead_8 : decode cX6_ahead 8 = .ok (.invokevirtual 147, 3) := by decide +kernel
theorem dX6_ahead_11 : decode cX6_ahead 11 = .ok (.aload_n 0, 1) := by decide +kernel
theorem dX6_ahead_12 : decode cX6_ahead 12 = .ok (.getfield 34, 3) := by decide +kernel
theorem dX6_ahead_15 : decode cX6_ahead 15 = .ok (.aload_n 0, 1) := by decide +kernel
theorem dX6_ahead_16 : decode cX6_ahead 16 = .ok (.getfield 27, 3) := by decide +kernel
theorem dX6_ahead_19 : decode cX6_ahead 19 = .ok (.invokevirtual 172, 3) := by decide +kernel
theorem dX6_ahead_22 : decode cX6_ahead 22 = .ok (.aload_n 0, 1) := by decide +kernel
theorem dX6_ahead_23 : decode cX6_ahead 23 = .ok (.getfield 31, 3) := by decide +kernel
theorem dX6_ahead_26 : decode cX6_ahead 26 = .ok (.invokevirtual 155, 3) := by decide +kernel
theorem dX6_ahead_29 : decode cX6_ahead 29 = .ok (.aload_n 0, 1) := by decide +kernel
theorem dX6_ahead_30 : decode cX6_ahead 30 = .ok (.getfield 27, 3) := by decide +kernel
theorem dX6_ahead_33 : decode cX6_ahead 33 = .ok (.iload_n 1, 1) := by decide +kernel
theorem dX6_ahead_34 : decode cX6_ahead 34 = .ok (.putfield 86, 3) := by decide +kernel
theorem dX6_ahead_37 : decode cX6_ahead 37 = .ok (.aload_n 0, 1) := by decide +kernel
theorem dX6_ahead_38 : decode cX6_ahead 38 = .ok (.getfield 20, 3) := by decide +kernel
theorem dX6_ahead_41 : decode cX6_ahead 41 = .ok (.invokevirtual 155, 3) := by decide +kernel
theorem dX6_ahead_44 : decode cX6_ahead 44 = .ok (.aload_n 0, 1) := by decide +kernel
theorem dX6_ahead_45 : decode cX6_ahead 45 = .ok (.getfield 20, 3) := by decide +kernel
theorem dX6_ahead_48 : decode cX6_ahead 48 = .ok (.aload_n 0, 1) := by decide +kernel
theorem dX6_ahead_49 : decode cX6_ahead 49 = .ok (.getfield 31, 3) := by decide +kernel
theorem dX6_ahead_52 : decode cX6_ahead 52 = .ok (.invokevirtual 175, 3) := by decide +kernel
theorem dX6_ahead_55 : decode cX6_ahead 55 = .ok (.ireturn, 1) := by decide +kernel
theorem dX6_drift_0 : decode cX6_drift 0 = .ok (.iload_n 1, 1) := by decide +kernel
theorem dX6_drift_1 : decode cX6_drift 1 = .ok (.iconst 1, 1) := by decide +kernel
theorem dX6_drift_2 : decode cX6_drift 2 = .ok (.bipush 20, 2) := by decide +kernel
theorem dX6_drift_4 : decode cX6_drift 4 = .ok (.invokestatic 162, 3) := by decide +kernel
theorem dX6_drift_7 : decode cX6_drift 7 = .ok (.ifCond .ne 6, 3) := by decide +kernel
theorem dX6_drift_10 : decode cX6_drift 10 = .ok (.ldc 99, 2) := by decide +kernel
theorem dX6_drift_12 : decode cX6_drift 12 = .ok (.ireturn, 1) := by decide +kernel
theorem dX6_drift_13 : decode cX6_drift 13 = .ok (.iconst 0, 1) := by decide +kernel
theorem dX6_drift_14 : decode cX6_drift 14 = .ok (.istore_n 2, 1) := by decide +kernel
theorem dX6_drift_15 : decode cX6_drift 15 = .ok (.iload_n 2, 1) := by decide +kernel
theorem dX6_drift_16 : decode cX6_drift 16 = .ok (.iload_n 1, 1) := by decide +kernel
theorem dX6_drift_17 : decode cX6_drift 17 = .ok (.if_icmp .ge 36, 3) := by decide +kernel
theorem dX6_drift_20 : decode cX6_drift 20 = .ok (.aload_n 0, 1) := by decide +kernel
theorem dX6_drift_21 : decode cX6_drift 21 = .ok (.getfield 27, 3) := by decide +kernel
theorem dX6_drift_24 : decode cX6_drift 24 = .ok (.getfield 62, 3) := by decide +kernel
theorem dX6_drift_27 : decode cX6_drift 27 = .ok (.bipush 40, 2) := by decide +kernel
theorem dX6_drift_29 : decode cX6_drift 29 = .ok (.if_icmp .ge 24, 3) := by decide +kernel
theorem dX6_drift_32 : decode cX6_drift 32 = .ok (.aload_n 0, 1) := by decide +kernel
theorem dX6_drift_33 : decode cX6_drift 33 = .ok (.getfield 40, 3) := by decide +kernel
theorem dX6_drift_36 : decode cX6_drift 36 = .ok (.aload_n 0, 1) := by decide +kernel
theorem dX6_drift_37 : decode cX6_drift 37 = .ok (.getfield 27, 3) := by decide +kernel
theorem dX6_drift_40 : decode cX6_drift 40 = .ok (.invokevirtual 147, 3) := by decide +kernel
theorem dX6_drift_43 : decode cX6_drift 43 = .ok (.aload_n 0, 1) := by decide +kernel
theorem dX6_drift_44 : decode cX6_drift 44 = .ok (.invokevirtual 179, 3) := by decide +kernel
theorem dX6_drift_47 : decode cX6_drift 47 = .ok (.iinc 2 1, 3) := by decide +kernel
theorem dX6_drift_50 : decode cX6_drift 50 = .ok (.goto (-35), 3) := by decide +kernel
theorem dX6_drift_53 : decode cX6_drift 53 = .ok (.aload_n 0, 1) := by decide +kernel
theorem dX6_drift_54 : decode cX6_drift 54 = .ok (.getfield 20, 3) := by decide +kernel
theorem dX6_drift_57 : decode cX6_drift 57 = .ok (.invokevirtual 155, 3) := by decide +kernel
theorem dX6_drift_60 : decode cX6_drift 60 = .ok (.aload_n 0, 1) := by decide +kernel
theorem dX6_drift_61 : decode cX6_drift 61 = .ok (.getfield 27, 3) := by decide +kernel
theorem dX6_drift_64 : decode cX6_drift 64 = .ok (.getfield 62, 3) := by decide +kernel
theorem dX6_drift_67 : decode cX6_drift 67 = .ok (.ireturn, 1) := by decide +kernel
theorem dX6_undo_0 : decode cX6_undo 0 = .ok (.iload_n 1, 1) := by decide +kernel
theorem dX6_undo_1 : decode cX6_undo 1 = .ok (.iconst 1, 1) := by decide +kernel
theorem dX6_undo_2 : decode cX6_undo 2 = .ok (.bipush 20, 2) := by decide +kernel
theorem dX6_undo_4 : decode cX6_undo 4 = .ok (.invokestatic 162, 3) := by decide +kernel
theorem dX6_undo_7 : decode cX6_undo 7 = .ok (.ifCond .ne 6, 3) := by decide +kernel
theorem dX6_undo_10 : decode cX6_undo 10 = .ok (.ldc 99, 2) := by decide +kernel
theorem dX6_undo_12 : decode cX6_undo 12 = .ok (.ireturn, 1) := by decide +kernel
theorem dX6_undo_13 : decode cX6_undo 13 = .ok (.iload_n 1, 1) := by decide +kernel
theorem dX6_undo_14 : decode cX6_undo 14 = .ok (.aload_n 0, 1) := by decide +kernel
theorem dX6_undo_15 : decode cX6_undo 15 = .ok (.getfield 40, 3) := by decide +kernel
theorem dX6_undo_18 : decode cX6_undo 18 = .ok (.getfield 98, 3) := by decide +kernel
theorem dX6_undo_21 : decode cX6_undo 21 = .ok (.if_icmp .le 6, 3) := by decide +kernel
theorem dX6_undo_24 : decode cX6_undo 24 = .ok (.ldc 182, 2) := by decide +kernel
theorem dX6_undo_26 : decode cX6_undo 26 = .ok (.ireturn, 1) := by decide +kernel
theorem dX6_undo_27 : decode cX6_undo 27 = .ok (.aload_n 0, 1) := by decide +kernel
theorem dX6_undo_28 : decode cX6_undo 28 = .ok (.getfield 40, 3) := by decide +kernel
theorem dX6_undo_31 : decode cX6_undo 31 = .ok (.iload_n 1, 1) := by decide +kernel
theorem dX6_undo_32 : decode cX6_undo 32 = .ok (.aload_n 0, 1) := by decide +kernel
theorem dX6_undo_33 : decode cX6_undo 33 = .ok (.getfield 27, 3) := by decide +kernel
theorem dX6_undo_36 : decode cX6_undo 36 = .ok (.invokevirtual 183, 3) := by decide +kernel
theorem dX6_undo_39 : decode cX6_undo 39 = .ok (.aload_n 0, 1) := by decide +kernel
theorem dX6_undo_40 : decode cX6_undo 40 = .ok (.getfield 20, 3) := by decide +kernel
theorem dX6_undo_43 : decode cX6_undo 43 = .ok (.invokevirtual 155, 3) := by decide +kernel
theorem dX6_undo_46 : decode cX6_undo 46 = .ok (.aload_n 0, 1) := by decide +kernel
theorem dX6_undo_47 : decode cX6_undo 47 = .ok (.getfield 27, 3) := by decide +kernel
theorem dX6_undo_50 : decode cX6_undo 50 = .ok (.getfield 62, 3) := by decide +kernel
theorem dX6_undo_53 : decode cX6_undo 53 = .ok (.ireturn, 1) := by decide +kernel
theorem dX6_of_0 : decode cX6_of 0 = .ok (.aload_n 0, 1) := by decide +kernel
theorem dX6_of_1 : decode cX6_of 1 = .ok (.getfield 27, 3) := by decide +kernel
theorem dX6_of_4 : decode cX6_of 4 = .ok (.iload_n 1, 1) := by decide +kernel
theorem dX6_of_5 : decode cX6_of 5 = .ok (.invokevirtual 100, 3) := by decide +kernel
theorem dX6_of_8 : decode cX6_of 8 = .ok (.ifCond .ne 6, 3) := by decide +kernel
theorem dX6_of_11 : decode cX6_of 11 = .ok (.ldc 104, 2) := by decide +kernel
theorem dX6_of_13 : decode cX6_of 13 = .ok (.ireturn, 1) := by decide +kernel
theorem dX6_of_14 : decode cX6_of 14 = .ok (.iload_n 2, 1) := by decide +kernel
theorem dX6_of_15 : decode cX6_of 15 = .ok (.invokestatic 187, 3) := by decide +kernel
theorem dX6_of_18 : decode cX6_of 18 = .ok (.ifCond .ne 6, 3) := by decide +kernel
theorem dX6_of_21 : decode cX6_of 21 = .ok (.ldc 99, 2) := by decide +kernel
theorem dX6_of_23 : decode cX6_of 23 = .ok (.ireturn, 1) := by decide +kernel
theorem dX6_of_24 : decode cX6_of 24 = .ok (.aload_n 0, 1) := by decide +kernel
theorem dX6_of_25 : decode cX6_of 25 = .ok (.getfield 10, 3) := by decide +kernel
theorem dX6_of_28 : decode cX6_of 28 = .ok (.iload_n 1, 1) := by decide +kernel
theorem dX6_of_29 : decode cX6_of 29 = .ok (.iload_n 2, 1) := by decide +kernel
theorem dX6_of_30 : decode cX6_of 30 = .ok (.invokevirtual 190, 3) := by decide +kernel
theorem dX6_of_33 : decode cX6_of 33 = .ok (.ireturn, 1) := by decide +kernel
theorem dX6_rows_0 : decode cX6_rows 0 = .ok (.aload_n 0, 1) := by decide +kernel
theorem dX6_rows_1 : decode cX6_rows 1 = .ok (.getfield 10, 3) := by decide +kernel
theorem dX6_rows_4 : decode cX6_rows 4 = .ok (.iload_n 1, 1) := by decide +kernel
theorem dX6_rows_5 : decode cX6_rows 5 = .ok (.invokevirtual 194, 3) := by decide +kernel
theorem dX6_rows_8 : decode cX6_rows 8 = .ok (.lreturn, 1) := by decide +kernel
theorem dX6_inFrame_0 : decode cX6_inFrame 0 = .ok (.aload_n 0, 1) := by decide +kernel
theorem dX6_inFrame_1 : decode cX6_inFrame 1 = .ok (.getfield 27, 3) := by decide +kernel
theorem dX6_inFrame_4 : decode cX6_inFrame 4 = .ok (.iload_n 1, 1) := by decide +kernel
theorem dX6_inFrame_5 : decode cX6_inFrame 5 = .ok (.invokevirtual 100, 3) := by decide +kernel
theorem dX6_inFrame_8 : decode cX6_inFrame 8 = .ok (.ifCond .ne 6, 3) := by decide +kernel
theorem dX6_inFrame_11 : decode cX6_inFrame 11 = .ok (.ldc 104, 2) := by decide +kernel
theorem dX6_inFrame_13 : decode cX6_inFrame 13 = .ok (.ireturn, 1) := by decide +kernel
theorem dX6_inFrame_14 : decode cX6_inFrame 14 = .ok (.aload_n 0, 1) := by decide +kernel
theorem dX6_inFrame_15 : decode cX6_inFrame 15 = .ok (.getfield 10, 3) := by decide +kernel
theorem dX6_inFrame_18 : decode cX6_inFrame 18 = .ok (.iload_n 1, 1) := by decide +kernel
theorem dX6_inFrame_19 : decode cX6_inFrame 19 = .ok (.iload_n 2, 1) := by decide +kernel
theorem dX6_inFrame_20 : decode cX6_inFrame 20 = .ok (.invokevirtual 198, 3) := by decide +kernel
theorem dX6_inFrame_23 : decode cX6_inFrame 23 = .ok (.ireturn, 1) := by decide +kernel
theorem dX6_heap_0 : decode cX6_heap 0 = .ok (.aload_n 0, 1) := by decide +kernel
theorem dX6_heap_1 : decode cX6_heap 1 = .ok (.getfield 27, 3) := by decide +kernel
theorem dX6_heap_4 : decode cX6_heap 4 = .ok (.iload_n 1, 1) := by decide +kernel
theorem dX6_heap_5 : decode cX6_heap 5 = .ok (.invokevirtual 100, 3) := by decide +kernel
theorem dX6_heap_8 : decode cX6_heap 8 = .ok (.ifCond .ne 6, 3) := by decide +kernel
theorem dX6_heap_11 : decode cX6_heap 11 = .ok (.ldc 104, 2) := by decide +kernel
theorem dX6_heap_13 : decode cX6_heap 13 = .ok (.ireturn, 1) := by decide +kernel
theorem dX6_heap_14 : decode cX6_heap 14 = .ok (.iload_n 2, 1) := by decide +kernel
theorem dX6_heap_15 : decode cX6_heap 15 = .ok (.iconst 1, 1) := by decide +kernel
theorem dX6_heap_16 : decode cX6_heap 16 = .ok (.bipush 20, 2) := by decide +kernel
theorem dX6_heap_18 : decode cX6_heap 18 = .ok (.invokestatic 162, 3) := by decide +kernel
theorem dX6_heap_21 : decode cX6_heap 21 = .ok (.ifCond .ne 6, 3) := by decide +kernel
theorem dX6_heap_24 : decode cX6_heap 24 = .ok (.ldc 99, 2) := by decide +kernel
theorem dX6_heap_26 : decode cX6_heap 26 = .ok (.ireturn, 1) := by decide +kernel
theorem dX6_heap_27 : decode cX6_heap 27 = .ok (.aload_n 0, 1) := by decide +kernel
theorem dX6_heap_28 : decode cX6_heap 28 = .ok (.getfield 20, 3) := by decide +kernel
theorem dX6_heap_31 : decode cX6_heap 31 = .ok (.getfield 115, 3) := by decide +kernel
theorem dX6_heap_34 : decode cX6_heap 34 = .ok (.iload_n 1, 1) := by decide +kernel
theorem dX6_heap_35 : decode cX6_heap 35 = .ok (.iaload, 1) := by decide +kernel
theorem dX6_heap_36 : decode cX6_heap 36 = .ok (.aload_n 0, 1) := by decide +kernel
theorem dX6_heap_37 : decode cX6_heap 37 = .ok (.getfield 20, 3) := by decide +kernel
theorem dX6_heap_40 : decode cX6_heap 40 = .ok (.iload_n 1, 1) := by decide +kernel
theorem dX6_heap_41 : decode cX6_heap 41 = .ok (.invokevirtual 201, 3) := by decide +kernel
theorem dX6_heap_44 : decode cX6_heap 44 = .ok (.iload_n 2, 1) := by decide +kernel
theorem dX6_heap_45 : decode cX6_heap 45 = .ok (.invokestatic 204, 3) := by decide +kernel
theorem dX6_heap_48 : decode cX6_heap 48 = .ok (.ireturn, 1) := by decide +kernel
theorem dX6_shift_0 : decode cX6_shift 0 = .ok (.aload_n 0, 1) := by decide +kernel
theorem dX6_shift_1 : decode cX6_shift 1 = .ok (.getfield 27, 3) := by decide +kernel
theorem dX6_shift_4 : decode cX6_shift 4 = .ok (.iload_n 1, 1) := by decide +kernel
theorem dX6_shift_5 : decode cX6_shift 5 = .ok (.invokevirtual 100, 3) := by decide +kernel
theorem dX6_shift_8 : decode cX6_shift 8 = .ok (.ifCond .ne 6, 3) := by decide +kernel
theorem dX6_shift_11 : decode cX6_shift 11 = .ok (.ldc 104, 2) := by decide +kernel
theorem dX6_shift_13 : decode cX6_shift 13 = .ok (.ireturn, 1) := by decide +kernel
theorem dX6_shift_14 : decode cX6_shift 14 = .ok (.iload_n 2, 1) := by decide +kernel
theorem dX6_shift_15 : decode cX6_shift 15 = .ok (.bipush (-20), 2) := by decide +kernel
theorem dX6_shift_17 : decode cX6_shift 17 = .ok (.bipush 20, 2) := by decide +kernel
theorem dX6_shift_19 : decode cX6_shift 19 = .ok (.invokestatic 162, 3) := by decide +kernel
theorem dX6_shift_22 : decode cX6_shift 22 = .ok (.ifCond .ne 6, 3) := by decide +kernel
theorem dX6_shift_25 : decode cX6_shift 25 = .ok (.ldc 99, 2) := by decide +kernel
theorem dX6_shift_27 : decode cX6_shift 27 = .ok (.ireturn, 1) := by decide +kernel
theorem dX6_shift_28 : decode cX6_shift 28 = .ok (.aload_n 0, 1) := by decide +kernel
theorem dX6_shift_29 : decode cX6_shift 29 = .ok (.getfield 20, 3) := by decide +kernel
theorem dX6_shift_32 : decode cX6_shift 32 = .ok (.aload_n 0, 1) := by decide +kernel
theorem dX6_shift_33 : decode cX6_shift 33 = .ok (.getfield 20, 3) := by decide +kernel
theorem dX6_shift_36 : decode cX6_shift 36 = .ok (.getfield 128, 3) := by decide +kernel
theorem dX6_shift_39 : decode cX6_shift 39 = .ok (.iload_n 1, 1) := by decide +kernel
theorem dX6_shift_40 : decode cX6_shift 40 = .ok (.iaload, 1) := by decide +kernel
theorem dX6_shift_41 : decode cX6_shift 41 = .ok (.iload_n 2, 1) := by decide +kernel
theorem dX6_shift_42 : decode cX6_shift 42 = .ok (.iadd, 1) := by decide +kernel
theorem dX6_shift_43 : decode cX6_shift 43 = .ok (.invokevirtual 134, 3) := by decide +kernel
theorem dX6_shift_46 : decode cX6_shift 46 = .ok (.istore_n 3, 1) := by decide +kernel
theorem dX6_shift_47 : decode cX6_shift 47 = .ok (.iload_n 3, 1) := by decide +kernel
theorem dX6_shift_48 : decode cX6_shift 48 = .ok (.iconst (-1), 1) := by decide +kernel
theorem dX6_shift_49 : decode cX6_shift 49 = .ok (.if_icmp .eq 28, 3) := by decide +kernel
theorem dX6_shift_52 : decode cX6_shift 52 = .ok (.aload_n 0, 1) := by decide +kernel
theorem dX6_shift_53 : decode cX6_shift 53 = .ok (.getfield 27, 3) := by decide +kernel
theorem dX6_shift_56 : decode cX6_shift 56 = .ok (.getfield 105, 3) := by decide +kernel
theorem dX6_shift_59 : decode cX6_shift 59 = .ok (.iload_n 3, 1) := by decide +kernel
theorem dX6_shift_60 : decode cX6_shift 60 = .ok (.iaload, 1) := by decide +kernel
theorem dX6_shift_61 : decode cX6_shift 61 = .ok (.aload_n 0, 1) := by decide +kernel
theorem dX6_shift_62 : decode cX6_shift 62 = .ok (.getfield 27, 3) := by decide +kernel
theorem dX6_shift_65 : decode cX6_shift 65 = .ok (.getfield 105, 3) := by decide +kernel
theorem dX6_shift_68 : decode cX6_shift 68 = .ok (.iload_n 1, 1) := by decide +kernel
theorem dX6_shift_69 : decode cX6_shift 69 = .ok (.iaload, 1) := by decide +kernel
theorem dX6_shift_70 : decode cX6_shift 70 = .ok (.if_icmp .ne 7, 3) := by decide +kernel
theorem dX6_shift_73 : decode cX6_shift 73 = .ok (.iload_n 3, 1) := by decide +kernel
theorem dX6_shift_74 : decode cX6_shift 74 = .ok (.goto 4, 3) := by decide +kernel
theorem dX6_shift_77 : decode cX6_shift 77 = .ok (.iconst (-1), 1) := by decide +kernel
theorem dX6_shift_78 : decode cX6_shift 78 = .ok (.ireturn, 1) := by decide +kernel
theorem dX6_best_0 : decode cX6_best 0 = .ok (.iload_n 1, 1) := by decide +kernel
theorem dX6_best_1 : decode cX6_best 1 = .ok (.invokestatic 187, 3) := by decide +kernel
theorem dX6_best_4 : decode cX6_best 4 = .ok (.ifCond .ne 6, 3) := by decide +kernel
theorem dX6_best_7 : decode cX6_best 7 = .ok (.ldc 99, 2) := by decide +kernel
theorem dX6_best_9 : decode cX6_best 9 = .ok (.ireturn, 1) := by decide +kernel
theorem dX6_best_10 : decode cX6_best 10 = .ok (.iconst (-1), 1) := by decide +kernel
theorem dX6_best_11 : decode cX6_best 11 = .ok (.istore_n 2, 1) := by decide +kernel
theorem dX6_best_12 : decode cX6_best 12 = .ok (.ldc 208, 2) := by decide +kernel
theorem dX6_best_14 : decode cX6_best 14 = .ok (.istore_n 3, 1) := by decide +kernel
theorem dX6_best_15 : decode cX6_best 15 = .ok (.iconst 0, 1) := by decide +kernel
theorem dX6_best_16 : decode cX6_best 16 = .ok (.istore 4, 2) := by decide +kernel
theorem dX6_best_18 : decode cX6_best 18 = .ok (.iload 4, 2) := by decide +kernel
theorem dX6_best_20 : decode cX6_best 20 = .ok (.aload_n 0, 1) := by decide +kernel
theorem dX6_best_21 : decode cX6_best 21 = .ok (.getfield 27, 3) := by decide +kernel
theorem dX6_best_24 : decode cX6_best 24 = .ok (.getfield 62, 3) := by decide +kernel
theorem dX6_best_27 : decode cX6_best 27 = .ok (.if_icmp .ge 49, 3) := by decide +kernel
theorem dX6_best_30 : decode cX6_best 30 = .ok (.aload_n 0, 1) := by decide +kernel
theorem dX6_best_31 : decode cX6_best 31 = .ok (.getfield 10, 3) := by decide +kernel
theorem dX6_best_34 : decode cX6_best 34 = .ok (.iload 4, 2) := by decide +kernel
theorem dX6_best_36 : decode cX6_best 36 = .ok (.iload_n 1, 1) := by decide +kernel
theorem dX6_best_37 : decode cX6_best 37 = .ok (.invokevirtual 190, 3) := by decide +kernel
theorem dX6_best_40 : decode cX6_best 40 = .ok (.istore 5, 2) := by decide +kernel
theorem dX6_best_42 : decode cX6_best 42 = .ok (.iload 5, 2) := by decide +kernel
theorem dX6_best_44 : decode cX6_best 44 = .ok (.ldc 209, 2) := by decide +kernel
theorem dX6_best_46 : decode cX6_best 46 = .ok (.if_icmp .ne 8, 3) := by decide +kernel
theorem dX6_best_49 : decode cX6_best 49 = .ok (.ldc 210, 2) := by decide +kernel
theorem dX6_best_51 : decode cX6_best 51 = .ok (.goto 5, 3) := by decide +kernel
theorem dX6_best_54 : decode cX6_best 54 = .ok (.iload 5, 2) := by decide +kernel
theorem dX6_best_56 : decode cX6_best 56 = .ok (.istore 6, 2) := by decide +kernel
theorem dX6_best_58 : decode cX6_best 58 = .ok (.iload 6, 2) := by decide +kernel
theorem dX6_best_60 : decode cX6_best 60 = .ok (.iload_n 3, 1) := by decide +kernel
theorem dX6_best_61 : decode cX6_best 61 = .ok (.if_icmp .le 9, 3) := by decide +kernel
theorem dX6_best_64 : decode cX6_best 64 = .ok (.iload 6, 2) := by decide +kernel
theorem dX6_best_66 : decode cX6_best 66 = .ok (.istore_n 3, 1) := by decide +kernel
theorem dX6_best_67 : decode cX6_best 67 = .ok (.iload 4, 2) := by decide +kernel
theorem dX6_best_69 : decode cX6_best 69 = .ok (.istore_n 2, 1) := by decide +kernel
theorem dX6_best_70 : decode cX6_best 70 = .ok (.iinc 4 1, 3) := by decide +kernel
theorem dX6_best_73 : decode cX6_best 73 = .ok (.goto (-55), 3) := by decide +kernel
theorem dX6_best_76 : decode cX6_best 76 = .ok (.iload_n 2, 1) := by decide +kernel
theorem dX6_best_77 : decode cX6_best 77 = .ok (.ireturn, 1) := by decide +kernel
theorem dX6_would_0 : decode cX6_would 0 = .ok (.iload_n 1, 1) := by decide +kernel
theorem dX6_would_1 : decode cX6_would 1 = .ok (.invokestatic 137, 3) := by decide +kernel
theorem dX6_would_4 : decode cX6_would 4 = .ok (.ifCond .eq 10, 3) := by decide +kernel
theorem dX6_would_7 : decode cX6_would 7 = .ok (.iload_n 2, 1) := by decide +kernel
theorem dX6_would_8 : decode cX6_would 8 = .ok (.invokestatic 140, 3) := by decide +kernel
theorem dX6_would_11 : decode cX6_would 11 = .ok (.ifCond .ne 6, 3) := by decide +kernel
theorem dX6_would_14 : decode cX6_would 14 = .ok (.ldc 99, 2) := by decide +kernel
theorem dX6_would_16 : decode cX6_would 16 = .ok (.ireturn, 1) := by decide +kernel
theorem dX6_would_17 : decode cX6_would 17 = .ok (.iconst 0, 1) := by decide +kernel
theorem dX6_would_18 : decode cX6_would 18 = .ok (.istore_n 3, 1) := by decide +kernel
theorem dX6_would_19 : decode cX6_would 19 = .ok (.iconst 0, 1) := by decide +kernel
theorem dX6_would_20 : decode cX6_would 20 = .ok (.istore 4, 2) := by decide +kernel
theorem dX6_would_22 : decode cX6_would 22 = .ok (.iload 4, 2) := by decide +kernel
theorem dX6_would_24 : decode cX6_would 24 = .ok (.aload_n 0, 1) := by decide +kernel
theorem dX6_would_25 : decode cX6_would 25 = .ok (.getfield 27, 3) := by decide +kernel
theorem dX6_would_28 : decode cX6_would 28 = .ok (.getfield 62, 3) := by decide +kernel
theorem dX6_would_31 : decode cX6_would 31 = .ok (.if_icmp .ge 26, 3) := by decide +kernel
theorem dX6_would_34 : decode cX6_would 34 = .ok (.aload_n 0, 1) := by decide +kernel
theorem dX6_would_35 : decode cX6_would 35 = .ok (.getfield 27, 3) := by decide +kernel
theorem dX6_would_38 : decode cX6_would 38 = .ok (.iload_n 1, 1) := by decide +kernel
theorem dX6_would_39 : decode cX6_would 39 = .ok (.iload_n 2, 1) := by decide +kernel
theorem dX6_would_40 : decode cX6_would 40 = .ok (.iload 4, 2) := by decide +kernel
theorem dX6_would_42 : decode cX6_would 42 = .ok (.invokevirtual 211, 3) := by decide +kernel
theorem dX6_would_45 : decode cX6_would 45 = .ok (.ifCond .ne 6, 3) := by decide +kernel
theorem dX6_would_48 : decode cX6_would 48 = .ok (.iinc 3 1, 3) := by decide +kernel
theorem dX6_would_51 : decode cX6_would 51 = .ok (.iinc 4 1, 3) := by decide +kernel
theorem dX6_would_54 : decode cX6_would 54 = .ok (.goto (-32), 3) := by decide +kernel
theorem dX6_would_57 : decode cX6_would 57 = .ok (.iload_n 3, 1) := by decide +kernel
theorem dX6_would_58 : decode cX6_would 58 = .ok (.ireturn, 1) := by decide +kernel
theorem dX6_write_0 : decode cX6_write 0 = .ok (.aload_n 0, 1) := by decide +kernel
theorem dX6_write_1 : decode cX6_write 1 = .ok (.getfield 27, 3) := by decide +kernel
theorem dX6_write_4 : decode cX6_write 4 = .ok (.iload_n 1, 1) := by decide +kernel
theorem dX6_write_5 : decode cX6_write 5 = .ok (.invokevirtual 100, 3) := by decide +kernel
theorem dX6_write_8 : decode cX6_write 8 = .ok (.ifCond .ne 6, 3) := by decide +kernel
theorem dX6_write_11 : decode cX6_write 11 = .ok (.ldc 104, 2) := by decide +kernel
theorem dX6_write_13 : decode cX6_write 13 = .ok (.ireturn, 1) := by decide +kernel
theorem dX6_write_14 : decode cX6_write 14 = .ok (.iload_n 2, 1) := by decide +kernel
theorem dX6_write_15 : decode cX6_write 15 = .ok (.invokestatic 187, 3) := by decide +kernel
theorem dX6_write_18 : decode cX6_write 18 = .ok (.ifCond .ne 6, 3) := by decide +kernel
theorem dX6_write_21 : decode cX6_write 21 = .ok (.ldc 99, 2) := by decide +kernel
theorem dX6_write_23 : decode cX6_write 23 = .ok (.ireturn, 1) := by decide +kernel
theorem dX6_write_24 : decode cX6_write 24 = .ok (.aload_n 0, 1) := by decide +kernel
theorem dX6_write_25 : decode cX6_write 25 = .ok (.getfield 47, 3) := by decide +kernel
theorem dX6_write_28 : decode cX6_write 28 = .ok (.getfield 93, 3) := by decide +kernel
theorem dX6_write_31 : decode cX6_write 31 = .ok (.bipush 20, 2) := by decide +kernel
theorem dX6_write_33 : decode cX6_write 33 = .ok (.if_icmp .lt 6, 3) := by decide +kernel
theorem dX6_write_36 : decode cX6_write 36 = .ok (.ldc 146, 2) := by decide +kernel
theorem dX6_write_38 : decode cX6_write 38 = .ok (.ireturn, 1) := by decide +kernel
theorem dX6_write_39 : decode cX6_write 39 = .ok (.aload_n 0, 1) := by decide +kernel
theorem dX6_write_40 : decode cX6_write 40 = .ok (.getfield 47, 3) := by decide +kernel
theorem dX6_write_43 : decode cX6_write 43 = .ok (.iload_n 1, 1) := by decide +kernel
theorem dX6_write_44 : decode cX6_write 44 = .ok (.iload_n 2, 1) := by decide +kernel
theorem dX6_write_45 : decode cX6_write 45 = .ok (.iload_n 3, 1) := by decide +kernel
theorem dX6_write_46 : decode cX6_write 46 = .ok (.invokevirtual 214, 3) := by decide +kernel
theorem dX6_write_49 : decode cX6_write 49 = .ok (.aload_n 0, 1) := by decide +kernel
theorem dX6_write_50 : decode cX6_write 50 = .ok (.getfield 47, 3) := by decide +kernel
theorem dX6_write_53 : decode cX6_write 53 = .ok (.getfield 93, 3) := by decide +kernel
theorem dX6_write_56 : decode cX6_write 56 = .ok (.ireturn, 1) := by decide +kernel
theorem dX6_tear_0 : decode cX6_tear 0 = .ok (.aload_n 0, 1) := by decide +kernel
theorem dX6_tear_1 : decode cX6_tear 1 = .ok (.getfield 47, 3) := by decide +kernel
theorem dX6_tear_4 : decode cX6_tear 4 = .ok (.getfield 93, 3) := by decide +kernel
theorem dX6_tear_7 : decode cX6_tear 7 = .ok (.istore_n 1, 1) := by decide +kernel
theorem dX6_tear_8 : decode cX6_tear 8 = .ok (.aload_n 0, 1) := by decide +kernel
theorem dX6_tear_9 : decode cX6_tear 9 = .ok (.getfield 47, 3) := by decide +kernel
theorem dX6_tear_12 : decode cX6_tear 12 = .ok (.iconst 0, 1) := by decide +kernel
theorem dX6_tear_13 : decode cX6_tear 13 = .ok (.putfield 93, 3) := by decide +kernel
theorem dX6_tear_16 : decode cX6_tear 16 = .ok (.iload_n 1, 1) := by decide +kernel
theorem dX6_tear_17 : decode cX6_tear 17 = .ok (.ireturn, 1) := by decide +kernel
theorem dX6_seed_0 : decode cX6_seed 0 = .ok (.iload_n 1, 1) := by decide +kernel
theorem dX6_seed_1 : decode cX6_seed 1 = .ok (.ifCond .ge 6, 3) := by decide +kernel
theorem dX6_seed_4 : decode cX6_seed 4 = .ok (.ldc 99, 2) := by decide +kernel
theorem dX6_seed_6 : decode cX6_seed 6 = .ok (.ireturn, 1) := by decide +kernel
theorem dX6_seed_7 : decode cX6_seed 7 = .ok (.aload_n 0, 1) := by decide +kernel
theorem dX6_seed_8 : decode cX6_seed 8 = .ok (.getfield 58, 3) := by decide +kernel
theorem dX6_seed_11 : decode cX6_seed 11 = .ok (.istore_n 2, 1) := by decide +kernel
theorem dX6_seed_12 : decode cX6_seed 12 = .ok (.aload_n 0, 1) := by decide +kernel
theorem dX6_seed_13 : decode cX6_seed 13 = .ok (.iload_n 1, 1) := by decide +kernel
theorem dX6_seed_14 : decode cX6_seed 14 = .ok (.putfield 58, 3) := by decide +kernel
theorem dX6_seed_17 : decode cX6_seed 17 = .ok (.iload_n 2, 1) := by decide +kernel
theorem dX6_seed_18 : decode cX6_seed 18 = .ok (.ireturn, 1) := by decide +kernel
theorem dX6_keep_0 : decode cX6_keep 0 = .ok (.iload_n 1, 1) := by decide +kernel
theorem dX6_keep_1 : decode cX6_keep 1 = .ok (.iconst 0, 1) := by decide +kernel
theorem dX6_keep_2 : decode cX6_keep 2 = .ok (.iconst 1, 1) := by decide +kernel
theorem dX6_keep_3 : decode cX6_keep 3 = .ok (.invokestatic 162, 3) := by decide +kernel
theorem dX6_keep_6 : decode cX6_keep 6 = .ok (.ifCond .ne 6, 3) := by decide +kernel
theorem dX6_keep_9 : decode cX6_keep 9 = .ok (.ldc 104, 2) := by decide +kernel
theorem dX6_keep_11 : decode cX6_keep 11 = .ok (.ireturn, 1) := by decide +kernel
theorem dX6_keep_12 : decode cX6_keep 12 = .ok (.aload_n 0, 1) := by decide +kernel
theorem dX6_keep_13 : decode cX6_keep 13 = .ok (.getfield 53, 3) := by decide +kernel
theorem dX6_keep_16 : decode cX6_keep 16 = .ok (.iload_n 1, 1) := by decide +kernel
theorem dX6_keep_17 : decode cX6_keep 17 = .ok (.aaload, 1) := by decide +kernel
theorem dX6_keep_18 : decode cX6_keep 18 = .ok (.getfield 217, 3) := by decide +kernel
theorem dX6_keep_21 : decode cX6_keep 21 = .ok (.aload_n 0, 1) := by decide +kernel
theorem dX6_keep_22 : decode cX6_keep 22 = .ok (.getfield 27, 3) := by decide +kernel
theorem dX6_keep_25 : decode cX6_keep 25 = .ok (.invokevirtual 172, 3) := by decide +kernel
theorem dX6_keep_28 : decode cX6_keep 28 = .ok (.aload_n 0, 1) := by decide +kernel
theorem dX6_keep_29 : decode cX6_keep 29 = .ok (.getfield 53, 3) := by decide +kernel
theorem dX6_keep_32 : decode cX6_keep 32 = .ok (.iload_n 1, 1) := by decide +kernel
theorem dX6_keep_33 : decode cX6_keep 33 = .ok (.aaload, 1) := by decide +kernel
theorem dX6_keep_34 : decode cX6_keep 34 = .ok (.aload_n 0, 1) := by decide +kernel
theorem dX6_keep_35 : decode cX6_keep 35 = .ok (.getfield 58, 3) := by decide +kernel
theorem dX6_keep_38 : decode cX6_keep 38 = .ok (.putfield 218, 3) := by decide +kernel
theorem dX6_keep_41 : decode cX6_keep 41 = .ok (.aload_n 0, 1) := by decide +kernel
theorem dX6_keep_42 : decode cX6_keep 42 = .ok (.getfield 53, 3) := by decide +kernel
theorem dX6_keep_45 : decode cX6_keep 45 = .ok (.iload_n 1, 1) := by decide +kernel
theorem dX6_keep_46 : decode cX6_keep 46 = .ok (.aaload, 1) := by decide +kernel
theorem dX6_keep_47 : decode cX6_keep 47 = .ok (.iconst 1, 1) := by decide +kernel
theorem dX6_keep_48 : decode cX6_keep 48 = .ok (.putfield 219, 3) := by decide +kernel
theorem dX6_keep_51 : decode cX6_keep 51 = .ok (.aload_n 0, 1) := by decide +kernel
theorem dX6_keep_52 : decode cX6_keep 52 = .ok (.getfield 40, 3) := by decide +kernel
theorem dX6_keep_55 : decode cX6_keep 55 = .ok (.invokevirtual 222, 3) := by decide +kernel
theorem dX6_keep_58 : decode cX6_keep 58 = .ok (.iconst 1, 1) := by decide +kernel
theorem dX6_keep_59 : decode cX6_keep 59 = .ok (.ireturn, 1) := by decide +kernel
theorem dX6_goBack_0 : decode cX6_goBack 0 = .ok (.iload_n 1, 1) := by decide +kernel
theorem dX6_goBack_1 : decode cX6_goBack 1 = .ok (.iconst 0, 1) := by decide +kernel
theorem dX6_goBack_2 : decode cX6_goBack 2 = .ok (.iconst 1, 1) := by decide +kernel
theorem dX6_goBack_3 : decode cX6_goBack 3 = .ok (.invokestatic 162, 3) := by decide +kernel
theorem dX6_goBack_6 : decode cX6_goBack 6 = .ok (.ifCond .ne 6, 3) := by decide +kernel
theorem dX6_goBack_9 : decode cX6_goBack 9 = .ok (.ldc 104, 2) := by decide +kernel
theorem dX6_goBack_11 : decode cX6_goBack 11 = .ok (.ireturn, 1) := by decide +kernel
theorem dX6_goBack_12 : decode cX6_goBack 12 = .ok (.aload_n 0, 1) := by decide +kernel
theorem dX6_goBack_13 : decode cX6_goBack 13 = .ok (.getfield 53, 3) := by decide +kernel
theorem dX6_goBack_16 : decode cX6_goBack 16 = .ok (.iload_n 1, 1) := by decide +kernel
theorem dX6_goBack_17 : decode cX6_goBack 17 = .ok (.aaload, 1) := by decide +kernel
theorem dX6_goBack_18 : decode cX6_goBack 18 = .ok (.getfield 219, 3) := by decide +kernel
theorem dX6_goBack_21 : decode cX6_goBack 21 = .ok (.ifCond .ne 6, 3) := by decide +kernel
theorem dX6_goBack_24 : decode cX6_goBack 24 = .ok (.ldc 182, 2) := by decide +kernel
theorem dX6_goBack_26 : decode cX6_goBack 26 = .ok (.ireturn, 1) := by decide +kernel
theorem dX6_goBack_27 : decode cX6_goBack 27 = .ok (.aload_n 0, 1) := by decide +kernel
theorem dX6_goBack_28 : decode cX6_goBack 28 = .ok (.getfield 27, 3) := by decide +kernel
theorem dX6_goBack_31 : decode cX6_goBack 31 = .ok (.aload_n 0, 1) := by decide +kernel
theorem dX6_goBack_32 : decode cX6_goBack 32 = .ok (.getfield 53, 3) := by decide +kernel
theorem dX6_goBack_35 : decode cX6_goBack 35 = .ok (.iload_n 1, 1) := by decide +kernel
theorem dX6_goBack_36 : decode cX6_goBack 36 = .ok (.aaload, 1) := by decide +kernel
theorem dX6_goBack_37 : decode cX6_goBack 37 = .ok (.getfield 217, 3) := by decide +kernel
theorem dX6_goBack_40 : decode cX6_goBack 40 = .ok (.invokevirtual 172, 3) := by decide +kernel
theorem dX6_goBack_43 : decode cX6_goBack 43 = .ok (.aload_n 0, 1) := by decide +kernel
theorem dX6_goBack_44 : decode cX6_goBack 44 = .ok (.aload_n 0, 1) := by decide +kernel
theorem dX6_goBack_45 : decode cX6_goBack 45 = .ok (.getfield 53, 3) := by decide +kernel
theorem dX6_goBack_48 : decode cX6_goBack 48 = .ok (.iload_n 1, 1) := by decide +kernel
theorem dX6_goBack_49 : decode cX6_goBack 49 = .ok (.aaload, 1) := by decide +kernel
theorem dX6_goBack_50 : decode cX6_goBack 50 = .ok (.getfield 218, 3) := by decide +kernel
theorem dX6_goBack_53 : decode cX6_goBack 53 = .ok (.putfield 58, 3) := by decide +kernel
theorem dX6_goBack_56 : decode cX6_goBack 56 = .ok (.aload_n 0, 1) := by decide +kernel
theorem dX6_goBack_57 : decode cX6_goBack 57 = .ok (.getfield 40, 3) := by decide +kernel
theorem dX6_goBack_60 : decode cX6_goBack 60 = .ok (.invokevirtual 222, 3) := by decide +kernel
theorem dX6_goBack_63 : decode cX6_goBack 63 = .ok (.aload_n 0, 1) := by decide +kernel
theorem dX6_goBack_64 : decode cX6_goBack 64 = .ok (.getfield 20, 3) := by decide +kernel
theorem dX6_goBack_67 : decode cX6_goBack 67 = .ok (.invokevirtual 155, 3) := by decide +kernel
theorem dX6_goBack_70 : decode cX6_goBack 70 = .ok (.iconst 1, 1) := by decide +kernel
theorem dX6_goBack_71 : decode cX6_goBack 71 = .ok (.ireturn, 1) := by decide +kernel
theorem dX6_within_0 : decode cX6_within 0 = .ok (.iload_n 0, 1) := by decide +kernel
theorem dX6_within_1 : decode cX6_within 1 = .ok (.iload_n 1, 1) := by decide +kernel
theorem dX6_within_2 : decode cX6_within 2 = .ok (.if_icmp .lt 12, 3) := by decide +kernel
theorem dX6_within_5 : decode cX6_within 5 = .ok (.iload_n 0, 1) := by decide +kernel
theorem dX6_within_6 : decode cX6_within 6 = .ok (.iload_n 2, 1) := by decide +kernel
theorem dX6_within_7 : decode cX6_within 7 = .ok (.if_icmp .gt 7, 3) := by decide +kernel
theorem dX6_within_10 : decode cX6_within 10 = .ok (.iconst 1, 1) := by decide +kernel
theorem dX6_within_11 : decode cX6_within 11 = .ok (.goto 4, 3) := by decide +kernel
theorem dX6_within_14 : decode cX6_within 14 = .ok (.iconst 0, 1) := by decide +kernel
theorem dX6_within_15 : decode cX6_within 15 = .ok (.ireturn, 1) := by decide +kernel
theorem dX6_isPart_0 : decode cX6_isPart 0 = .ok (.iload_n 0, 1) := by decide +kernel
theorem dX6_isPart_1 : decode cX6_isPart 1 = .ok (.iconst 0, 1) := by decide +kernel
theorem dX6_isPart_2 : decode cX6_isPart 2 = .ok (.iconst 5, 1) := by decide +kernel
theorem dX6_isPart_3 : decode cX6_isPart 3 = .ok (.invokestatic 162, 3) := by decide +kernel
theorem dX6_isPart_6 : decode cX6_isPart 6 = .ok (.ireturn, 1) := by decide +kernel
theorem dX6_isKey_0 : decode cX6_isKey 0 = .ok (.iload_n 0, 1) := by decide +kernel
theorem dX6_isKey_1 : decode cX6_isKey 1 = .ok (.ldc 209, 2) := by decide +kernel
theorem dX6_isKey_3 : decode cX6_isKey 3 = .ok (.if_icmp .eq 14, 3) := by decide +kernel
theorem dX6_isKey_6 : decode cX6_isKey 6 = .ok (.iload_n 0, 1) := by decide +kernel
theorem dX6_isKey_7 : decode cX6_isKey 7 = .ok (.bipush (-99), 2) := by decide +kernel
theorem dX6_isKey_9 : decode cX6_isKey 9 = .ok (.bipush 99, 2) := by decide +kernel
theorem dX6_isKey_11 : decode cX6_isKey 11 = .ok (.invokestatic 162, 3) := by decide +kernel
theorem dX6_isKey_14 : decode cX6_isKey 14 = .ok (.ifCond .eq 7, 3) := by decide +kernel
theorem dX6_isKey_17 : decode cX6_isKey 17 = .ok (.iconst 1, 1) := by decide +kernel
theorem dX6_isKey_18 : decode cX6_isKey 18 = .ok (.goto 4, 3) := by decide +kernel
theorem dX6_isKey_21 : decode cX6_isKey 21 = .ok (.iconst 0, 1) := by decide +kernel
theorem dX6_isKey_22 : decode cX6_isKey 22 = .ok (.ireturn, 1) := by decide +kernel
theorem dX6_isWorth_0 : decode cX6_isWorth 0 = .ok (.iload_n 0, 1) := by decide +kernel
theorem dX6_isWorth_1 : decode cX6_isWorth 1 = .ok (.ldc 209, 2) := by decide +kernel
theorem dX6_isWorth_3 : decode cX6_isWorth 3 = .ok (.if_icmp .eq 16, 3) := by decide +kernel
theorem dX6_isWorth_6 : decode cX6_isWorth 6 = .ok (.iload_n 0, 1) := by decide +kernel
theorem dX6_isWorth_7 : decode cX6_isWorth 7 = .ok (.sipush (-999), 3) := by decide +kernel
theorem dX6_isWorth_10 : decode cX6_isWorth 10 = .ok (.sipush 999, 3) := by decide +kernel
theorem dX6_isWorth_13 : decode cX6_isWorth 13 = .ok (.invokestatic 162, 3) := by decide +kernel
theorem dX6_isWorth_16 : decode cX6_isWorth 16 = .ok (.ifCond .eq 7, 3) := by decide +kernel
theorem dX6_isWorth_19 : decode cX6_isWorth 19 = .ok (.iconst 1, 1) := by decide +kernel
theorem dX6_isWorth_20 : decode cX6_isWorth 20 = .ok (.goto 4, 3) := by decide +kernel
theorem dX6_isWorth_23 : decode cX6_isWorth 23 = .ok (.iconst 0, 1) := by decide +kernel
theorem dX6_isWorth_24 : decode cX6_isWorth 24 = .ok (.ireturn, 1) := by decide +kernel
theorem dX6_isBound_0 : decode cX6_isBound 0 = .ok (.iload_n 0, 1) := by decide +kernel
theorem dX6_isBound_1 : decode cX6_isBound 1 = .ok (.bipush 99, 2) := by decide +kernel
theorem dX6_isBound_3 : decode cX6_isBound 3 = .ok (.if_icmp .eq 14, 3) := by decide +kernel
theorem dX6_isBound_6 : decode cX6_isBound 6 = .ok (.iload_n 0, 1) := by decide +kernel
theorem dX6_isBound_7 : decode cX6_isBound 7 = .ok (.bipush (-20), 2) := by decide +kernel
theorem dX6_isBound_9 : decode cX6_isBound 9 = .ok (.bipush 20, 2) := by decide +kernel
theorem dX6_isBound_11 : decode cX6_isBound 11 = .ok (.invokestatic 162, 3) := by decide +kernel
theorem dX6_isBound_14 : decode cX6_isBound 14 = .ok (.ifCond .eq 7, 3) := by decide +kernel
theorem dX6_isBound_17 : decode cX6_isBound 17 = .ok (.iconst 1, 1) := by decide +kernel
theorem dX6_isBound_18 : decode cX6_isBound 18 = .ok (.goto 4, 3) := by decide +kernel
theorem dX6_isBound_21 : decode cX6_isBound 21 = .ok (.iconst 0, 1) := by decide +kernel
theorem dX6_isBound_22 : decode cX6_isBound 22 = .ok (.ireturn, 1) := by decide +kernel
theorem dX6_isOfFrame_0 : decode cX6_isOfFrame 0 = .ok (.iload_n 0, 1) := by decide +kernel
theorem dX6_isOfFrame_1 : decode cX6_isOfFrame 1 = .ok (.iconst 0, 1) := by decide +kernel
theorem dX6_isOfFrame_2 : decode cX6_isOfFrame 2 = .ok (.bipush 8, 2) := by decide +kernel
theorem dX6_isOfFrame_4 : decode cX6_isOfFrame 4 = .ok (.invokestatic 162, 3) := by decide +kernel
theorem dX6_isOfFrame_7 : decode cX6_isOfFrame 7 = .ok (.ireturn, 1) := by decide +kernel
theorem dX6_heapAt_0 : decode cX6_heapAt 0 = .ok (.iload_n 2, 1) := by decide +kernel
theorem dX6_heapAt_1 : decode cX6_heapAt 1 = .ok (.iconst 1, 1) := by decide +kernel
theorem dX6_heapAt_2 : decode cX6_heapAt 2 = .ok (.if_icmp .ge 5, 3) := by decide +kernel
theorem dX6_heapAt_5 : decode cX6_heapAt 5 = .ok (.iconst (-1), 1) := by decide +kernel
theorem dX6_heapAt_6 : decode cX6_heapAt 6 = .ok (.ireturn, 1) := by decide +kernel
theorem dX6_heapAt_7 : decode cX6_heapAt 7 = .ok (.iload_n 1, 1) := by decide +kernel
theorem dX6_heapAt_8 : decode cX6_heapAt 8 = .ok (.iload_n 2, 1) := by decide +kernel
theorem dX6_heapAt_9 : decode cX6_heapAt 9 = .ok (.idiv, 1) := by decide +kernel
theorem dX6_heapAt_10 : decode cX6_heapAt 10 = .ok (.istore_n 3, 1) := by decide +kernel
theorem dX6_heapAt_11 : decode cX6_heapAt 11 = .ok (.iload_n 1, 1) := by decide +kernel
theorem dX6_heapAt_12 : decode cX6_heapAt 12 = .ok (.iload_n 2, 1) := by decide +kernel
theorem dX6_heapAt_13 : decode cX6_heapAt 13 = .ok (.irem, 1) := by decide +kernel
theorem dX6_heapAt_14 : decode cX6_heapAt 14 = .ok (.istore 4, 2) := by decide +kernel
theorem dX6_heapAt_16 : decode cX6_heapAt 16 = .ok (.iload 4, 2) := by decide +kernel
theorem dX6_heapAt_18 : decode cX6_heapAt 18 = .ok (.iload_n 3, 1) := by decide +kernel
theorem dX6_heapAt_19 : decode cX6_heapAt 19 = .ok (.iconst 1, 1) := by decide +kernel
theorem dX6_heapAt_20 : decode cX6_heapAt 20 = .ok (.iadd, 1) := by decide +kernel
theorem dX6_heapAt_21 : decode cX6_heapAt 21 = .ok (.imul, 1) := by decide +kernel
theorem dX6_heapAt_22 : decode cX6_heapAt 22 = .ok (.istore 5, 2) := by decide +kernel
theorem dX6_heapAt_24 : decode cX6_heapAt 24 = .ok (.iload_n 0, 1) := by decide +kernel
theorem dX6_heapAt_25 : decode cX6_heapAt 25 = .ok (.iload 5, 2) := by decide +kernel
theorem dX6_heapAt_27 : decode cX6_heapAt 27 = .ok (.if_icmp .lt 8, 3) := by decide +kernel
theorem dX6_heapAt_30 : decode cX6_heapAt 30 = .ok (.iload_n 3, 1) := by decide +kernel
theorem dX6_heapAt_31 : decode cX6_heapAt 31 = .ok (.iconst 1, 1) := by decide +kernel
theorem dX6_heapAt_32 : decode cX6_heapAt 32 = .ok (.if_icmp .ge 9, 3) := by decide +kernel
theorem dX6_heapAt_35 : decode cX6_heapAt 35 = .ok (.iload_n 0, 1) := by decide +kernel
theorem dX6_heapAt_36 : decode cX6_heapAt 36 = .ok (.iload_n 3, 1) := by decide +kernel
theorem dX6_heapAt_37 : decode cX6_heapAt 37 = .ok (.iconst 1, 1) := by decide +kernel
theorem dX6_heapAt_38 : decode cX6_heapAt 38 = .ok (.iadd, 1) := by decide +kernel
theorem dX6_heapAt_39 : decode cX6_heapAt 39 = .ok (.idiv, 1) := by decide +kernel
theorem dX6_heapAt_40 : decode cX6_heapAt 40 = .ok (.ireturn, 1) := by decide +kernel
theorem dX6_heapAt_41 : decode cX6_heapAt 41 = .ok (.iload 4, 2) := by decide +kernel
theorem dX6_heapAt_43 : decode cX6_heapAt 43 = .ok (.iload_n 0, 1) := by decide +kernel
theorem dX6_heapAt_44 : decode cX6_heapAt 44 = .ok (.iload 5, 2) := by decide +kernel
theorem dX6_heapAt_46 : decode cX6_heapAt 46 = .ok (.isub, 1) := by decide +kernel
theorem dX6_heapAt_47 : decode cX6_heapAt 47 = .ok (.iload_n 3, 1) := by decide +kernel
theorem dX6_heapAt_48 : decode cX6_heapAt 48 = .ok (.idiv, 1) := by decide +kernel
theorem dX6_heapAt_49 : decode cX6_heapAt 49 = .ok (.iadd, 1) := by decide +kernel
theorem dX6_heapAt_50 : decode cX6_heapAt 50 = .ok (.ireturn, 1) := by decide +kernel
theorem dX6_changedWithout_0 : decode cX6_changedWithout 0 = .ok (.aload_n 0, 1) := by decide +kernel
theorem dX6_changedWithout_1 : decode cX6_changedWithout 1 = .ok (.getfield 34, 3) := by decide +kernel
theorem dX6_changedWithout_4 : decode cX6_changedWithout 4 = .ok (.aload_n 0, 1) := by decide +kernel
theorem dX6_changedWithout_5 : decode cX6_changedWithout 5 = .ok (.getfield 27, 3) := by decide +kernel
theorem dX6_changedWithout_8 : decode cX6_changedWithout 8 = .ok (.invokevirtual 172, 3) := by decide +kernel
theorem dX6_changedWithout_11 : decode cX6_changedWithout 11 = .ok (.aload_n 0, 1) := by decide +kernel
theorem dX6_changedWithout_12 : decode cX6_changedWithout 12 = .ok (.getfield 34, 3) := by decide +kernel
theorem dX6_changedWithout_15 : decode cX6_changedWithout 15 = .ok (.iload_n 1, 1) := by decide +kernel
theorem dX6_changedWithout_16 : decode cX6_changedWithout 16 = .ok (.invokevirtual 158, 3) := by decide +kernel
theorem dX6_changedWithout_19 : decode cX6_changedWithout 19 = .ok (.aload_n 0, 1) := by decide +kernel
theorem dX6_changedWithout_20 : decode cX6_changedWithout 20 = .ok (.getfield 31, 3) := by decide +kernel
theorem dX6_changedWithout_23 : decode cX6_changedWithout 23 = .ok (.invokevirtual 155, 3) := by decide +kernel
theorem dX6_changedWithout_26 : decode cX6_changedWithout 26 = .ok (.iconst 0, 1) := by decide +kernel
theorem dX6_changedWithout_27 : decode cX6_changedWithout 27 = .ok (.istore_n 2, 1) := by decide +kernel
theorem dX6_changedWithout_28 : decode cX6_changedWithout 28 = .ok (.iconst 0, 1) := by decide +kernel
theorem dX6_changedWithout_29 : decode cX6_changedWithout 29 = .ok (.istore_n 3, 1) := by decide +kernel
theorem dX6_changedWithout_30 : decode cX6_changedWithout 30 = .ok (.iload_n 3, 1) := by decide +kernel
theorem dX6_changedWithout_31 : decode cX6_changedWithout 31 = .ok (.aload_n 0, 1) := by decide +kernel
theorem dX6_changedWithout_32 : decode cX6_changedWithout 32 = .ok (.getfield 27, 3) := by decide +kernel
theorem dX6_changedWithout_35 : decode cX6_changedWithout 35 = .ok (.getfield 62, 3) := by decide +kernel
theorem dX6_changedWithout_38 : decode cX6_changedWithout 38 = .ok (.if_icmp .ge 51, 3) := by decide +kernel
theorem dX6_changedWithout_41 : decode cX6_changedWithout 41 = .ok (.iload_n 3, 1) := by decide +kernel
theorem dX6_changedWithout_42 : decode cX6_changedWithout 42 = .ok (.iload_n 1, 1) := by decide +kernel
theorem dX6_changedWithout_43 : decode cX6_changedWithout 43 = .ok (.if_icmp .ge 7, 3) := by decide +kernel
theorem dX6_changedWithout_46 : decode cX6_changedWithout 46 = .ok (.iload_n 3, 1) := by decide +kernel
theorem dX6_changedWithout_47 : decode cX6_changedWithout 47 = .ok (.goto 6, 3) := by decide +kernel
theorem dX6_changedWithout_50 : decode cX6_changedWithout 50 = .ok (.iload_n 3, 1) := by decide +kernel
theorem dX6_changedWithout_51 : decode cX6_changedWithout 51 = .ok (.iconst 1, 1) := by decide +kernel
theorem dX6_changedWithout_52 : decode cX6_changedWithout 52 = .ok (.isub, 1) := by decide +kernel
theorem dX6_changedWithout_53 : decode cX6_changedWithout 53 = .ok (.istore 4, 2) := by decide +kernel
theorem dX6_changedWithout_55 : decode cX6_changedWithout 55 = .ok (.iload_n 3, 1) := by decide +kernel
theorem dX6_changedWithout_56 : decode cX6_changedWithout 56 = .ok (.iload_n 1, 1) := by decide +kernel
theorem dX6_changedWithout_57 : decode cX6_changedWithout 57 = .ok (.if_icmp .eq 26, 3) := by decide +kernel
theorem dX6_changedWithout_60 : decode cX6_changedWithout 60 = .ok (.aload_n 0, 1) := by decide +kernel
theorem dX6_changedWithout_61 : decode cX6_changedWithout 61 = .ok (.getfield 10, 3) := by decide +kernel
theorem dX6_changedWithout_64 : decode cX6_changedWithout 64 = .ok (.iload_n 3, 1) := by decide +kernel
theorem dX6_changedWithout_65 : decode cX6_changedWithout 65 = .ok (.invokevirtual 225, 3) := by decide +kernel
theorem dX6_changedWithout_68 : decode cX6_changedWithout 68 = .ok (.aload_n 0, 1) := by decide +kernel
theorem dX6_changedWithout_69 : decode cX6_changedWithout 69 = .ok (.getfield 28, 3) := by decide +kernel
theorem dX6_changedWithout_72 : decode cX6_changedWithout 72 = .ok (.iload 4, 2) := by decide +kernel
theorem dX6_changedWithout_74 : decode cX6_changedWithout 74 = .ok (.invokevirtual 225, 3) := by decide +kernel
theorem dX6_changedWithout_77 : decode cX6_changedWithout 77 = .ok (.if_icmp .eq 6, 3) := by decide +kernel
theorem dX6_changedWithout_80 : decode cX6_changedWithout 80 = .ok (.iinc 2 1, 3) := by decide +kernel
theorem dX6_changedWithout_83 : decode cX6_changedWithout 83 = .ok (.iinc 3 1, 3) := by decide +kernel
theorem dX6_changedWithout_86 : decode cX6_changedWithout 86 = .ok (.goto (-56), 3) := by decide +kernel
theorem dX6_changedWithout_89 : decode cX6_changedWithout 89 = .ok (.iload_n 2, 1) := by decide +kernel
theorem dX6_changedWithout_90 : decode cX6_changedWithout 90 = .ok (.ireturn, 1) := by decide +kernel
theorem dX6_addByDraws_0 : decode cX6_addByDraws 0 = .ok (.aload_n 0, 1) := by decide +kernel
theorem dX6_addByDraws_1 : decode cX6_addByDraws 1 = .ok (.iconst 3, 1) := by decide +kernel
theorem dX6_addByDraws_2 : decode cX6_addByDraws 2 = .ok (.invokevirtual 228, 3) := by decide +kernel
theorem dX6_addByDraws_5 : decode cX6_addByDraws 5 = .ok (.istore_n 1, 1) := by decide +kernel
theorem dX6_addByDraws_6 : decode cX6_addByDraws 6 = .ok (.aload_n 0, 1) := by decide +kernel
theorem dX6_addByDraws_7 : decode cX6_addByDraws 7 = .ok (.bipush 12, 2) := by decide +kernel
theorem dX6_addByDraws_9 : decode cX6_addByDraws 9 = .ok (.invokevirtual 228, 3) := by decide +kernel
theorem dX6_addByDraws_12 : decode cX6_addByDraws 12 = .ok (.istore_n 2, 1) := by decide +kernel
theorem dX6_addByDraws_13 : decode cX6_addByDraws 13 = .ok (.aload_n 0, 1) := by decide +kernel
theorem dX6_addByDraws_14 : decode cX6_addByDraws 14 = .ok (.bipush 21, 2) := by decide +kernel
theorem dX6_addByDraws_16 : decode cX6_addByDraws 16 = .ok (.invokevirtual 228, 3) := by decide +kernel
theorem dX6_addByDraws_19 : decode cX6_addByDraws 19 = .ok (.istore_n 3, 1) := by decide +kernel
theorem dX6_addByDraws_20 : decode cX6_addByDraws 20 = .ok (.aload_n 0, 1) := by decide +kernel
theorem dX6_addByDraws_21 : decode cX6_addByDraws 21 = .ok (.getfield 27, 3) := by decide +kernel
theorem dX6_addByDraws_24 : decode cX6_addByDraws 24 = .ok (.iload_n 1, 1) := by decide +kernel
theorem dX6_addByDraws_25 : decode cX6_addByDraws 25 = .ok (.iload_n 2, 1) := by decide +kernel
theorem dX6_addByDraws_26 : decode cX6_addByDraws 26 = .ok (.bipush 11, 2) := by decide +kernel
theorem dX6_addByDraws_28 : decode cX6_addByDraws 28 = .ok (.if_icmp .ne 8, 3) := by decide +kernel
theorem dX6_addByDraws_31 : decode cX6_addByDraws 31 = .ok (.ldc 209, 2) := by decide +kernel
theorem dX6_addByDraws_33 : decode cX6_addByDraws 33 = .ok (.goto 4, 3) := by decide +kernel
theorem dX6_addByDraws_36 : decode cX6_addByDraws 36 = .ok (.iload_n 2, 1) := by decide +kernel
theorem dX6_addByDraws_37 : decode cX6_addByDraws 37 = .ok (.iload_n 3, 1) := by decide +kernel
theorem dX6_addByDraws_38 : decode cX6_addByDraws 38 = .ok (.bipush 20, 2) := by decide +kernel
theorem dX6_addByDraws_40 : decode cX6_addByDraws 40 = .ok (.if_icmp .ne 8, 3) := by decide +kernel
theorem dX6_addByDraws_43 : decode cX6_addByDraws 43 = .ok (.ldc 209, 2) := by decide +kernel
theorem dX6_addByDraws_45 : decode cX6_addByDraws 45 = .ok (.goto 7, 3) := by decide +kernel
theorem dX6_addByDraws_48 : decode cX6_addByDraws 48 = .ok (.iload_n 3, 1) := by decide +kernel
theorem dX6_addByDraws_49 : decode cX6_addByDraws 49 = .ok (.bipush 10, 2) := by decide +kernel
theorem dX6_addByDraws_51 : decode cX6_addByDraws 51 = .ok (.isub, 1) := by decide +kernel
theorem dX6_addByDraws_52 : decode cX6_addByDraws 52 = .ok (.invokevirtual 151, 3) := by decide +kernel
theorem dX6_addByDraws_55 : decode cX6_addByDraws 55 = .ok (.return_, 1) := by decide +kernel
theorem dX6_draw_0 : decode cX6_draw 0 = .ok (.aload_n 0, 1) := by decide +kernel
theorem dX6_draw_1 : decode cX6_draw 1 = .ok (.aload_n 0, 1) := by decide +kernel
theorem dX6_draw_2 : decode cX6_draw 2 = .ok (.getfield 58, 3) := by decide +kernel
theorem dX6_draw_5 : decode cX6_draw 5 = .ok (.i2l, 1) := by decide +kernel
theorem dX6_draw_6 : decode cX6_draw 6 = .ok (.ldc2_w 231, 3) := by decide +kernel
theorem dX6_draw_9 : decode cX6_draw 9 = .ok (.lmul, 1) := by decide +kernel
theorem dX6_draw_10 : decode cX6_draw 10 = .ok (.ldc2_w 233, 3) := by decide +kernel
theorem dX6_draw_13 : decode cX6_draw 13 = .ok (.ladd, 1) := by decide +kernel
theorem dX6_draw_14 : decode cX6_draw 14 = .ok (.ldc2_w 235, 3) := by decide +kernel
theorem dX6_draw_17 : decode cX6_draw 17 = .ok (.land, 1) := by decide +kernel
theorem dX6_draw_18 : decode cX6_draw 18 = .ok (.l2i, 1) := by decide +kernel
theorem dX6_draw_19 : decode cX6_draw 19 = .ok (.putfield 58, 3) := by decide +kernel
theorem dX6_draw_22 : decode cX6_draw 22 = .ok (.iload_n 1, 1) := by decide +kernel
theorem dX6_draw_23 : decode cX6_draw 23 = .ok (.iconst 1, 1) := by decide +kernel
theorem dX6_draw_24 : decode cX6_draw 24 = .ok (.if_icmp .ge 7, 3) := by decide +kernel
theorem dX6_draw_27 : decode cX6_draw 27 = .ok (.iconst 0, 1) := by decide +kernel
theorem dX6_draw_28 : decode cX6_draw 28 = .ok (.goto 12, 3) := by decide +kernel
theorem dX6_draw_31 : decode cX6_draw 31 = .ok (.aload_n 0, 1) := by decide +kernel
theorem dX6_draw_32 : decode cX6_draw 32 = .ok (.getfield 58, 3) := by decide +kernel
theorem dX6_draw_35 : decode cX6_draw 35 = .ok (.ldc 237, 2) := by decide +kernel
theorem dX6_draw_37 : decode cX6_draw 37 = .ok (.idiv, 1) := by decide +kernel
theorem dX6_draw_38 : decode cX6_draw 38 = .ok (.iload_n 1, 1) := by decide +kernel
theorem dX6_draw_39 : decode cX6_draw 39 = .ok (.irem, 1) := by decide +kernel
theorem dX6_draw_40 : decode cX6_draw 40 = .ok (.ireturn, 1) := by decide +kernel
theorem dX7_init_0 : decode cX7_init 0 = .ok (.aload_n 0, 1) := by decide +kernel
theorem dX7_init_1 : decode cX7_init 1 = .ok (.invokespecial 1, 3) := by decide +kernel
theorem dX7_init_4 : decode cX7_init 4 = .ok (.aload_n 0, 1) := by decide +kernel
theorem dX7_init_5 : decode cX7_init 5 = .ok (.bipush 126, 2) := by decide +kernel
