theorem dX0_init_0 : decode cX0_init 0 = .ok (.aload_n 0, 1) := by decide +kernel
theorem dX0_init_1 : decode cX0_init 1 = .ok (.invokespecial 3, 3) := by decide +kernel
theorem dX0_init_4 : decode cX0_init 4 = .ok (.aload_n 0, 1) := by decide +kernel
theorem dX0_init_5 : decode cX0_init 5 = .ok (.bipush 20, 2) := by decide +kernel
theorem dX0_init_7 : decode cX0_init 7 = .ok (.newarray .int, 2) := by decide +kernel
theorem dX0_init_9 : decode cX0_init 9 = .ok (.putfield 9, 3) := by decide +kernel
theorem dX0_init_12 : decode cX0_init 12 = .ok (.aload_n 0, 1) := by decide +kernel
theorem dX0_init_13 : decode cX0_init 13 = .ok (.bipush 20, 2) := by decide +kernel
theorem dX0_init_15 : decode cX0_init 15 = .ok (.newarray .int, 2) := by decide +kernel
theorem dX0_init_17 : decode cX0_init 17 = .ok (.putfield 15, 3) := by decide +kernel
theorem dX0_init_20 : decode cX0_init 20 = .ok (.aload_n 0, 1) := by decide +kernel
theorem dX0_init_21 : decode cX0_init 21 = .ok (.bipush 20, 2) := by decide +kernel
theorem dX0_init_23 : decode cX0_init 23 = .ok (.newarray .int, 2) := by decide +kernel
theorem dX0_init_25 : decode cX0_init 25 = .ok (.putfield 18, 3) := by decide +kernel
theorem dX0_init_28 : decode cX0_init 28 = .ok (.aload_n 0, 1) := by decide +kernel
theorem dX0_init_29 : decode cX0_init 29 = .ok (.iconst 0, 1) := by decide +kernel
theorem dX0_init_30 : decode cX0_init 30 = .ok (.putfield 21, 3) := by decide +kernel
theorem dX0_init_33 : decode cX0_init 33 = .ok (.return_, 1) := by decide +kernel
theorem dX0_append_0 : decode cX0_append 0 = .ok (.aload_n 0, 1) := by decide +kernel
theorem dX0_append_1 : decode cX0_append 1 = .ok (.getfield 21, 3) := by decide +kernel
theorem dX0_append_4 : decode cX0_append 4 = .ok (.bipush 20, 2) := by decide +kernel
theorem dX0_append_6 : decode cX0_append 6 = .ok (.if_icmp .lt 4, 3) := by decide +kernel
theorem dX0_append_9 : decode cX0_append 9 = .ok (.return_, 1) := by decide +kernel
theorem dX0_append_10 : decode cX0_append 10 = .ok (.aload_n 0, 1) := by decide +kernel
theorem dX0_append_11 : decode cX0_append 11 = .ok (.getfield 9, 3) := by decide +kernel
theorem dX0_append_14 : decode cX0_append 14 = .ok (.aload_n 0, 1) := by decide +kernel
theorem dX0_append_15 : decode cX0_append 15 = .ok (.getfield 21, 3) := by decide +kernel
theorem dX0_append_18 : decode cX0_append 18 = .ok (.iload_n 1, 1) := by decide +kernel
theorem dX0_append_19 : decode cX0_append 19 = .ok (.iastore, 1) := by decide +kernel
theorem dX0_append_20 : decode cX0_append 20 = .ok (.aload_n 0, 1) := by decide +kernel
theorem dX0_append_21 : decode cX0_append 21 = .ok (.getfield 15, 3) := by decide +kernel
theorem dX0_append_24 : decode cX0_append 24 = .ok (.aload_n 0, 1) := by decide +kernel
theorem dX0_append_25 : decode cX0_append 25 = .ok (.getfield 21, 3) := by decide +kernel
theorem dX0_append_28 : decode cX0_append 28 = .ok (.iload_n 2, 1) := by decide +kernel
theorem dX0_append_29 : decode cX0_append 29 = .ok (.iastore, 1) := by decide +kernel
theorem dX0_append_30 : decode cX0_append 30 = .ok (.aload_n 0, 1) := by decide +kernel
theorem dX0_append_31 : decode cX0_append 31 = .ok (.getfield 18, 3) := by decide +kernel
theorem dX0_append_34 : decode cX0_append 34 = .ok (.aload_n 0, 1) := by decide +kernel
theorem dX0_append_35 : decode cX0_append 35 = .ok (.getfield 21, 3) := by decide +kernel
theorem dX0_append_38 : decode cX0_append 38 = .ok (.iload_n 3, 1) := by decide +kernel
theorem dX0_append_39 : decode cX0_append 39 = .ok (.iastore, 1) := by decide +kernel
theorem dX0_append_40 : decode cX0_append 40 = .ok (.aload_n 0, 1) := by decide +kernel
theorem dX0_append_41 : decode cX0_append 41 = .ok (.dup, 1) := by decide +kernel
theorem dX0_append_42 : decode cX0_append 42 = .ok (.getfield 21, 3) := by decide +kernel
theorem dX0_append_45 : decode cX0_append 45 = .ok (.iconst 1, 1) := by decide +kernel
theorem dX0_append_46 : decode cX0_append 46 = .ok (.iadd, 1) := by decide +kernel
theorem dX0_append_47 : decode cX0_append 47 = .ok (.putfield 21, 3) := by decide +kernel
theorem dX0_append_50 : decode cX0_append 50 = .ok (.return_, 1) := by decide +kernel
theorem dX0_firstWrong_0 : decode cX0_firstWrong 0 = .ok (.iconst 0, 1) := by decide +kernel
theorem dX0_firstWrong_1 : decode cX0_firstWrong 1 = .ok (.istore_n 2, 1) := by decide +kernel
theorem dX0_firstWrong_2 : decode cX0_firstWrong 2 = .ok (.iload_n 2, 1) := by decide +kernel
theorem dX0_firstWrong_3 : decode cX0_firstWrong 3 = .ok (.aload_n 0, 1) := by decide +kernel
theorem dX0_firstWrong_4 : decode cX0_firstWrong 4 = .ok (.getfield 21, 3) := by decide +kernel
theorem dX0_firstWrong_7 : decode cX0_firstWrong 7 = .ok (.if_icmp .ge 52, 3) := by decide +kernel
theorem dX0_firstWrong_10 : decode cX0_firstWrong 10 = .ok (.aload_n 1, 1) := by decide +kernel
theorem dX0_firstWrong_11 : decode cX0_firstWrong 11 = .ok (.getfield 25, 3) := by decide +kernel
theorem dX0_firstWrong_14 : decode cX0_firstWrong 14 = .ok (.aload_n 0, 1) := by decide +kernel
theorem dX0_firstWrong_15 : decode cX0_firstWrong 15 = .ok (.getfield 9, 3) := by decide +kernel
theorem dX0_firstWrong_18 : decode cX0_firstWrong 18 = .ok (.iload_n 2, 1) := by decide +kernel
theorem dX0_firstWrong_19 : decode cX0_firstWrong 19 = .ok (.iaload, 1) := by decide +kernel
theorem dX0_firstWrong_20 : decode cX0_firstWrong 20 = .ok (.invokevirtual 31, 3) := by decide +kernel
theorem dX0_firstWrong_23 : decode cX0_firstWrong 23 = .ok (.ifCond .eq 28, 3) := by decide +kernel
theorem dX0_firstWrong_26 : decode cX0_firstWrong 26 = .ok (.aload_n 1, 1) := by decide +kernel
theorem dX0_firstWrong_27 : decode cX0_firstWrong 27 = .ok (.aload_n 0, 1) := by decide +kernel
theorem dX0_firstWrong_28 : decode cX0_firstWrong 28 = .ok (.getfield 9, 3) := by decide +kernel
theorem dX0_firstWrong_31 : decode cX0_firstWrong 31 = .ok (.iload_n 2, 1) := by decide +kernel
theorem dX0_firstWrong_32 : decode cX0_firstWrong 32 = .ok (.iaload, 1) := by decide +kernel
theorem dX0_firstWrong_33 : decode cX0_firstWrong 33 = .ok (.aload_n 0, 1) := by decide +kernel
theorem dX0_firstWrong_34 : decode cX0_firstWrong 34 = .ok (.getfield 15, 3) := by decide +kernel
theorem dX0_firstWrong_37 : decode cX0_firstWrong 37 = .ok (.iload_n 2, 1) := by decide +kernel
theorem dX0_firstWrong_38 : decode cX0_firstWrong 38 = .ok (.iaload, 1) := by decide +kernel
theorem dX0_firstWrong_39 : decode cX0_firstWrong 39 = .ok (.invokevirtual 37, 3) := by decide +kernel
theorem dX0_firstWrong_42 : decode cX0_firstWrong 42 = .ok (.aload_n 0, 1) := by decide +kernel
theorem dX0_firstWrong_43 : decode cX0_firstWrong 43 = .ok (.getfield 18, 3) := by decide +kernel
theorem dX0_firstWrong_46 : decode cX0_firstWrong 46 = .ok (.iload_n 2, 1) := by decide +kernel
theorem dX0_firstWrong_47 : decode cX0_firstWrong 47 = .ok (.iaload, 1) := by decide +kernel
theorem dX0_firstWrong_48 : decode cX0_firstWrong 48 = .ok (.if_icmp .eq 5, 3) := by decide +kernel
theorem dX0_firstWrong_51 : decode cX0_firstWrong 51 = .ok (.iload_n 2, 1) := by decide +kernel
theorem dX0_firstWrong_52 : decode cX0_firstWrong 52 = .ok (.ireturn, 1) := by decide +kernel
theorem dX0_firstWrong_53 : decode cX0_firstWrong 53 = .ok (.iinc 2 1, 3) := by decide +kernel
theorem dX0_firstWrong_56 : decode cX0_firstWrong 56 = .ok (.goto (-54), 3) := by decide +kernel
theorem dX0_firstWrong_59 : decode cX0_firstWrong 59 = .ok (.iconst (-1), 1) := by decide +kernel
theorem dX0_firstWrong_60 : decode cX0_firstWrong 60 = .ok (.ireturn, 1) := by decide +kernel
theorem dX1_init_0 : decode cX1_init 0 = .ok (.aload_n 0, 1) := by decide +kernel
theorem dX1_init_1 : decode cX1_init 1 = .ok (.invokespecial 3, 3) := by decide +kernel
theorem dX1_init_4 : decode cX1_init 4 = .ok (.aload_n 0, 1) := by decide +kernel
theorem dX1_init_5 : decode cX1_init 5 = .ok (.bipush 20, 2) := by decide +kernel
theorem dX1_init_7 : decode cX1_init 7 = .ok (.anewarray 9, 3) := by decide +kernel
theorem dX1_init_10 : decode cX1_init 10 = .ok (.putfield 11, 3) := by decide +kernel
theorem dX1_init_13 : decode cX1_init 13 = .ok (.aload_n 0, 1) := by decide +kernel
theorem dX1_init_14 : decode cX1_init 14 = .ok (.iconst 0, 1) := by decide +kernel
theorem dX1_init_15 : decode cX1_init 15 = .ok (.putfield 17, 3) := by decide +kernel
theorem dX1_init_18 : decode cX1_init 18 = .ok (.aload_n 0, 1) := by decide +kernel
theorem dX1_init_19 : decode cX1_init 19 = .ok (.iconst 0, 1) := by decide +kernel
theorem dX1_init_20 : decode cX1_init 20 = .ok (.putfield 21, 3) := by decide +kernel
theorem dX1_init_23 : decode cX1_init 23 = .ok (.iconst 0, 1) := by decide +kernel
theorem dX1_init_24 : decode cX1_init 24 = .ok (.istore_n 1, 1) := by decide +kernel
theorem dX1_init_25 : decode cX1_init 25 = .ok (.iload_n 1, 1) := by decide +kernel
theorem dX1_init_26 : decode cX1_init 26 = .ok (.bipush 20, 2) := by decide +kernel
theorem dX1_init_28 : decode cX1_init 28 = .ok (.if_icmp .ge 22, 3) := by decide +kernel
theorem dX1_init_31 : decode cX1_init 31 = .ok (.aload_n 0, 1) := by decide +kernel
theorem dX1_init_32 : decode cX1_init 32 = .ok (.getfield 11, 3) := by decide +kernel
theorem dX1_init_35 : decode cX1_init 35 = .ok (.iload_n 1, 1) := by decide +kernel
theorem dX1_init_36 : decode cX1_init 36 = .ok (.new 9, 3) := by decide +kernel
theorem dX1_init_39 : decode cX1_init 39 = .ok (.dup, 1) := by decide +kernel
theorem dX1_init_40 : decode cX1_init 40 = .ok (.invokespecial 24, 3) := by decide +kernel
theorem dX1_init_43 : decode cX1_init 43 = .ok (.aastore, 1) := by decide +kernel
theorem dX1_init_44 : decode cX1_init 44 = .ok (.iinc 1 1, 3) := by decide +kernel
theorem dX1_init_47 : decode cX1_init 47 = .ok (.goto (-22), 3) := by decide +kernel
theorem dX1_init_50 : decode cX1_init 50 = .ok (.return_, 1) := by decide +kernel
theorem dX1_remember_0 : decode cX1_remember 0 = .ok (.aload_n 0, 1) := by decide +kernel
theorem dX1_remember_1 : decode cX1_remember 1 = .ok (.getfield 11, 3) := by decide +kernel
theorem dX1_remember_4 : decode cX1_remember 4 = .ok (.aload_n 0, 1) := by decide +kernel
theorem dX1_remember_5 : decode cX1_remember 5 = .ok (.getfield 17, 3) := by decide +kernel
theorem dX1_remember_8 : decode cX1_remember 8 = .ok (.aaload, 1) := by decide +kernel
theorem dX1_remember_9 : decode cX1_remember 9 = .ok (.aload_n 1, 1) := by decide +kernel
theorem dX1_remember_10 : decode cX1_remember 10 = .ok (.invokevirtual 25, 3) := by decide +kernel
theorem dX1_remember_13 : decode cX1_remember 13 = .ok (.aload_n 0, 1) := by decide +kernel
theorem dX1_remember_14 : decode cX1_remember 14 = .ok (.aload_n 0, 1) := by decide +kernel
theorem dX1_remember_15 : decode cX1_remember 15 = .ok (.getfield 17, 3) := by decide +kernel
theorem dX1_remember_18 : decode cX1_remember 18 = .ok (.iconst 1, 1) := by decide +kernel
theorem dX1_remember_19 : decode cX1_remember 19 = .ok (.iadd, 1) := by decide +kernel
theorem dX1_remember_20 : decode cX1_remember 20 = .ok (.bipush 20, 2) := by decide +kernel
theorem dX1_remember_22 : decode cX1_remember 22 = .ok (.irem, 1) := by decide +kernel
theorem dX1_remember_23 : decode cX1_remember 23 = .ok (.putfield 17, 3) := by decide +kernel
theorem dX1_remember_26 : decode cX1_remember 26 = .ok (.aload_n 0, 1) := by decide +kernel
theorem dX1_remember_27 : decode cX1_remember 27 = .ok (.aload_n 0, 1) := by decide +kernel
theorem dX1_remember_28 : decode cX1_remember 28 = .ok (.getfield 21, 3) := by decide +kernel
theorem dX1_remember_31 : decode cX1_remember 31 = .ok (.iconst 1, 1) := by decide +kernel
theorem dX1_remember_32 : decode cX1_remember 32 = .ok (.iadd, 1) := by decide +kernel
theorem dX1_remember_33 : decode cX1_remember 33 = .ok (.bipush 20, 2) := by decide +kernel
theorem dX1_remember_35 : decode cX1_remember 35 = .ok (.invokestatic 29, 3) := by decide +kernel
theorem dX1_remember_38 : decode cX1_remember 38 = .ok (.putfield 21, 3) := by decide +kernel
theorem dX1_remember_41 : decode cX1_remember 41 = .ok (.return_, 1) := by decide +kernel
theorem dX1_restore_0 : decode cX1_restore 0 = .ok (.iload_n 1, 1) := by decide +kernel
theorem dX1_restore_1 : decode cX1_restore 1 = .ok (.iconst 1, 1) := by decide +kernel
theorem dX1_restore_2 : decode cX1_restore 2 = .ok (.if_icmp .lt 11, 3) := by decide +kernel
theorem dX1_restore_5 : decode cX1_restore 5 = .ok (.iload_n 1, 1) := by decide +kernel
theorem dX1_restore_6 : decode cX1_restore 6 = .ok (.aload_n 0, 1) := by decide +kernel
theorem dX1_restore_7 : decode cX1_restore 7 = .ok (.getfield 21, 3) := by decide +kernel
theorem dX1_restore_10 : decode cX1_restore 10 = .ok (.if_icmp .le 4, 3) := by decide +kernel
theorem dX1_restore_13 : decode cX1_restore 13 = .ok (.return_, 1) := by decide +kernel
theorem dX1_restore_14 : decode cX1_restore 14 = .ok (.aload_n 0, 1) := by decide +kernel
theorem dX1_restore_15 : decode cX1_restore 15 = .ok (.aload_n 0, 1) := by decide +kernel
theorem dX1_restore_16 : decode cX1_restore 16 = .ok (.getfield 17, 3) := by decide +kernel
theorem dX1_restore_19 : decode cX1_restore 19 = .ok (.bipush 20, 2) := by decide +kernel
theorem dX1_restore_21 : decode cX1_restore 21 = .ok (.iadd, 1) := by decide +kernel
theorem dX1_restore_22 : decode cX1_restore 22 = .ok (.iload_n 1, 1) := by decide +kernel
theorem dX1_restore_23 : decode cX1_restore 23 = .ok (.isub, 1) := by decide +kernel
theorem dX1_restore_24 : decode cX1_restore 24 = .ok (.bipush 20, 2) := by decide +kernel
theorem dX1_restore_26 : decode cX1_restore 26 = .ok (.irem, 1) := by decide +kernel
theorem dX1_restore_27 : decode cX1_restore 27 = .ok (.putfield 17, 3) := by decide +kernel
theorem dX1_restore_30 : decode cX1_restore 30 = .ok (.aload_n 0, 1) := by decide +kernel
theorem dX1_restore_31 : decode cX1_restore 31 = .ok (.dup, 1) := by decide +kernel
theorem dX1_restore_32 : decode cX1_restore 32 = .ok (.getfield 21, 3) := by decide +kernel
theorem dX1_restore_35 : decode cX1_restore 35 = .ok (.iload_n 1, 1) := by decide +kernel
theorem dX1_restore_36 : decode cX1_restore 36 = .ok (.isub, 1) := by decide +kernel
theorem dX1_restore_37 : decode cX1_restore 37 = .ok (.putfield 21, 3) := by decide +kernel
theorem dX1_restore_40 : decode cX1_restore 40 = .ok (.aload_n 2, 1) := by decide +kernel
theorem dX1_restore_41 : decode cX1_restore 41 = .ok (.aload_n 0, 1) := by decide +kernel
theorem dX1_restore_42 : decode cX1_restore 42 = .ok (.getfield 11, 3) := by decide +kernel
theorem dX1_restore_45 : decode cX1_restore 45 = .ok (.aload_n 0, 1) := by decide +kernel
theorem dX1_restore_46 : decode cX1_restore 46 = .ok (.getfield 17, 3) := by decide +kernel
theorem dX1_restore_49 : decode cX1_restore 49 = .ok (.aaload, 1) := by decide +kernel
theorem dX1_restore_50 : decode cX1_restore 50 = .ok (.invokevirtual 25, 3) := by decide +kernel
theorem dX1_restore_53 : decode cX1_restore 53 = .ok (.return_, 1) := by decide +kernel
theorem dX1_forget_0 : decode cX1_forget 0 = .ok (.aload_n 0, 1) := by decide +kernel
theorem dX1_forget_1 : decode cX1_forget 1 = .ok (.iconst 0, 1) := by decide +kernel
theorem dX1_forget_2 : decode cX1_forget 2 = .ok (.putfield 21, 3) := by decide +kernel
theorem dX1_forget_5 : decode cX1_forget 5 = .ok (.return_, 1) := by decide +kernel
theorem dX2_init_0 : decode cX2_init 0 = .ok (.aload_n 0, 1) := by decide +kernel
theorem dX2_init_1 : decode cX2_init 1 = .ok (.invokespecial 1, 3) := by decide +kernel
theorem dX2_init_4 : decode cX2_init 4 = .ok (.aload_n 0, 1) := by decide +kernel
theorem dX2_init_5 : decode cX2_init 5 = .ok (.new 7, 3) := by decide +kernel
theorem dX2_init_8 : decode cX2_init 8 = .ok (.dup, 1) := by decide +kernel
theorem dX2_init_9 : decode cX2_init 9 = .ok (.invokespecial 9, 3) := by decide +kernel
theorem dX2_init_12 : decode cX2_init 12 = .ok (.putfield 10, 3) := by decide +kernel
theorem dX2_init_15 : decode cX2_init 15 = .ok (.aload_n 0, 1) := by decide +kernel
theorem dX2_init_16 : decode cX2_init 16 = .ok (.iconst 0, 1) := by decide +kernel
theorem dX2_init_17 : decode cX2_init 17 = .ok (.putfield 16, 3) := by decide +kernel
theorem dX2_init_20 : decode cX2_init 20 = .ok (.aload_n 0, 1) := by decide +kernel
theorem dX2_init_21 : decode cX2_init 21 = .ok (.iconst 0, 1) := by decide +kernel
theorem dX2_init_22 : decode cX2_init 22 = .ok (.putfield 20, 3) := by decide +kernel
theorem dX2_init_25 : decode cX2_init 25 = .ok (.return_, 1) := by decide +kernel
theorem dX3_init_0 : decode cX3_init 0 = .ok (.aload_n 0, 1) := by decide +kernel
theorem dX3_init_1 : decode cX3_init 1 = .ok (.invokespecial 3, 3) := by decide +kernel
theorem dX3_init_4 : decode cX3_init 4 = .ok (.aload_n 0, 1) := by decide +kernel
theorem dX3_init_5 : decode cX3_init 5 = .ok (.new 9, 3) := by decide +kernel
theorem dX3_init_8 : decode cX3_init 8 = .ok (.dup, 1) := by decide +kernel
theorem dX3_init_9 : decode cX3_init 9 = .ok (.invokespecial 11, 3) := by decide +kernel
theorem dX3_init_12 : decode cX3_init 12 = .ok (.putfield 12, 3) := by decide +kernel
theorem dX3_init_15 : decode cX3_init 15 = .ok (.aload_n 0, 1) := by decide +kernel
theorem dX3_init_16 : decode cX3_init 16 = .ok (.aload_n 0, 1) := by decide +kernel
theorem dX3_init_17 : decode cX3_init 17 = .ok (.getfield 12, 3) := by decide +kernel
theorem dX3_init_20 : decode cX3_init 20 = .ok (.getfield 18, 3) := by decide +kernel
theorem dX3_init_23 : decode cX3_init 23 = .ok (.putfield 22, 3) := by decide +kernel
theorem dX3_init_26 : decode cX3_init 26 = .ok (.aload_n 0, 1) := by decide +kernel
theorem dX3_init_27 : decode cX3_init 27 = .ok (.bipush 40, 2) := by decide +kernel
theorem dX3_init_29 : decode cX3_init 29 = .ok (.newarray .int, 2) := by decide +kernel
theorem dX3_init_31 : decode cX3_init 31 = .ok (.putfield 23, 3) := by decide +kernel
theorem dX3_init_34 : decode cX3_init 34 = .ok (.aload_n 0, 1) := by decide +kernel
theorem dX3_init_35 : decode cX3_init 35 = .ok (.bipush 40, 2) := by decide +kernel
theorem dX3_init_37 : decode cX3_init 37 = .ok (.newarray .int, 2) := by decide +kernel
theorem dX3_init_39 : decode cX3_init 39 = .ok (.putfield 27, 3) := by decide +kernel
theorem dX3_init_42 : decode cX3_init 42 = .ok (.aload_n 0, 1) := by decide +kernel
theorem dX3_init_43 : decode cX3_init 43 = .ok (.bipush 40, 2) := by decide +kernel
theorem dX3_init_45 : decode cX3_init 45 = .ok (.newarray .long, 2) := by decide +kernel
theorem dX3_init_47 : decode cX3_init 47 = .ok (.putfield 30, 3) := by decide +kernel
theorem dX3_init_50 : decode cX3_init 50 = .ok (.aload_n 0, 1) := by decide +kernel
theorem dX3_init_51 : decode cX3_init 51 = .ok (.iconst 0, 1) := by decide +kernel
theorem dX3_init_52 : decode cX3_init 52 = .ok (.putfield 34, 3) := by decide +kernel
theorem dX3_init_55 : decode cX3_init 55 = .ok (.aload_n 0, 1) := by decide +kernel
theorem dX3_init_56 : decode cX3_init 56 = .ok (.iconst 0, 1) := by decide +kernel
theorem dX3_init_57 : decode cX3_init 57 = .ok (.putfield 38, 3) := by decide +kernel
theorem dX3_init_60 : decode cX3_init 60 = .ok (.return_, 1) := by decide +kernel
theorem dX3_look_0 : decode cX3_look 0 = .ok (.aload_n 0, 1) := by decide +kernel
theorem dX3_look_1 : decode cX3_look 1 = .ok (.iconst 0, 1) := by decide +kernel
theorem dX3_look_2 : decode cX3_look 2 = .ok (.putfield 34, 3) := by decide +kernel
theorem dX3_look_5 : decode cX3_look 5 = .ok (.aload_n 0, 1) := by decide +kernel
theorem dX3_look_6 : decode cX3_look 6 = .ok (.iconst 0, 1) := by decide +kernel
theorem dX3_look_7 : decode cX3_look 7 = .ok (.putfield 38, 3) := by decide +kernel
theorem dX3_look_10 : decode cX3_look 10 = .ok (.aload_n 0, 1) := by decide +kernel
theorem dX3_look_11 : decode cX3_look 11 = .ok (.getfield 22, 3) := by decide +kernel
theorem dX3_look_14 : decode cX3_look 14 = .ok (.iload_n 1, 1) := by decide +kernel
theorem dX3_look_15 : decode cX3_look 15 = .ok (.invokevirtual 41, 3) := by decide +kernel
theorem dX3_look_18 : decode cX3_look 18 = .ok (.ifCond .ne 4, 3) := by decide +kernel
theorem dX3_look_21 : decode cX3_look 21 = .ok (.return_, 1) := by decide +kernel
theorem dX3_look_22 : decode cX3_look 22 = .ok (.aload_n 0, 1) := by decide +kernel
theorem dX3_look_23 : decode cX3_look 23 = .ok (.iload_n 1, 1) := by decide +kernel
theorem dX3_look_24 : decode cX3_look 24 = .ok (.aload_n 0, 1) := by decide +kernel
theorem dX3_look_25 : decode cX3_look 25 = .ok (.getfield 22, 3) := by decide +kernel
theorem dX3_look_28 : decode cX3_look 28 = .ok (.getfield 47, 3) := by decide +kernel
theorem dX3_look_31 : decode cX3_look 31 = .ok (.ldc 50, 2) := by decide +kernel
theorem dX3_look_33 : decode cX3_look 33 = .ok (.invokevirtual 51, 3) := by decide +kernel
theorem dX3_look_36 : decode cX3_look 36 = .ok (.istore_n 2, 1) := by decide +kernel
theorem dX3_look_37 : decode cX3_look 37 = .ok (.aload_n 0, 1) := by decide +kernel
theorem dX3_look_38 : decode cX3_look 38 = .ok (.iload_n 1, 1) := by decide +kernel
theorem dX3_look_39 : decode cX3_look 39 = .ok (.aload_n 0, 1) := by decide +kernel
theorem dX3_look_40 : decode cX3_look 40 = .ok (.getfield 22, 3) := by decide +kernel
theorem dX3_look_43 : decode cX3_look 43 = .ok (.getfield 55, 3) := by decide +kernel
theorem dX3_look_46 : decode cX3_look 46 = .ok (.ldc 58, 2) := by decide +kernel
theorem dX3_look_48 : decode cX3_look 48 = .ok (.invokevirtual 51, 3) := by decide +kernel
theorem dX3_look_51 : decode cX3_look 51 = .ok (.istore_n 3, 1) := by decide +kernel
theorem dX3_look_52 : decode cX3_look 52 = .ok (.aload_n 0, 1) := by decide +kernel
theorem dX3_look_53 : decode cX3_look 53 = .ok (.getfield 12, 3) := by decide +kernel
theorem dX3_look_56 : decode cX3_look 56 = .ok (.getfield 59, 3) := by decide +kernel
theorem dX3_look_59 : decode cX3_look 59 = .ok (.iload_n 1, 1) := by decide +kernel
theorem dX3_look_60 : decode cX3_look 60 = .ok (.iaload, 1) := by decide +kernel
theorem dX3_look_61 : decode cX3_look 61 = .ok (.aload_n 0, 1) := by decide +kernel
theorem dX3_look_62 : decode cX3_look 62 = .ok (.getfield 12, 3) := by decide +kernel
theorem dX3_look_65 : decode cX3_look 65 = .ok (.getfield 62, 3) := by decide +kernel
theorem dX3_look_68 : decode cX3_look 68 = .ok (.iload_n 1, 1) := by decide +kernel
theorem dX3_look_69 : decode cX3_look 69 = .ok (.iaload, 1) := by decide +kernel
theorem dX3_look_70 : decode cX3_look 70 = .ok (.isub, 1) := by decide +kernel
theorem dX3_look_71 : decode cX3_look 71 = .ok (.istore 4, 2) := by decide +kernel
theorem dX3_look_73 : decode cX3_look 73 = .ok (.iload 4, 2) := by decide +kernel
theorem dX3_look_75 : decode cX3_look 75 = .ok (.aload_n 0, 1) := by decide +kernel
theorem dX3_look_76 : decode cX3_look 76 = .ok (.getfield 22, 3) := by decide +kernel
theorem dX3_look_79 : decode cX3_look 79 = .ok (.getfield 65, 3) := by decide +kernel
theorem dX3_look_82 : decode cX3_look 82 = .ok (.if_icmp .ge 90, 3) := by decide +kernel
theorem dX3_look_85 : decode cX3_look 85 = .ok (.aload_n 0, 1) := by decide +kernel
theorem dX3_look_86 : decode cX3_look 86 = .ok (.getfield 12, 3) := by decide +kernel
theorem dX3_look_89 : decode cX3_look 89 = .ok (.iload 4, 2) := by decide +kernel
theorem dX3_look_91 : decode cX3_look 91 = .ok (.invokevirtual 68, 3) := by decide +kernel
theorem dX3_look_94 : decode cX3_look 94 = .ok (.istore 5, 2) := by decide +kernel
theorem dX3_look_96 : decode cX3_look 96 = .ok (.iload 5, 2) := by decide +kernel
theorem dX3_look_98 : decode cX3_look 98 = .ok (.iconst (-1), 1) := by decide +kernel
theorem dX3_look_99 : decode cX3_look 99 = .ok (.if_icmp .eq 73, 3) := by decide +kernel
theorem dX3_look_102 : decode cX3_look 102 = .ok (.aload_n 0, 1) := by decide +kernel
theorem dX3_look_103 : decode cX3_look 103 = .ok (.getfield 22, 3) := by decide +kernel
theorem dX3_look_106 : decode cX3_look 106 = .ok (.getfield 72, 3) := by decide +kernel
theorem dX3_look_109 : decode cX3_look 109 = .ok (.iload 5, 2) := by decide +kernel
theorem dX3_look_111 : decode cX3_look 111 = .ok (.iaload, 1) := by decide +kernel
theorem dX3_look_112 : decode cX3_look 112 = .ok (.aload_n 0, 1) := by decide +kernel
theorem dX3_look_113 : decode cX3_look 113 = .ok (.getfield 22, 3) := by decide +kernel
theorem dX3_look_116 : decode cX3_look 116 = .ok (.getfield 72, 3) := by decide +kernel
theorem dX3_look_119 : decode cX3_look 119 = .ok (.iload_n 1, 1) := by decide +kernel
theorem dX3_look_120 : decode cX3_look 120 = .ok (.iaload, 1) := by decide +kernel
theorem dX3_look_121 : decode cX3_look 121 = .ok (.if_icmp .eq 6, 3) := by decide +kernel
theorem dX3_look_124 : decode cX3_look 124 = .ok (.goto 48, 3) := by decide +kernel
theorem dX3_look_127 : decode cX3_look 127 = .ok (.aload_n 0, 1) := by decide +kernel
theorem dX3_look_128 : decode cX3_look 128 = .ok (.getfield 12, 3) := by decide +kernel
theorem dX3_look_131 : decode cX3_look 131 = .ok (.iload 5, 2) := by decide +kernel
theorem dX3_look_133 : decode cX3_look 133 = .ok (.invokevirtual 75, 3) := by decide +kernel
theorem dX3_look_136 : decode cX3_look 136 = .ok (.istore 6, 2) := by decide +kernel
theorem dX3_look_138 : decode cX3_look 138 = .ok (.iload 6, 2) := by decide +kernel
theorem dX3_look_140 : decode cX3_look 140 = .ok (.iload_n 2, 1) := by decide +kernel
theorem dX3_look_141 : decode cX3_look 141 = .ok (.if_icmp .lt 25, 3) := by decide +kernel
theorem dX3_look_144 : decode cX3_look 144 = .ok (.iload 6, 2) := by decide +kernel
theorem dX3_look_146 : decode cX3_look 146 = .ok (.iload_n 3, 1) := by decide +kernel
theorem dX3_look_147 : decode cX3_look 147 = .ok (.if_icmp .gt 19, 3) := by decide +kernel
theorem dX3_look_150 : decode cX3_look 150 = .ok (.aload_n 0, 1) := by decide +kernel
theorem dX3_look_151 : decode cX3_look 151 = .ok (.iload_n 1, 1) := by decide +kernel
theorem dX3_look_152 : decode cX3_look 152 = .ok (.iload 5, 2) := by decide +kernel
theorem dX3_look_154 : decode cX3_look 154 = .ok (.invokevirtual 78, 3) := by decide +kernel
theorem dX3_look_157 : decode cX3_look 157 = .ok (.ifCond .ne 9, 3) := by decide +kernel
theorem dX3_look_160 : decode cX3_look 160 = .ok (.aload_n 0, 1) := by decide +kernel
theorem dX3_look_161 : decode cX3_look 161 = .ok (.iload 5, 2) := by decide +kernel
theorem dX3_look_163 : decode cX3_look 163 = .ok (.invokevirtual 82, 3) := by decide +kernel
theorem dX3_look_166 : decode cX3_look 166 = .ok (.iinc 4 1, 3) := by decide +kernel
theorem dX3_look_169 : decode cX3_look 169 = .ok (.goto (-96), 3) := by decide +kernel
theorem dX3_look_172 : decode cX3_look 172 = .ok (.return_, 1) := by decide +kernel
theorem dX3_bound_0 : decode cX3_bound 0 = .ok (.iload_n 2, 1) := by decide +kernel
theorem dX3_bound_1 : decode cX3_bound 1 = .ok (.bipush 99, 2) := by decide +kernel
theorem dX3_bound_3 : decode cX3_bound 3 = .ok (.if_icmp .ne 5, 3) := by decide +kernel
theorem dX3_bound_6 : decode cX3_bound 6 = .ok (.iload_n 3, 1) := by decide +kernel
theorem dX3_bound_7 : decode cX3_bound 7 = .ok (.ireturn, 1) := by decide +kernel
theorem dX3_bound_8 : decode cX3_bound 8 = .ok (.aload_n 0, 1) := by decide +kernel
theorem dX3_bound_9 : decode cX3_bound 9 = .ok (.getfield 12, 3) := by decide +kernel
theorem dX3_bound_12 : decode cX3_bound 12 = .ok (.iload_n 1, 1) := by decide +kernel
theorem dX3_bound_13 : decode cX3_bound 13 = .ok (.invokevirtual 75, 3) := by decide +kernel
theorem dX3_bound_16 : decode cX3_bound 16 = .ok (.istore 4, 2) := by decide +kernel
theorem dX3_bound_18 : decode cX3_bound 18 = .ok (.aload_n 0, 1) := by decide +kernel
theorem dX3_bound_19 : decode cX3_bound 19 = .ok (.getfield 22, 3) := by decide +kernel
theorem dX3_bound_22 : decode cX3_bound 22 = .ok (.getfield 86, 3) := by decide +kernel
theorem dX3_bound_25 : decode cX3_bound 25 = .ok (.iconst 1, 1) := by decide +kernel
theorem dX3_bound_26 : decode cX3_bound 26 = .ok (.if_icmp .ne 22, 3) := by decide +kernel
theorem dX3_bound_29 : decode cX3_bound 29 = .ok (.aload_n 0, 1) := by decide +kernel
theorem dX3_bound_30 : decode cX3_bound 30 = .ok (.getfield 22, 3) := by decide +kernel
theorem dX3_bound_33 : decode cX3_bound 33 = .ok (.getfield 89, 3) := by decide +kernel
theorem dX3_bound_36 : decode cX3_bound 36 = .ok (.iload_n 1, 1) := by decide +kernel
theorem dX3_bound_37 : decode cX3_bound 37 = .ok (.iaload, 1) := by decide +kernel
theorem dX3_bound_38 : decode cX3_bound 38 = .ok (.ldc 92, 2) := by decide +kernel
theorem dX3_bound_40 : decode cX3_bound 40 = .ok (.if_icmp .ne 8, 3) := by decide +kernel
theorem dX3_bound_43 : decode cX3_bound 43 = .ok (.iload 4, 2) := by decide +kernel
theorem dX3_bound_45 : decode cX3_bound 45 = .ok (.goto 7, 3) := by decide +kernel
theorem dX3_bound_48 : decode cX3_bound 48 = .ok (.iload 4, 2) := by decide +kernel
theorem dX3_bound_50 : decode cX3_bound 50 = .ok (.iload_n 2, 1) := by decide +kernel
theorem dX3_bound_51 : decode cX3_bound 51 = .ok (.iadd, 1) := by decide +kernel
theorem dX3_bound_52 : decode cX3_bound 52 = .ok (.ireturn, 1) := by decide +kernel
theorem dX3_isLess_0 : decode cX3_isLess 0 = .ok (.aload_n 0, 1) := by decide +kernel
theorem dX3_isLess_1 : decode cX3_isLess 1 = .ok (.getfield 22, 3) := by decide +kernel
theorem dX3_isLess_4 : decode cX3_isLess 4 = .ok (.getfield 93, 3) := by decide +kernel
theorem dX3_isLess_7 : decode cX3_isLess 7 = .ok (.tableswitch 69 1 3 #[25, 36, 46], 25) := by decide +kernel
theorem dX3_isLess_32 : decode cX3_isLess 32 = .ok (.iload_n 2, 1) := by decide +kernel
theorem dX3_isLess_33 : decode cX3_isLess 33 = .ok (.iload_n 1, 1) := by decide +kernel
theorem dX3_isLess_34 : decode cX3_isLess 34 = .ok (.if_icmp .ne 7, 3) := by decide +kernel
theorem dX3_isLess_37 : decode cX3_isLess 37 = .ok (.iconst 1, 1) := by decide +kernel
theorem dX3_isLess_38 : decode cX3_isLess 38 = .ok (.goto 4, 3) := by decide +kernel
theorem dX3_isLess_41 : decode cX3_isLess 41 = .ok (.iconst 0, 1) := by decide +kernel
theorem dX3_isLess_42 : decode cX3_isLess 42 = .ok (.ireturn, 1) := by decide +kernel
theorem dX3_isLess_43 : decode cX3_isLess 43 = .ok (.aload_n 0, 1) := by decide +kernel
theorem dX3_isLess_44 : decode cX3_isLess 44 = .ok (.getfield 22, 3) := by decide +kernel
theorem dX3_isLess_47 : decode cX3_isLess 47 = .ok (.iload_n 1, 1) := by decide +kernel
theorem dX3_isLess_48 : decode cX3_isLess 48 = .ok (.iload_n 2, 1) := by decide +kernel
theorem dX3_isLess_49 : decode cX3_isLess 49 = .ok (.invokevirtual 96, 3) := by decide +kernel
theorem dX3_isLess_52 : decode cX3_isLess 52 = .ok (.ireturn, 1) := by decide +kernel
theorem dX3_isLess_53 : decode cX3_isLess 53 = .ok (.iload_n 2, 1) := by decide +kernel
theorem dX3_isLess_54 : decode cX3_isLess 54 = .ok (.iload_n 1, 1) := by decide +kernel
theorem dX3_isLess_55 : decode cX3_isLess 55 = .ok (.if_icmp .eq 19, 3) := by decide +kernel
theorem dX3_isLess_58 : decode cX3_isLess 58 = .ok (.aload_n 0, 1) := by decide +kernel
theorem dX3_isLess_59 : decode cX3_isLess 59 = .ok (.getfield 22, 3) := by decide +kernel
theorem dX3_isLess_62 : decode cX3_isLess 62 = .ok (.iload_n 1, 1) := by decide +kernel
theorem dX3_isLess_63 : decode cX3_isLess 63 = .ok (.iload_n 2, 1) := by decide +kernel
theorem dX3_isLess_64 : decode cX3_isLess 64 = .ok (.invokevirtual 96, 3) := by decide +kernel
theorem dX3_isLess_67 : decode cX3_isLess 67 = .ok (.ifCond .eq 7, 3) := by decide +kernel
theorem dX3_isLess_70 : decode cX3_isLess 70 = .ok (.iconst 1, 1) := by decide +kernel
theorem dX3_isLess_71 : decode cX3_isLess 71 = .ok (.goto 4, 3) := by decide +kernel
theorem dX3_isLess_74 : decode cX3_isLess 74 = .ok (.iconst 0, 1) := by decide +kernel
theorem dX3_isLess_75 : decode cX3_isLess 75 = .ok (.ireturn, 1) := by decide +kernel
theorem dX3_isLess_76 : decode cX3_isLess 76 = .ok (.iconst 0, 1) := by decide +kernel
theorem dX3_isLess_77 : decode cX3_isLess 77 = .ok (.ireturn, 1) := by decide +kernel
theorem dX3_see_0 : decode cX3_see 0 = .ok (.aload_n 0, 1) := by decide +kernel
theorem dX3_see_1 : decode cX3_see 1 = .ok (.getfield 34, 3) := by decide +kernel
theorem dX3_see_4 : decode cX3_see 4 = .ok (.bipush 40, 2) := by decide +kernel
theorem dX3_see_6 : decode cX3_see 6 = .ok (.if_icmp .lt 4, 3) := by decide +kernel
theorem dX3_see_9 : decode cX3_see 9 = .ok (.return_, 1) := by decide +kernel
theorem dX3_see_10 : decode cX3_see 10 = .ok (.aload_n 0, 1) := by decide +kernel
theorem dX3_see_11 : decode cX3_see 11 = .ok (.getfield 23, 3) := by decide +kernel
theorem dX3_see_14 : decode cX3_see 14 = .ok (.aload_n 0, 1) := by decide +kernel
theorem dX3_see_15 : decode cX3_see 15 = .ok (.getfield 34, 3) := by decide +kernel
theorem dX3_see_18 : decode cX3_see 18 = .ok (.iload_n 1, 1) := by decide +kernel
theorem dX3_see_19 : decode cX3_see 19 = .ok (.iastore, 1) := by decide +kernel
theorem dX3_see_20 : decode cX3_see 20 = .ok (.aload_n 0, 1) := by decide +kernel
theorem dX3_see_21 : decode cX3_see 21 = .ok (.dup, 1) := by decide +kernel
theorem dX3_see_22 : decode cX3_see 22 = .ok (.getfield 34, 3) := by decide +kernel
theorem dX3_see_25 : decode cX3_see 25 = .ok (.iconst 1, 1) := by decide +kernel
theorem dX3_see_26 : decode cX3_see 26 = .ok (.iadd, 1) := by decide +kernel
theorem dX3_see_27 : decode cX3_see 27 = .ok (.putfield 34, 3) := by decide +kernel
theorem dX3_see_30 : decode cX3_see 30 = .ok (.aload_n 0, 1) := by decide +kernel
theorem dX3_see_31 : decode cX3_see 31 = .ok (.getfield 22, 3) := by decide +kernel
theorem dX3_see_34 : decode cX3_see 34 = .ok (.getfield 99, 3) := by decide +kernel
theorem dX3_see_37 : decode cX3_see 37 = .ok (.iload_n 1, 1) := by decide +kernel
theorem dX3_see_38 : decode cX3_see 38 = .ok (.iaload, 1) := by decide +kernel
theorem dX3_see_39 : decode cX3_see 39 = .ok (.ldc 92, 2) := by decide +kernel
theorem dX3_see_41 : decode cX3_see 41 = .ok (.if_icmp .eq 31, 3) := by decide +kernel
theorem dX3_see_44 : decode cX3_see 44 = .ok (.aload_n 0, 1) := by decide +kernel
theorem dX3_see_45 : decode cX3_see 45 = .ok (.getfield 27, 3) := by decide +kernel
theorem dX3_see_48 : decode cX3_see 48 = .ok (.aload_n 0, 1) := by decide +kernel
theorem dX3_see_49 : decode cX3_see 49 = .ok (.getfield 38, 3) := by decide +kernel
theorem dX3_see_52 : decode cX3_see 52 = .ok (.aload_n 0, 1) := by decide +kernel
theorem dX3_see_53 : decode cX3_see 53 = .ok (.getfield 22, 3) := by decide +kernel
theorem dX3_see_56 : decode cX3_see 56 = .ok (.getfield 99, 3) := by decide +kernel
theorem dX3_see_59 : decode cX3_see 59 = .ok (.iload_n 1, 1) := by decide +kernel
theorem dX3_see_60 : decode cX3_see 60 = .ok (.iaload, 1) := by decide +kernel
theorem dX3_see_61 : decode cX3_see 61 = .ok (.iastore, 1) := by decide +kernel
theorem dX3_see_62 : decode cX3_see 62 = .ok (.aload_n 0, 1) := by decide +kernel
theorem dX3_see_63 : decode cX3_see 63 = .ok (.dup, 1) := by decide +kernel
theorem dX3_see_64 : decode cX3_see 64 = .ok (.getfield 38, 3) := by decide +kernel
theorem dX3_see_67 : decode cX3_see 67 = .ok (.iconst 1, 1) := by decide +kernel
theorem dX3_see_68 : decode cX3_see 68 = .ok (.iadd, 1) := by decide +kernel
theorem dX3_see_69 : decode cX3_see 69 = .ok (.putfield 38, 3) := by decide +kernel
theorem dX3_see_72 : decode cX3_see 72 = .ok (.return_, 1) := by decide +kernel
theorem dX3_set_0 : decode cX3_set 0 = .ok (.aload_n 0, 1) := by decide +kernel
theorem dX3_set_1 : decode cX3_set 1 = .ok (.iload_n 1, 1) := by decide +kernel
theorem dX3_set_2 : decode cX3_set 2 = .ok (.invokevirtual 102, 3) := by decide +kernel
theorem dX3_set_5 : decode cX3_set 5 = .ok (.lconst 0, 1) := by decide +kernel
theorem dX3_set_6 : decode cX3_set 6 = .ok (.lstore_n 2, 1) := by decide +kernel
theorem dX3_set_7 : decode cX3_set 7 = .ok (.iconst 0, 1) := by decide +kernel
theorem dX3_set_8 : decode cX3_set 8 = .ok (.istore 4, 2) := by decide +kernel
theorem dX3_set_10 : decode cX3_set 10 = .ok (.iload 4, 2) := by decide +kernel
theorem dX3_set_12 : decode cX3_set 12 = .ok (.aload_n 0, 1) := by decide +kernel
theorem dX3_set_13 : decode cX3_set 13 = .ok (.getfield 34, 3) := by decide +kernel
theorem dX3_set_16 : decode cX3_set 16 = .ok (.if_icmp .ge 21, 3) := by decide +kernel
theorem dX3_set_19 : decode cX3_set 19 = .ok (.lload_n 2, 1) := by decide +kernel
theorem dX3_set_20 : decode cX3_set 20 = .ok (.lconst 1, 1) := by decide +kernel
theorem dX3_set_21 : decode cX3_set 21 = .ok (.aload_n 0, 1) := by decide +kernel
theorem dX3_set_22 : decode cX3_set 22 = .ok (.getfield 23, 3) := by decide +kernel
theorem dX3_set_25 : decode cX3_set 25 = .ok (.iload 4, 2) := by decide +kernel
theorem dX3_set_27 : decode cX3_set 27 = .ok (.iaload, 1) := by decide +kernel
theorem dX3_set_28 : decode cX3_set 28 = .ok (.lshl, 1) := by decide +kernel
theorem dX3_set_29 : decode cX3_set 29 = .ok (.lor, 1) := by decide +kernel
theorem dX3_set_30 : decode cX3_set 30 = .ok (.lstore_n 2, 1) := by decide +kernel
theorem dX3_set_31 : decode cX3_set 31 = .ok (.iinc 4 1, 3) := by decide +kernel
theorem dX3_set_34 : decode cX3_set 34 = .ok (.goto (-24), 3) := by decide +kernel
theorem dX3_set_37 : decode cX3_set 37 = .ok (.lload_n 2, 1) := by decide +kernel
theorem dX3_set_38 : decode cX3_set 38 = .ok (.lreturn, 1) := by decide +kernel
theorem dX3_rowAt_0 : decode cX3_rowAt 0 = .ok (.aload_n 0, 1) := by decide +kernel
theorem dX3_rowAt_1 : decode cX3_rowAt 1 = .ok (.iload_n 1, 1) := by decide +kernel
theorem dX3_rowAt_2 : decode cX3_rowAt 2 = .ok (.invokevirtual 102, 3) := by decide +kernel
theorem dX3_rowAt_5 : decode cX3_rowAt 5 = .ok (.iload_n 2, 1) := by decide +kernel
theorem dX3_rowAt_6 : decode cX3_rowAt 6 = .ok (.ifCond .lt 20, 3) := by decide +kernel
theorem dX3_rowAt_9 : decode cX3_rowAt 9 = .ok (.iload_n 2, 1) := by decide +kernel
theorem dX3_rowAt_10 : decode cX3_rowAt 10 = .ok (.aload_n 0, 1) := by decide +kernel
theorem dX3_rowAt_11 : decode cX3_rowAt 11 = .ok (.getfield 34, 3) := by decide +kernel
theorem dX3_rowAt_14 : decode cX3_rowAt 14 = .ok (.if_icmp .ge 12, 3) := by decide +kernel
theorem dX3_rowAt_17 : decode cX3_rowAt 17 = .ok (.aload_n 0, 1) := by decide +kernel
theorem dX3_rowAt_18 : decode cX3_rowAt 18 = .ok (.getfield 23, 3) := by decide +kernel
theorem dX3_rowAt_21 : decode cX3_rowAt 21 = .ok (.iload_n 2, 1) := by decide +kernel
theorem dX3_rowAt_22 : decode cX3_rowAt 22 = .ok (.iaload, 1) := by decide +kernel
theorem dX3_rowAt_23 : decode cX3_rowAt 23 = .ok (.goto 4, 3) := by decide +kernel
theorem dX3_rowAt_26 : decode cX3_rowAt 26 = .ok (.iconst (-1), 1) := by decide +kernel
theorem dX3_rowAt_27 : decode cX3_rowAt 27 = .ok (.ireturn, 1) := by decide +kernel
theorem dX3_sum_0 : decode cX3_sum 0 = .ok (.aload_n 0, 1) := by decide +kernel
theorem dX3_sum_1 : decode cX3_sum 1 = .ok (.iload_n 1, 1) := by decide +kernel
theorem dX3_sum_2 : decode cX3_sum 2 = .ok (.invokevirtual 102, 3) := by decide +kernel
theorem dX3_sum_5 : decode cX3_sum 5 = .ok (.aload_n 0, 1) := by decide +kernel
theorem dX3_sum_6 : decode cX3_sum 6 = .ok (.invokevirtual 105, 3) := by decide +kernel
theorem dX3_sum_9 : decode cX3_sum 9 = .ok (.ireturn, 1) := by decide +kernel
theorem dX3_rowsOfAllFrames_0 : decode cX3_rowsOfAllFrames 0 = .ok (.iconst 0, 1) := by decide +kernel
theorem dX3_rowsOfAllFrames_1 : decode cX3_rowsOfAllFrames 1 = .ok (.istore_n 1, 1) := by decide +kernel
theorem dX3_rowsOfAllFrames_2 : decode cX3_rowsOfAllFrames 2 = .ok (.iconst 0, 1) := by decide +kernel
theorem dX3_rowsOfAllFrames_3 : decode cX3_rowsOfAllFrames 3 = .ok (.istore_n 2, 1) := by decide +kernel
theorem dX3_rowsOfAllFrames_4 : decode cX3_rowsOfAllFrames 4 = .ok (.iload_n 2, 1) := by decide +kernel
theorem dX3_rowsOfAllFrames_5 : decode cX3_rowsOfAllFrames 5 = .ok (.aload_n 0, 1) := by decide +kernel
theorem dX3_rowsOfAllFrames_6 : decode cX3_rowsOfAllFrames 6 = .ok (.getfield 22, 3) := by decide +kernel
theorem dX3_rowsOfAllFrames_9 : decode cX3_rowsOfAllFrames 9 = .ok (.getfield 65, 3) := by decide +kernel
theorem dX3_rowsOfAllFrames_12 : decode cX3_rowsOfAllFrames 12 = .ok (.if_icmp .ge 21, 3) := by decide +kernel
theorem dX3_rowsOfAllFrames_15 : decode cX3_rowsOfAllFrames 15 = .ok (.aload_n 0, 1) := by decide +kernel
theorem dX3_rowsOfAllFrames_16 : decode cX3_rowsOfAllFrames 16 = .ok (.iload_n 2, 1) := by decide +kernel
theorem dX3_rowsOfAllFrames_17 : decode cX3_rowsOfAllFrames 17 = .ok (.invokevirtual 102, 3) := by decide +kernel
theorem dX3_rowsOfAllFrames_20 : decode cX3_rowsOfAllFrames 20 = .ok (.iload_n 1, 1) := by decide +kernel
theorem dX3_rowsOfAllFrames_21 : decode cX3_rowsOfAllFrames 21 = .ok (.aload_n 0, 1) := by decide +kernel
theorem dX3_rowsOfAllFrames_22 : decode cX3_rowsOfAllFrames 22 = .ok (.getfield 34, 3) := by decide +kernel
theorem dX3_rowsOfAllFrames_25 : decode cX3_rowsOfAllFrames 25 = .ok (.iadd, 1) := by decide +kernel
theorem dX3_rowsOfAllFrames_26 : decode cX3_rowsOfAllFrames 26 = .ok (.istore_n 1, 1) := by decide +kernel
theorem dX3_rowsOfAllFrames_27 : decode cX3_rowsOfAllFrames 27 = .ok (.iinc 2 1, 3) := by decide +kernel
theorem dX3_rowsOfAllFrames_30 : decode cX3_rowsOfAllFrames 30 = .ok (.goto (-26), 3) := by decide +kernel
theorem dX3_rowsOfAllFrames_33 : decode cX3_rowsOfAllFrames 33 = .ok (.iload_n 1, 1) := by decide +kernel
theorem dX3_rowsOfAllFrames_34 : decode cX3_rowsOfAllFrames 34 = .ok (.ireturn, 1) := by decide +kernel
theorem dX3_alikePairs_0 : decode cX3_alikePairs 0 = .ok (.iconst 0, 1) := by decide +kernel
theorem dX3_alikePairs_1 : decode cX3_alikePairs 1 = .ok (.istore_n 1, 1) := by decide +kernel
theorem dX3_alikePairs_2 : decode cX3_alikePairs 2 = .ok (.iconst 0, 1) := by decide +kernel
theorem dX3_alikePairs_3 : decode cX3_alikePairs 3 = .ok (.istore_n 2, 1) := by decide +kernel
theorem dX3_alikePairs_4 : decode cX3_alikePairs 4 = .ok (.iload_n 2, 1) := by decide +kernel
theorem dX3_alikePairs_5 : decode cX3_alikePairs 5 = .ok (.aload_n 0, 1) := by decide +kernel
theorem dX3_alikePairs_6 : decode cX3_alikePairs 6 = .ok (.getfield 22, 3) := by decide +kernel
theorem dX3_alikePairs_9 : decode cX3_alikePairs 9 = .ok (.getfield 65, 3) := by decide +kernel
theorem dX3_alikePairs_12 : decode cX3_alikePairs 12 = .ok (.if_icmp .ge 52, 3) := by decide +kernel
theorem dX3_alikePairs_15 : decode cX3_alikePairs 15 = .ok (.aload_n 0, 1) := by decide +kernel
theorem dX3_alikePairs_16 : decode cX3_alikePairs 16 = .ok (.getfield 30, 3) := by decide +kernel
theorem dX3_alikePairs_19 : decode cX3_alikePairs 19 = .ok (.iload_n 2, 1) := by decide +kernel
theorem dX3_alikePairs_20 : decode cX3_alikePairs 20 = .ok (.aload_n 0, 1) := by decide +kernel
theorem dX3_alikePairs_21 : decode cX3_alikePairs 21 = .ok (.iload_n 2, 1) := by decide +kernel
theorem dX3_alikePairs_22 : decode cX3_alikePairs 22 = .ok (.invokevirtual 109, 3) := by decide +kernel
theorem dX3_alikePairs_25 : decode cX3_alikePairs 25 = .ok (.lastore, 1) := by decide +kernel
theorem dX3_alikePairs_26 : decode cX3_alikePairs 26 = .ok (.iconst 0, 1) := by decide +kernel
theorem dX3_alikePairs_27 : decode cX3_alikePairs 27 = .ok (.istore_n 3, 1) := by decide +kernel
theorem dX3_alikePairs_28 : decode cX3_alikePairs 28 = .ok (.iload_n 3, 1) := by decide +kernel
theorem dX3_alikePairs_29 : decode cX3_alikePairs 29 = .ok (.iload_n 2, 1) := by decide +kernel
theorem dX3_alikePairs_30 : decode cX3_alikePairs 30 = .ok (.if_icmp .ge 28, 3) := by decide +kernel
theorem dX3_alikePairs_33 : decode cX3_alikePairs 33 = .ok (.aload_n 0, 1) := by decide +kernel
theorem dX3_alikePairs_34 : decode cX3_alikePairs 34 = .ok (.getfield 30, 3) := by decide +kernel
theorem dX3_alikePairs_37 : decode cX3_alikePairs 37 = .ok (.iload_n 3, 1) := by decide +kernel
theorem dX3_alikePairs_38 : decode cX3_alikePairs 38 = .ok (.laload, 1) := by decide +kernel
theorem dX3_alikePairs_39 : decode cX3_alikePairs 39 = .ok (.aload_n 0, 1) := by decide +kernel
theorem dX3_alikePairs_40 : decode cX3_alikePairs 40 = .ok (.getfield 30, 3) := by decide +kernel
theorem dX3_alikePairs_43 : decode cX3_alikePairs 43 = .ok (.iload_n 2, 1) := by decide +kernel
theorem dX3_alikePairs_44 : decode cX3_alikePairs 44 = .ok (.laload, 1) := by decide +kernel
theorem dX3_alikePairs_45 : decode cX3_alikePairs 45 = .ok (.lcmp, 1) := by decide +kernel
theorem dX3_alikePairs_46 : decode cX3_alikePairs 46 = .ok (.ifCond .ne 6, 3) := by decide +kernel
theorem dX3_alikePairs_49 : decode cX3_alikePairs 49 = .ok (.iinc 1 1, 3) := by decide +kernel
theorem dX3_alikePairs_52 : decode cX3_alikePairs 52 = .ok (.iinc 3 1, 3) := by decide +kernel
theorem dX3_alikePairs_55 : decode cX3_alikePairs 55 = .ok (.goto (-27), 3) := by decide +kernel
theorem dX3_alikePairs_58 : decode cX3_alikePairs 58 = .ok (.iinc 2 1, 3) := by decide +kernel
theorem dX3_alikePairs_61 : decode cX3_alikePairs 61 = .ok (.goto (-57), 3) := by decide +kernel
theorem dX3_alikePairs_64 : decode cX3_alikePairs 64 = .ok (.iload_n 1, 1) := by decide +kernel
theorem dX3_alikePairs_65 : decode cX3_alikePairs 65 = .ok (.ireturn, 1) := by decide +kernel
theorem dX3_answer_0 : decode cX3_answer 0 = .ok (.aload_n 0, 1) := by decide +kernel
theorem dX3_answer_1 : decode cX3_answer 1 = .ok (.iload_n 1, 1) := by decide +kernel
theorem dX3_answer_2 : decode cX3_answer 2 = .ok (.invokevirtual 102, 3) := by decide +kernel
theorem dX3_answer_5 : decode cX3_answer 5 = .ok (.iload_n 2, 1) := by decide +kernel
theorem dX3_answer_6 : decode cX3_answer 6 = .ok (.tableswitch 74 0 6 #[42, 47, 52, 74, 74, 57, 63], 42) := by decide +kernel
theorem dX3_answer_48 : decode cX3_answer 48 = .ok (.aload_n 0, 1) := by decide +kernel
theorem dX3_answer_49 : decode cX3_answer 49 = .ok (.getfield 34, 3) := by decide +kernel
theorem dX3_answer_52 : decode cX3_answer 52 = .ok (.ireturn, 1) := by decide +kernel
theorem dX3_answer_53 : decode cX3_answer 53 = .ok (.aload_n 0, 1) := by decide +kernel
theorem dX3_answer_54 : decode cX3_answer 54 = .ok (.getfield 38, 3) := by decide +kernel
theorem dX3_answer_57 : decode cX3_answer 57 = .ok (.ireturn, 1) := by decide +kernel
theorem dX3_answer_58 : decode cX3_answer 58 = .ok (.aload_n 0, 1) := by decide +kernel
theorem dX3_answer_59 : decode cX3_answer 59 = .ok (.invokevirtual 105, 3) := by decide +kernel
theorem dX3_answer_62 : decode cX3_answer 62 = .ok (.ireturn, 1) := by decide +kernel
theorem dX3_answer_63 : decode cX3_answer 63 = .ok (.aload_n 0, 1) := by decide +kernel
theorem dX3_answer_64 : decode cX3_answer 64 = .ok (.iconst 0, 1) := by decide +kernel
theorem dX3_answer_65 : decode cX3_answer 65 = .ok (.invokevirtual 113, 3) := by decide +kernel
theorem dX3_answer_68 : decode cX3_answer 68 = .ok (.ireturn, 1) := by decide +kernel
theorem dX3_answer_69 : decode cX3_answer 69 = .ok (.aload_n 0, 1) := by decide +kernel
theorem dX3_answer_70 : decode cX3_answer 70 = .ok (.aload_n 0, 1) := by decide +kernel
theorem dX3_answer_71 : decode cX3_answer 71 = .ok (.getfield 34, 3) := by decide +kernel
theorem dX3_answer_74 : decode cX3_answer 74 = .ok (.iconst 1, 1) := by decide +kernel
theorem dX3_answer_75 : decode cX3_answer 75 = .ok (.isub, 1) := by decide +kernel
theorem dX3_answer_76 : decode cX3_answer 76 = .ok (.invokevirtual 113, 3) := by decide +kernel
theorem dX3_answer_79 : decode cX3_answer 79 = .ok (.ireturn, 1) := by decide +kernel
theorem dX3_answer_80 : decode cX3_answer 80 = .ok (.aload_n 0, 1) := by decide +kernel
theorem dX3_answer_81 : decode cX3_answer 81 = .ok (.iload_n 2, 1) := by decide +kernel
theorem dX3_answer_82 : decode cX3_answer 82 = .ok (.invokevirtual 116, 3) := by decide +kernel
theorem dX3_answer_85 : decode cX3_answer 85 = .ok (.ireturn, 1) := by decide +kernel
theorem dX3_answerInOrder_0 : decode cX3_answerInOrder 0 = .ok (.aload_n 0, 1) := by decide +kernel
theorem dX3_answerInOrder_1 : decode cX3_answerInOrder 1 = .ok (.invokevirtual 119, 3) := by decide +kernel
theorem dX3_answerInOrder_4 : decode cX3_answerInOrder 4 = .ok (.iload_n 1, 1) := by decide +kernel
theorem dX3_answerInOrder_5 : decode cX3_answerInOrder 5 = .ok (.tableswitch 57 3 7 #[35, 41, 57, 57, 52], 35) := by decide +kernel
theorem dX3_answerInOrder_40 : decode cX3_answerInOrder 40 = .ok (.aload_n 0, 1) := by decide +kernel
theorem dX3_answerInOrder_41 : decode cX3_answerInOrder 41 = .ok (.iconst 0, 1) := by decide +kernel
theorem dX3_answerInOrder_42 : decode cX3_answerInOrder 42 = .ok (.invokevirtual 122, 3) := by decide +kernel
theorem dX3_answerInOrder_45 : decode cX3_answerInOrder 45 = .ok (.ireturn, 1) := by decide +kernel
theorem dX3_answerInOrder_46 : decode cX3_answerInOrder 46 = .ok (.aload_n 0, 1) := by decide +kernel
theorem dX3_answerInOrder_47 : decode cX3_answerInOrder 47 = .ok (.aload_n 0, 1) := by decide +kernel
theorem dX3_answerInOrder_48 : decode cX3_answerInOrder 48 = .ok (.getfield 38, 3) := by decide +kernel
theorem dX3_answerInOrder_51 : decode cX3_answerInOrder 51 = .ok (.iconst 1, 1) := by decide +kernel
theorem dX3_answerInOrder_52 : decode cX3_answerInOrder 52 = .ok (.isub, 1) := by decide +kernel
theorem dX3_answerInOrder_53 : decode cX3_answerInOrder 53 = .ok (.invokevirtual 122, 3) := by decide +kernel
theorem dX3_answerInOrder_56 : decode cX3_answerInOrder 56 = .ok (.ireturn, 1) := by decide +kernel
theorem dX3_answerInOrder_57 : decode cX3_answerInOrder 57 = .ok (.aload_n 0, 1) := by decide +kernel
theorem dX3_answerInOrder_58 : decode cX3_answerInOrder 58 = .ok (.invokevirtual 125, 3) := by decide +kernel
theorem dX3_answerInOrder_61 : decode cX3_answerInOrder 61 = .ok (.ireturn, 1) := by decide +kernel
theorem dX3_answerInOrder_62 : decode cX3_answerInOrder 62 = .ok (.aload_n 0, 1) := by decide +kernel
theorem dX3_answerInOrder_63 : decode cX3_answerInOrder 63 = .ok (.aload_n 0, 1) := by decide +kernel
theorem dX3_answerInOrder_64 : decode cX3_answerInOrder 64 = .ok (.getfield 38, 3) := by decide +kernel
theorem dX3_answerInOrder_67 : decode cX3_answerInOrder 67 = .ok (.iconst 1, 1) := by decide +kernel
theorem dX3_answerInOrder_68 : decode cX3_answerInOrder 68 = .ok (.isub, 1) := by decide +kernel
theorem dX3_answerInOrder_69 : decode cX3_answerInOrder 69 = .ok (.iconst 2, 1) := by decide +kernel
theorem dX3_answerInOrder_70 : decode cX3_answerInOrder 70 = .ok (.idiv, 1) := by decide +kernel
theorem dX3_answerInOrder_71 : decode cX3_answerInOrder 71 = .ok (.invokevirtual 122, 3) := by decide +kernel
theorem dX3_answerInOrder_74 : decode cX3_answerInOrder 74 = .ok (.ireturn, 1) := by decide +kernel
theorem dX3_sumSeen_0 : decode cX3_sumSeen 0 = .ok (.iconst 0, 1) := by decide +kernel
theorem dX3_sumSeen_1 : decode cX3_sumSeen 1 = .ok (.istore_n 1, 1) := by decide +kernel
theorem dX3_sumSeen_2 : decode cX3_sumSeen 2 = .ok (.iconst 0, 1) := by decide +kernel
theorem dX3_sumSeen_3 : decode cX3_sumSeen 3 = .ok (.istore_n 2, 1) := by decide +kernel
theorem dX3_sumSeen_4 : decode cX3_sumSeen 4 = .ok (.iload_n 2, 1) := by decide +kernel
theorem dX3_sumSeen_5 : decode cX3_sumSeen 5 = .ok (.aload_n 0, 1) := by decide +kernel
theorem dX3_sumSeen_6 : decode cX3_sumSeen 6 = .ok (.getfield 38, 3) := by decide +kernel
theorem dX3_sumSeen_9 : decode cX3_sumSeen 9 = .ok (.if_icmp .ge 18, 3) := by decide +kernel
theorem dX3_sumSeen_12 : decode cX3_sumSeen 12 = .ok (.iload_n 1, 1) := by decide +kernel
theorem dX3_sumSeen_13 : decode cX3_sumSeen 13 = .ok (.aload_n 0, 1) := by decide +kernel
theorem dX3_sumSeen_14 : decode cX3_sumSeen 14 = .ok (.getfield 27, 3) := by decide +kernel
theorem dX3_sumSeen_17 : decode cX3_sumSeen 17 = .ok (.iload_n 2, 1) := by decide +kernel
theorem dX3_sumSeen_18 : decode cX3_sumSeen 18 = .ok (.iaload, 1) := by decide +kernel
theorem dX3_sumSeen_19 : decode cX3_sumSeen 19 = .ok (.iadd, 1) := by decide +kernel
theorem dX3_sumSeen_20 : decode cX3_sumSeen 20 = .ok (.istore_n 1, 1) := by decide +kernel
theorem dX3_sumSeen_21 : decode cX3_sumSeen 21 = .ok (.iinc 2 1, 3) := by decide +kernel
theorem dX3_sumSeen_24 : decode cX3_sumSeen 24 = .ok (.goto (-20), 3) := by decide +kernel
theorem dX3_sumSeen_27 : decode cX3_sumSeen 27 = .ok (.iload_n 1, 1) := by decide +kernel
theorem dX3_sumSeen_28 : decode cX3_sumSeen 28 = .ok (.ireturn, 1) := by decide +kernel
theorem dX3_worthOfSeen_0 : decode cX3_worthOfSeen 0 = .ok (.iload_n 1, 1) := by decide +kernel
theorem dX3_worthOfSeen_1 : decode cX3_worthOfSeen 1 = .ok (.ifCond .lt 28, 3) := by decide +kernel
theorem dX3_worthOfSeen_4 : decode cX3_worthOfSeen 4 = .ok (.iload_n 1, 1) := by decide +kernel
theorem dX3_worthOfSeen_5 : decode cX3_worthOfSeen 5 = .ok (.aload_n 0, 1) := by decide +kernel
theorem dX3_worthOfSeen_6 : decode cX3_worthOfSeen 6 = .ok (.getfield 34, 3) := by decide +kernel
theorem dX3_worthOfSeen_9 : decode cX3_worthOfSeen 9 = .ok (.if_icmp .ge 20, 3) := by decide +kernel
theorem dX3_worthOfSeen_12 : decode cX3_worthOfSeen 12 = .ok (.aload_n 0, 1) := by decide +kernel
theorem dX3_worthOfSeen_13 : decode cX3_worthOfSeen 13 = .ok (.getfield 22, 3) := by decide +kernel
theorem dX3_worthOfSeen_16 : decode cX3_worthOfSeen 16 = .ok (.getfield 99, 3) := by decide +kernel
theorem dX3_worthOfSeen_19 : decode cX3_worthOfSeen 19 = .ok (.aload_n 0, 1) := by decide +kernel
theorem dX3_worthOfSeen_20 : decode cX3_worthOfSeen 20 = .ok (.getfield 23, 3) := by decide +kernel
theorem dX3_worthOfSeen_23 : decode cX3_worthOfSeen 23 = .ok (.iload_n 1, 1) := by decide +kernel
theorem dX3_worthOfSeen_24 : decode cX3_worthOfSeen 24 = .ok (.iaload, 1) := by decide +kernel
theorem dX3_worthOfSeen_25 : decode cX3_worthOfSeen 25 = .ok (.iaload, 1) := by decide +kernel
theorem dX3_worthOfSeen_26 : decode cX3_worthOfSeen 26 = .ok (.goto 5, 3) := by decide +kernel
theorem dX3_worthOfSeen_29 : decode cX3_worthOfSeen 29 = .ok (.ldc 92, 2) := by decide +kernel
theorem dX3_worthOfSeen_31 : decode cX3_worthOfSeen 31 = .ok (.ireturn, 1) := by decide +kernel
theorem dX3_worthAt_0 : decode cX3_worthAt 0 = .ok (.iload_n 1, 1) := by decide +kernel
theorem dX3_worthAt_1 : decode cX3_worthAt 1 = .ok (.ifCond .lt 20, 3) := by decide +kernel
theorem dX3_worthAt_4 : decode cX3_worthAt 4 = .ok (.iload_n 1, 1) := by decide +kernel
theorem dX3_worthAt_5 : decode cX3_worthAt 5 = .ok (.aload_n 0, 1) := by decide +kernel
theorem dX3_worthAt_6 : decode cX3_worthAt 6 = .ok (.getfield 38, 3) := by decide +kernel
theorem dX3_worthAt_9 : decode cX3_worthAt 9 = .ok (.if_icmp .ge 12, 3) := by decide +kernel
theorem dX3_worthAt_12 : decode cX3_worthAt 12 = .ok (.aload_n 0, 1) := by decide +kernel
theorem dX3_worthAt_13 : decode cX3_worthAt 13 = .ok (.getfield 27, 3) := by decide +kernel
theorem dX3_worthAt_16 : decode cX3_worthAt 16 = .ok (.iload_n 1, 1) := by decide +kernel
theorem dX3_worthAt_17 : decode cX3_worthAt 17 = .ok (.iaload, 1) := by decide +kernel
theorem dX3_worthAt_18 : decode cX3_worthAt 18 = .ok (.goto 5, 3) := by decide +kernel
theorem dX3_worthAt_21 : decode cX3_worthAt 21 = .ok (.ldc 92, 2) := by decide +kernel
theorem dX3_worthAt_23 : decode cX3_worthAt 23 = .ok (.ireturn, 1) := by decide +kernel
theorem dX3_unlikeWorths_0 : decode cX3_unlikeWorths 0 = .ok (.iconst 0, 1) := by decide +kernel
theorem dX3_unlikeWorths_1 : decode cX3_unlikeWorths 1 = .ok (.istore_n 1, 1) := by decide +kernel
theorem dX3_unlikeWorths_2 : decode cX3_unlikeWorths 2 = .ok (.iconst 0, 1) := by decide +kernel
theorem dX3_unlikeWorths_3 : decode cX3_unlikeWorths 3 = .ok (.istore_n 2, 1) := by decide +kernel
theorem dX3_unlikeWorths_4 : decode cX3_unlikeWorths 4 = .ok (.iload_n 2, 1) := by decide +kernel
theorem dX3_unlikeWorths_5 : decode cX3_unlikeWorths 5 = .ok (.aload_n 0, 1) := by decide +kernel
theorem dX3_unlikeWorths_6 : decode cX3_unlikeWorths 6 = .ok (.getfield 38, 3) := by decide +kernel
theorem dX3_unlikeWorths_9 : decode cX3_unlikeWorths 9 = .ok (.if_icmp .ge 33, 3) := by decide +kernel
theorem dX3_unlikeWorths_12 : decode cX3_unlikeWorths 12 = .ok (.iload_n 2, 1) := by decide +kernel
theorem dX3_unlikeWorths_13 : decode cX3_unlikeWorths 13 = .ok (.ifCond .eq 20, 3) := by decide +kernel
theorem dX3_unlikeWorths_16 : decode cX3_unlikeWorths 16 = .ok (.aload_n 0, 1) := by decide +kernel
theorem dX3_unlikeWorths_17 : decode cX3_unlikeWorths 17 = .ok (.getfield 27, 3) := by decide +kernel
theorem dX3_unlikeWorths_20 : decode cX3_unlikeWorths 20 = .ok (.iload_n 2, 1) := by decide +kernel
theorem dX3_unlikeWorths_21 : decode cX3_unlikeWorths 21 = .ok (.iaload, 1) := by decide +kernel
theorem dX3_unlikeWorths_22 : decode cX3_unlikeWorths 22 = .ok (.aload_n 0, 1) := by decide +kernel
theorem dX3_unlikeWorths_23 : decode cX3_unlikeWorths 23 = .ok (.getfield 27, 3) := by decide +kernel
theorem dX3_unlikeWorths_26 : decode cX3_unlikeWorths 26 = .ok (.iload_n 2, 1) := by decide +kernel
theorem dX3_unlikeWorths_27 : decode cX3_unlikeWorths 27 = .ok (.iconst 1, 1) := by decide +kernel
theorem dX3_unlikeWorths_28 : decode cX3_unlikeWorths 28 = .ok (.isub, 1) := by decide +kernel
theorem dX3_unlikeWorths_29 : decode cX3_unlikeWorths 29 = .ok (.iaload, 1) := by decide +kernel
theorem dX3_unlikeWorths_30 : decode cX3_unlikeWorths 30 = .ok (.if_icmp .eq 6, 3) := by decide +kernel
theorem dX3_unlikeWorths_33 : decode cX3_unlikeWorths 33 = .ok (.iinc 1 1, 3) := by decide +kernel
theorem dX3_unlikeWorths_36 : decode cX3_unlikeWorths 36 = .ok (.iinc 2 1, 3) := by decide +kernel
theorem dX3_unlikeWorths_39 : decode cX3_unlikeWorths 39 = .ok (.goto (-35), 3) := by decide +kernel
theorem dX3_unlikeWorths_42 : decode cX3_unlikeWorths 42 = .ok (.iload_n 1, 1) := by decide +kernel
theorem dX3_unlikeWorths_43 : decode cX3_unlikeWorths 43 = .ok (.ireturn, 1) := by decide +kernel
theorem dX3_sortWorths_0 : decode cX3_sortWorths 0 = .ok (.iconst 1, 1) := by decide +kernel
theorem dX3_sortWorths_1 : decode cX3_sortWorths 1 = .ok (.istore_n 1, 1) := by decide +kernel
theorem dX3_sortWorths_2 : decode cX3_sortWorths 2 = .ok (.iload_n 1, 1) := by decide +kernel
theorem dX3_sortWorths_3 : decode cX3_sortWorths 3 = .ok (.aload_n 0, 1) := by decide +kernel
theorem dX3_sortWorths_4 : decode cX3_sortWorths 4 = .ok (.getfield 38, 3) := by decide +kernel
theorem dX3_sortWorths_7 : decode cX3_sortWorths 7 = .ok (.if_icmp .ge 61, 3) := by decide +kernel
theorem dX3_sortWorths_10 : decode cX3_sortWorths 10 = .ok (.aload_n 0, 1) := by decide +kernel
theorem dX3_sortWorths_11 : decode cX3_sortWorths 11 = .ok (.getfield 27, 3) := by decide +kernel
theorem dX3_sortWorths_14 : decode cX3_sortWorths 14 = .ok (.iload_n 1, 1) := by decide +kernel
theorem dX3_sortWorths_15 : decode cX3_sortWorths 15 = .ok (.iaload, 1) := by decide +kernel
theorem dX3_sortWorths_16 : decode cX3_sortWorths 16 = .ok (.istore_n 2, 1) := by decide +kernel
theorem dX3_sortWorths_17 : decode cX3_sortWorths 17 = .ok (.iload_n 1, 1) := by decide +kernel
theorem dX3_sortWorths_18 : decode cX3_sortWorths 18 = .ok (.istore_n 3, 1) := by decide +kernel
theorem dX3_sortWorths_19 : decode cX3_sortWorths 19 = .ok (.iload_n 3, 1) := by decide +kernel
theorem dX3_sortWorths_20 : decode cX3_sortWorths 20 = .ok (.ifCond .le 35, 3) := by decide +kernel
theorem dX3_sortWorths_23 : decode cX3_sortWorths 23 = .ok (.aload_n 0, 1) := by decide +kernel
theorem dX3_sortWorths_24 : decode cX3_sortWorths 24 = .ok (.getfield 27, 3) := by decide +kernel
theorem dX3_sortWorths_27 : decode cX3_sortWorths 27 = .ok (.iload_n 3, 1) := by decide +kernel
theorem dX3_sortWorths_28 : decode cX3_sortWorths 28 = .ok (.iconst 1, 1) := by decide +kernel
theorem dX3_sortWorths_29 : decode cX3_sortWorths 29 = .ok (.isub, 1) := by decide +kernel
theorem dX3_sortWorths_30 : decode cX3_sortWorths 30 = .ok (.iaload, 1) := by decide +kernel
theorem dX3_sortWorths_31 : decode cX3_sortWorths 31 = .ok (.iload_n 2, 1) := by decide +kernel
theorem dX3_sortWorths_32 : decode cX3_sortWorths 32 = .ok (.if_icmp .le 23, 3) := by decide +kernel
theorem dX3_sortWorths_35 : decode cX3_sortWorths 35 = .ok (.aload_n 0, 1) := by decide +kernel
theorem dX3_sortWorths_36 : decode cX3_sortWorths 36 = .ok (.getfield 27, 3) := by decide +kernel
theorem dX3_sortWorths_39 : decode cX3_sortWorths 39 = .ok (.iload_n 3, 1) := by decide +kernel
theorem dX3_sortWorths_40 : decode cX3_sortWorths 40 = .ok (.aload_n 0, 1) := by decide +kernel
theorem dX3_sortWorths_41 : decode cX3_sortWorths 41 = .ok (.getfield 27, 3) := by decide +kernel
theorem dX3_sortWorths_44 : decode cX3_sortWorths 44 = .ok (.iload_n 3, 1) := by decide +kernel
theorem dX3_sortWorths_45 : decode cX3_sortWorths 45 = .ok (.iconst 1, 1) := by decide +kernel
theorem dX3_sortWorths_46 : decode cX3_sortWorths 46 = .ok (.isub, 1) := by decide +kernel
theorem dX3_sortWorths_47 : decode cX3_sortWorths 47 = .ok (.iaload, 1) := by decide +kernel
theorem dX3_sortWorths_48 : decode cX3_sortWorths 48 = .ok (.iastore, 1) := by decide +kernel
theorem dX3_sortWorths_49 : decode cX3_sortWorths 49 = .ok (.iinc 3 (-1), 3) := by decide +kernel
theorem dX3_sortWorths_52 : decode cX3_sortWorths 52 = .ok (.goto (-33), 3) := by decide +kernel
theorem dX3_sortWorths_55 : decode cX3_sortWorths 55 = .ok (.aload_n 0, 1) := by decide +kernel
theorem dX3_sortWorths_56 : decode cX3_sortWorths 56 = .ok (.getfield 27, 3) := by decide +kernel
theorem dX3_sortWorths_59 : decode cX3_sortWorths 59 = .ok (.iload_n 3, 1) := by decide +kernel
theorem dX3_sortWorths_60 : decode cX3_sortWorths 60 = .ok (.iload_n 2, 1) := by decide +kernel
theorem dX3_sortWorths_61 : decode cX3_sortWorths 61 = .ok (.iastore, 1) := by decide +kernel
theorem dX3_sortWorths_62 : decode cX3_sortWorths 62 = .ok (.iinc 1 1, 3) := by decide +kernel
theorem dX3_sortWorths_65 : decode cX3_sortWorths 65 = .ok (.goto (-63), 3) := by decide +kernel
theorem dX3_sortWorths_68 : decode cX3_sortWorths 68 = .ok (.return_, 1) := by decide +kernel
theorem dX4_init_0 : decode cX4_init 0 = .ok (.aload_n 0, 1) := by decide +kernel
theorem dX4_init_1 : decode cX4_init 1 = .ok (.invokespecial 3, 3) := by decide +kernel
theorem dX4_init_4 : decode cX4_init 4 = .ok (.aload_n 0, 1) := by decide +kernel
theorem dX4_init_5 : decode cX4_init 5 = .ok (.new 9, 3) := by decide +kernel
theorem dX4_init_8 : decode cX4_init 8 = .ok (.dup, 1) := by decide +kernel
theorem dX4_init_9 : decode cX4_init 9 = .ok (.invokespecial 11, 3) := by decide +kernel
theorem dX4_init_12 : decode cX4_init 12 = .ok (.putfield 12, 3) := by decide +kernel
theorem dX4_init_15 : decode cX4_init 15 = .ok (.aload_n 0, 1) := by decide +kernel
theorem dX4_init_16 : decode cX4_init 16 = .ok (.bipush 40, 2) := by decide +kernel
theorem dX4_init_18 : decode cX4_init 18 = .ok (.newarray .int, 2) := by decide +kernel
theorem dX4_init_20 : decode cX4_init 20 = .ok (.putfield 18, 3) := by decide +kernel
theorem dX4_init_23 : decode cX4_init 23 = .ok (.aload_n 0, 1) := by decide +kernel
theorem dX4_init_24 : decode cX4_init 24 = .ok (.bipush 40, 2) := by decide +kernel
theorem dX4_init_26 : decode cX4_init 26 = .ok (.newarray .int, 2) := by decide +kernel
theorem dX4_init_28 : decode cX4_init 28 = .ok (.putfield 22, 3) := by decide +kernel
theorem dX4_init_31 : decode cX4_init 31 = .ok (.aload_n 0, 1) := by decide +kernel
theorem dX4_init_32 : decode cX4_init 32 = .ok (.bipush 40, 2) := by decide +kernel
theorem dX4_init_34 : decode cX4_init 34 = .ok (.newarray .int, 2) := by decide +kernel
theorem dX4_init_36 : decode cX4_init 36 = .ok (.putfield 25, 3) := by decide +kernel
theorem dX4_init_39 : decode cX4_init 39 = .ok (.aload_n 0, 1) := by decide +kernel
theorem dX4_init_40 : decode cX4_init 40 = .ok (.bipush 40, 2) := by decide +kernel
theorem dX4_init_42 : decode cX4_init 42 = .ok (.newarray .int, 2) := by decide +kernel
theorem dX4_init_44 : decode cX4_init 44 = .ok (.putfield 28, 3) := by decide +kernel
theorem dX4_init_47 : decode cX4_init 47 = .ok (.return_, 1) := by decide +kernel
theorem dX4_settle_0 : decode cX4_settle 0 = .ok (.aload_n 0, 1) := by decide +kernel
theorem dX4_settle_1 : decode cX4_settle 1 = .ok (.invokevirtual 31, 3) := by decide +kernel
theorem dX4_settle_4 : decode cX4_settle 4 = .ok (.iconst 0, 1) := by decide +kernel
theorem dX4_settle_5 : decode cX4_settle 5 = .ok (.istore_n 1, 1) := by decide +kernel
theorem dX4_settle_6 : decode cX4_settle 6 = .ok (.iload_n 1, 1) := by decide +kernel
theorem dX4_settle_7 : decode cX4_settle 7 = .ok (.aload_n 0, 1) := by decide +kernel
theorem dX4_settle_8 : decode cX4_settle 8 = .ok (.getfield 12, 3) := by decide +kernel
theorem dX4_settle_11 : decode cX4_settle 11 = .ok (.getfield 34, 3) := by decide +kernel
theorem dX4_settle_14 : decode cX4_settle 14 = .ok (.if_icmp .ge 14, 3) := by decide +kernel
theorem dX4_settle_17 : decode cX4_settle 17 = .ok (.aload_n 0, 1) := by decide +kernel
theorem dX4_settle_18 : decode cX4_settle 18 = .ok (.iload_n 1, 1) := by decide +kernel
theorem dX4_settle_19 : decode cX4_settle 19 = .ok (.invokevirtual 38, 3) := by decide +kernel
theorem dX4_settle_22 : decode cX4_settle 22 = .ok (.iinc 1 1, 3) := by decide +kernel
theorem dX4_settle_25 : decode cX4_settle 25 = .ok (.goto (-19), 3) := by decide +kernel
theorem dX4_settle_28 : decode cX4_settle 28 = .ok (.return_, 1) := by decide +kernel
theorem dX4_sort_0 : decode cX4_sort 0 = .ok (.iconst 0, 1) := by decide +kernel
theorem dX4_sort_1 : decode cX4_sort 1 = .ok (.istore_n 1, 1) := by decide +kernel
theorem dX4_sort_2 : decode cX4_sort 2 = .ok (.iload_n 1, 1) := by decide +kernel
theorem dX4_sort_3 : decode cX4_sort 3 = .ok (.aload_n 0, 1) := by decide +kernel
theorem dX4_sort_4 : decode cX4_sort 4 = .ok (.getfield 12, 3) := by decide +kernel
theorem dX4_sort_7 : decode cX4_sort 7 = .ok (.getfield 34, 3) := by decide +kernel
theorem dX4_sort_10 : decode cX4_sort 10 = .ok (.if_icmp .ge 78, 3) := by decide +kernel
theorem dX4_sort_13 : decode cX4_sort 13 = .ok (.iload_n 1, 1) := by decide +kernel
theorem dX4_sort_14 : decode cX4_sort 14 = .ok (.istore_n 2, 1) := by decide +kernel
theorem dX4_sort_15 : decode cX4_sort 15 = .ok (.iload_n 2, 1) := by decide +kernel
theorem dX4_sort_16 : decode cX4_sort 16 = .ok (.ifCond .le 59, 3) := by decide +kernel
theorem dX4_sort_19 : decode cX4_sort 19 = .ok (.aload_n 0, 1) := by decide +kernel
theorem dX4_sort_20 : decode cX4_sort 20 = .ok (.getfield 12, 3) := by decide +kernel
theorem dX4_sort_23 : decode cX4_sort 23 = .ok (.aload_n 0, 1) := by decide +kernel
theorem dX4_sort_24 : decode cX4_sort 24 = .ok (.getfield 12, 3) := by decide +kernel
theorem dX4_sort_27 : decode cX4_sort 27 = .ok (.getfield 42, 3) := by decide +kernel
theorem dX4_sort_30 : decode cX4_sort 30 = .ok (.iload_n 1, 1) := by decide +kernel
theorem dX4_sort_31 : decode cX4_sort 31 = .ok (.iaload, 1) := by decide +kernel
theorem dX4_sort_32 : decode cX4_sort 32 = .ok (.aload_n 0, 1) := by decide +kernel
theorem dX4_sort_33 : decode cX4_sort 33 = .ok (.getfield 12, 3) := by decide +kernel
theorem dX4_sort_36 : decode cX4_sort 36 = .ok (.getfield 45, 3) := by decide +kernel
theorem dX4_sort_39 : decode cX4_sort 39 = .ok (.iload_n 1, 1) := by decide +kernel
theorem dX4_sort_40 : decode cX4_sort 40 = .ok (.iaload, 1) := by decide +kernel
theorem dX4_sort_41 : decode cX4_sort 41 = .ok (.aload_n 0, 1) := by decide +kernel
theorem dX4_sort_42 : decode cX4_sort 42 = .ok (.getfield 18, 3) := by decide +kernel
theorem dX4_sort_45 : decode cX4_sort 45 = .ok (.iload_n 2, 1) := by decide +kernel
theorem dX4_sort_46 : decode cX4_sort 46 = .ok (.iconst 1, 1) := by decide +kernel
theorem dX4_sort_47 : decode cX4_sort 47 = .ok (.isub, 1) := by decide +kernel
theorem dX4_sort_48 : decode cX4_sort 48 = .ok (.iaload, 1) := by decide +kernel
theorem dX4_sort_49 : decode cX4_sort 49 = .ok (.invokevirtual 48, 3) := by decide +kernel
theorem dX4_sort_52 : decode cX4_sort 52 = .ok (.ifCond .eq 23, 3) := by decide +kernel
theorem dX4_sort_55 : decode cX4_sort 55 = .ok (.aload_n 0, 1) := by decide +kernel
theorem dX4_sort_56 : decode cX4_sort 56 = .ok (.getfield 18, 3) := by decide +kernel
theorem dX4_sort_59 : decode cX4_sort 59 = .ok (.iload_n 2, 1) := by decide +kernel
theorem dX4_sort_60 : decode cX4_sort 60 = .ok (.aload_n 0, 1) := by decide +kernel
theorem dX4_sort_61 : decode cX4_sort 61 = .ok (.getfield 18, 3) := by decide +kernel
theorem dX4_sort_64 : decode cX4_sort 64 = .ok (.iload_n 2, 1) := by decide +kernel
theorem dX4_sort_65 : decode cX4_sort 65 = .ok (.iconst 1, 1) := by decide +kernel
theorem dX4_sort_66 : decode cX4_sort 66 = .ok (.isub, 1) := by decide +kernel
theorem dX4_sort_67 : decode cX4_sort 67 = .ok (.iaload, 1) := by decide +kernel
theorem dX4_sort_68 : decode cX4_sort 68 = .ok (.iastore, 1) := by decide +kernel
theorem dX4_sort_69 : decode cX4_sort 69 = .ok (.iinc 2 (-1), 3) := by decide +kernel
theorem dX4_sort_72 : decode cX4_sort 72 = .ok (.goto (-57), 3) := by decide +kernel
theorem dX4_sort_75 : decode cX4_sort 75 = .ok (.aload_n 0, 1) := by decide +kernel
theorem dX4_sort_76 : decode cX4_sort 76 = .ok (.getfield 18, 3) := by decide +kernel
theorem dX4_sort_79 : decode cX4_sort 79 = .ok (.iload_n 2, 1) := by decide +kernel
theorem dX4_sort_80 : decode cX4_sort 80 = .ok (.iload_n 1, 1) := by decide +kernel
theorem dX4_sort_81 : decode cX4_sort 81 = .ok (.iastore, 1) := by decide +kernel
theorem dX4_sort_82 : decode cX4_sort 82 = .ok (.iinc 1 1, 3) := by decide +kernel
theorem dX4_sort_85 : decode cX4_sort 85 = .ok (.goto (-83), 3) := by decide +kernel
theorem dX4_sort_88 : decode cX4_sort 88 = .ok (.return_, 1) := by decide +kernel
theorem dX4_number_0 : decode cX4_number 0 = .ok (.aload_n 0, 1) := by decide +kernel
theorem dX4_number_1 : decode cX4_number 1 = .ok (.getfield 18, 3) := by decide +kernel
theorem dX4_number_4 : decode cX4_number 4 = .ok (.iload_n 1, 1) := by decide +kernel
theorem dX4_number_5 : decode cX4_number 5 = .ok (.iaload, 1) := by decide +kernel
theorem dX4_number_6 : decode cX4_number 6 = .ok (.istore_n 2, 1) := by decide +kernel
theorem dX4_number_7 : decode cX4_number 7 = .ok (.aload_n 0, 1) := by decide +kernel
theorem dX4_number_8 : decode cX4_number 8 = .ok (.getfield 22, 3) := by decide +kernel
theorem dX4_number_11 : decode cX4_number 11 = .ok (.iload_n 2, 1) := by decide +kernel
theorem dX4_number_12 : decode cX4_number 12 = .ok (.iload_n 1, 1) := by decide +kernel
theorem dX4_number_13 : decode cX4_number 13 = .ok (.iastore, 1) := by decide +kernel
theorem dX4_number_14 : decode cX4_number 14 = .ok (.aload_n 0, 1) := by decide +kernel
theorem dX4_number_15 : decode cX4_number 15 = .ok (.getfield 25, 3) := by decide +kernel
theorem dX4_number_18 : decode cX4_number 18 = .ok (.iload_n 2, 1) := by decide +kernel
theorem dX4_number_19 : decode cX4_number 19 = .ok (.iconst 0, 1) := by decide +kernel
theorem dX4_number_20 : decode cX4_number 20 = .ok (.iastore, 1) := by decide +kernel
theorem dX4_number_21 : decode cX4_number 21 = .ok (.aload_n 0, 1) := by decide +kernel
theorem dX4_number_22 : decode cX4_number 22 = .ok (.getfield 28, 3) := by decide +kernel
theorem dX4_number_25 : decode cX4_number 25 = .ok (.iload_n 2, 1) := by decide +kernel
theorem dX4_number_26 : decode cX4_number 26 = .ok (.iconst 0, 1) := by decide +kernel
theorem dX4_number_27 : decode cX4_number 27 = .ok (.iastore, 1) := by decide +kernel
theorem dX4_number_28 : decode cX4_number 28 = .ok (.iload_n 1, 1) := by decide +kernel
theorem dX4_number_29 : decode cX4_number 29 = .ok (.ifCond .le 89, 3) := by decide +kernel
theorem dX4_number_32 : decode cX4_number 32 = .ok (.aload_n 0, 1) := by decide +kernel
theorem dX4_number_33 : decode cX4_number 33 = .ok (.getfield 12, 3) := by decide +kernel
theorem dX4_number_36 : decode cX4_number 36 = .ok (.getfield 42, 3) := by decide +kernel
theorem dX4_number_39 : decode cX4_number 39 = .ok (.aload_n 0, 1) := by decide +kernel
theorem dX4_number_40 : decode cX4_number 40 = .ok (.getfield 18, 3) := by decide +kernel
theorem dX4_number_43 : decode cX4_number 43 = .ok (.iload_n 1, 1) := by decide +kernel
theorem dX4_number_44 : decode cX4_number 44 = .ok (.iconst 1, 1) := by decide +kernel
theorem dX4_number_45 : decode cX4_number 45 = .ok (.isub, 1) := by decide +kernel
theorem dX4_number_46 : decode cX4_number 46 = .ok (.iaload, 1) := by decide +kernel
theorem dX4_number_47 : decode cX4_number 47 = .ok (.iaload, 1) := by decide +kernel
theorem dX4_number_48 : decode cX4_number 48 = .ok (.aload_n 0, 1) := by decide +kernel
theorem dX4_number_49 : decode cX4_number 49 = .ok (.getfield 12, 3) := by decide +kernel
theorem dX4_number_52 : decode cX4_number 52 = .ok (.getfield 42, 3) := by decide +kernel
theorem dX4_number_55 : decode cX4_number 55 = .ok (.iload_n 2, 1) := by decide +kernel
theorem dX4_number_56 : decode cX4_number 56 = .ok (.iaload, 1) := by decide +kernel
theorem dX4_number_57 : decode cX4_number 57 = .ok (.if_icmp .ne 61, 3) := by decide +kernel
theorem dX4_number_60 : decode cX4_number 60 = .ok (.aload_n 0, 1) := by decide +kernel
theorem dX4_number_61 : decode cX4_number 61 = .ok (.getfield 18, 3) := by decide +kernel
theorem dX4_number_64 : decode cX4_number 64 = .ok (.iload_n 1, 1) := by decide +kernel
theorem dX4_number_65 : decode cX4_number 65 = .ok (.iconst 1, 1) := by decide +kernel
theorem dX4_number_66 : decode cX4_number 66 = .ok (.isub, 1) := by decide +kernel
theorem dX4_number_67 : decode cX4_number 67 = .ok (.iaload, 1) := by decide +kernel
theorem dX4_number_68 : decode cX4_number 68 = .ok (.istore_n 3, 1) := by decide +kernel
theorem dX4_number_69 : decode cX4_number 69 = .ok (.aload_n 0, 1) := by decide +kernel
theorem dX4_number_70 : decode cX4_number 70 = .ok (.getfield 25, 3) := by decide +kernel
theorem dX4_number_73 : decode cX4_number 73 = .ok (.iload_n 2, 1) := by decide +kernel
theorem dX4_number_74 : decode cX4_number 74 = .ok (.aload_n 0, 1) := by decide +kernel
theorem dX4_number_75 : decode cX4_number 75 = .ok (.getfield 25, 3) := by decide +kernel
theorem dX4_number_78 : decode cX4_number 78 = .ok (.iload_n 3, 1) := by decide +kernel
theorem dX4_number_79 : decode cX4_number 79 = .ok (.iaload, 1) := by decide +kernel
theorem dX4_number_80 : decode cX4_number 80 = .ok (.iconst 1, 1) := by decide +kernel
theorem dX4_number_81 : decode cX4_number 81 = .ok (.iadd, 1) := by decide +kernel
theorem dX4_number_82 : decode cX4_number 82 = .ok (.iastore, 1) := by decide +kernel
theorem dX4_number_83 : decode cX4_number 83 = .ok (.aload_n 0, 1) := by decide +kernel
theorem dX4_number_84 : decode cX4_number 84 = .ok (.getfield 28, 3) := by decide +kernel
theorem dX4_number_87 : decode cX4_number 87 = .ok (.iload_n 2, 1) := by decide +kernel
theorem dX4_number_88 : decode cX4_number 88 = .ok (.aload_n 0, 1) := by decide +kernel
theorem dX4_number_89 : decode cX4_number 89 = .ok (.getfield 12, 3) := by decide +kernel
theorem dX4_number_92 : decode cX4_number 92 = .ok (.iload_n 3, 1) := by decide +kernel
theorem dX4_number_93 : decode cX4_number 93 = .ok (.iload_n 2, 1) := by decide +kernel
theorem dX4_number_94 : decode cX4_number 94 = .ok (.invokevirtual 52, 3) := by decide +kernel
theorem dX4_number_97 : decode cX4_number 97 = .ok (.ifCond .eq 12, 3) := by decide +kernel
theorem dX4_number_100 : decode cX4_number 100 = .ok (.aload_n 0, 1) := by decide +kernel
theorem dX4_number_101 : decode cX4_number 101 = .ok (.getfield 28, 3) := by decide +kernel
theorem dX4_number_104 : decode cX4_number 104 = .ok (.iload_n 3, 1) := by decide +kernel
theorem dX4_number_105 : decode cX4_number 105 = .ok (.iaload, 1) := by decide +kernel
theorem dX4_number_106 : decode cX4_number 106 = .ok (.goto 11, 3) := by decide +kernel
theorem dX4_number_109 : decode cX4_number 109 = .ok (.aload_n 0, 1) := by decide +kernel
theorem dX4_number_110 : decode cX4_number 110 = .ok (.getfield 28, 3) := by decide +kernel
theorem dX4_number_113 : decode cX4_number 113 = .ok (.iload_n 3, 1) := by decide +kernel
theorem dX4_number_114 : decode cX4_number 114 = .ok (.iaload, 1) := by decide +kernel
theorem dX4_number_115 : decode cX4_number 115 = .ok (.iconst 1, 1) := by decide +kernel
theorem dX4_number_116 : decode cX4_number 116 = .ok (.iadd, 1) := by decide +kernel
theorem dX4_number_117 : decode cX4_number 117 = .ok (.iastore, 1) := by decide +kernel
theorem dX4_number_118 : decode cX4_number 118 = .ok (.return_, 1) := by decide +kernel
theorem dX4_at_0 : decode cX4_at 0 = .ok (.iload_n 1, 1) := by decide +kernel
theorem dX4_at_1 : decode cX4_at 1 = .ok (.ifCond .lt 23, 3) := by decide +kernel
theorem dX4_at_4 : decode cX4_at 4 = .ok (.iload_n 1, 1) := by decide +kernel
theorem dX4_at_5 : decode cX4_at 5 = .ok (.aload_n 0, 1) := by decide +kernel
theorem dX4_at_6 : decode cX4_at 6 = .ok (.getfield 12, 3) := by decide +kernel
theorem dX4_at_9 : decode cX4_at 9 = .ok (.getfield 34, 3) := by decide +kernel
theorem dX4_at_12 : decode cX4_at 12 = .ok (.if_icmp .ge 12, 3) := by decide +kernel
theorem dX4_at_15 : decode cX4_at 15 = .ok (.aload_n 0, 1) := by decide +kernel
theorem dX4_at_16 : decode cX4_at 16 = .ok (.getfield 18, 3) := by decide +kernel
theorem dX4_at_19 : decode cX4_at 19 = .ok (.iload_n 1, 1) := by decide +kernel
theorem dX4_at_20 : decode cX4_at 20 = .ok (.iaload, 1) := by decide +kernel
theorem dX4_at_21 : decode cX4_at 21 = .ok (.goto 4, 3) := by decide +kernel
theorem dX4_at_24 : decode cX4_at 24 = .ok (.iconst (-1), 1) := by decide +kernel
theorem dX4_at_25 : decode cX4_at 25 = .ok (.ireturn, 1) := by decide +kernel
theorem dX4_partsHeld_0 : decode cX4_partsHeld 0 = .ok (.iconst 0, 1) := by decide +kernel
theorem dX4_partsHeld_1 : decode cX4_partsHeld 1 = .ok (.istore_n 1, 1) := by decide +kernel
theorem dX4_partsHeld_2 : decode cX4_partsHeld 2 = .ok (.iconst 0, 1) := by decide +kernel
theorem dX4_partsHeld_3 : decode cX4_partsHeld 3 = .ok (.istore_n 2, 1) := by decide +kernel
theorem dX4_partsHeld_4 : decode cX4_partsHeld 4 = .ok (.iload_n 2, 1) := by decide +kernel
theorem dX4_partsHeld_5 : decode cX4_partsHeld 5 = .ok (.aload_n 0, 1) := by decide +kernel
theorem dX4_partsHeld_6 : decode cX4_partsHeld 6 = .ok (.getfield 12, 3) := by decide +kernel
theorem dX4_partsHeld_9 : decode cX4_partsHeld 9 = .ok (.getfield 34, 3) := by decide +kernel
theorem dX4_partsHeld_12 : decode cX4_partsHeld 12 = .ok (.if_icmp .ge 21, 3) := by decide +kernel
theorem dX4_partsHeld_15 : decode cX4_partsHeld 15 = .ok (.aload_n 0, 1) := by decide +kernel
theorem dX4_partsHeld_16 : decode cX4_partsHeld 16 = .ok (.getfield 25, 3) := by decide +kernel
theorem dX4_partsHeld_19 : decode cX4_partsHeld 19 = .ok (.iload_n 2, 1) := by decide +kernel
theorem dX4_partsHeld_20 : decode cX4_partsHeld 20 = .ok (.iaload, 1) := by decide +kernel
theorem dX4_partsHeld_21 : decode cX4_partsHeld 21 = .ok (.ifCond .ne 6, 3) := by decide +kernel
theorem dX4_partsHeld_24 : decode cX4_partsHeld 24 = .ok (.iinc 1 1, 3) := by decide +kernel
theorem dX4_partsHeld_27 : decode cX4_partsHeld 27 = .ok (.iinc 2 1, 3) := by decide +kernel
theorem dX4_partsHeld_30 : decode cX4_partsHeld 30 = .ok (.goto (-26), 3) := by decide +kernel
theorem dX4_partsHeld_33 : decode cX4_partsHeld 33 = .ok (.iload_n 1, 1) := by decide +kernel
theorem dX4_partsHeld_34 : decode cX4_partsHeld 34 = .ok (.ireturn, 1) := by decide +kernel
theorem dX4_groupsHeld_0 : decode cX4_groupsHeld 0 = .ok (.iconst 0, 1) := by decide +kernel
theorem dX4_groupsHeld_1 : decode cX4_groupsHeld 1 = .ok (.istore_n 1, 1) := by decide +kernel
theorem dX4_groupsHeld_2 : decode cX4_groupsHeld 2 = .ok (.iconst 0, 1) := by decide +kernel
theorem dX4_groupsHeld_3 : decode cX4_groupsHeld 3 = .ok (.istore_n 2, 1) := by decide +kernel
theorem dX4_groupsHeld_4 : decode cX4_groupsHeld 4 = .ok (.iload_n 2, 1) := by decide +kernel
theorem dX4_groupsHeld_5 : decode cX4_groupsHeld 5 = .ok (.aload_n 0, 1) := by decide +kernel
theorem dX4_groupsHeld_6 : decode cX4_groupsHeld 6 = .ok (.getfield 12, 3) := by decide +kernel
theorem dX4_groupsHeld_9 : decode cX4_groupsHeld 9 = .ok (.getfield 34, 3) := by decide +kernel
theorem dX4_groupsHeld_12 : decode cX4_groupsHeld 12 = .ok (.if_icmp .ge 26, 3) := by decide +kernel
theorem dX4_groupsHeld_15 : decode cX4_groupsHeld 15 = .ok (.aload_n 0, 1) := by decide +kernel
theorem dX4_groupsHeld_16 : decode cX4_groupsHeld 16 = .ok (.iload_n 2, 1) := by decide +kernel
theorem dX4_groupsHeld_17 : decode cX4_groupsHeld 17 = .ok (.invokevirtual 56, 3) := by decide +kernel
theorem dX4_groupsHeld_20 : decode cX4_groupsHeld 20 = .ok (.aload_n 0, 1) := by decide +kernel
theorem dX4_groupsHeld_21 : decode cX4_groupsHeld 21 = .ok (.getfield 25, 3) := by decide +kernel
theorem dX4_groupsHeld_24 : decode cX4_groupsHeld 24 = .ok (.iload_n 2, 1) := by decide +kernel
theorem dX4_groupsHeld_25 : decode cX4_groupsHeld 25 = .ok (.iaload, 1) := by decide +kernel
theorem dX4_groupsHeld_26 : decode cX4_groupsHeld 26 = .ok (.if_icmp .ne 6, 3) := by decide +kernel
theorem dX4_groupsHeld_29 : decode cX4_groupsHeld 29 = .ok (.iinc 1 1, 3) := by decide +kernel
theorem dX4_groupsHeld_32 : decode cX4_groupsHeld 32 = .ok (.iinc 2 1, 3) := by decide +kernel
theorem dX4_groupsHeld_35 : decode cX4_groupsHeld 35 = .ok (.goto (-31), 3) := by decide +kernel
theorem dX4_groupsHeld_38 : decode cX4_groupsHeld 38 = .ok (.iload_n 1, 1) := by decide +kernel
theorem dX4_groupsHeld_39 : decode cX4_groupsHeld 39 = .ok (.ireturn, 1) := by decide +kernel
theorem dX4_aheadOfPeers_0 : decode cX4_aheadOfPeers 0 = .ok (.iconst 0, 1) := by decide +kernel
theorem dX4_aheadOfPeers_1 : decode cX4_aheadOfPeers 1 = .ok (.istore_n 2, 1) := by decide +kernel
theorem dX4_aheadOfPeers_2 : decode cX4_aheadOfPeers 2 = .ok (.iconst 0, 1) := by decide +kernel
theorem dX4_aheadOfPeers_3 : decode cX4_aheadOfPeers 3 = .ok (.istore_n 3, 1) := by decide +kernel
theorem dX4_aheadOfPeers_4 : decode cX4_aheadOfPeers 4 = .ok (.iload_n 3, 1) := by decide +kernel
theorem dX4_aheadOfPeers_5 : decode cX4_aheadOfPeers 5 = .ok (.aload_n 0, 1) := by decide +kernel
theorem dX4_aheadOfPeers_6 : decode cX4_aheadOfPeers 6 = .ok (.getfield 12, 3) := by decide +kernel
theorem dX4_aheadOfPeers_9 : decode cX4_aheadOfPeers 9 = .ok (.getfield 34, 3) := by decide +kernel
theorem dX4_aheadOfPeers_12 : decode cX4_aheadOfPeers 12 = .ok (.if_icmp .ge 48, 3) := by decide +kernel
theorem dX4_aheadOfPeers_15 : decode cX4_aheadOfPeers 15 = .ok (.aload_n 0, 1) := by decide +kernel
theorem dX4_aheadOfPeers_16 : decode cX4_aheadOfPeers 16 = .ok (.getfield 12, 3) := by decide +kernel
theorem dX4_aheadOfPeers_19 : decode cX4_aheadOfPeers 19 = .ok (.getfield 42, 3) := by decide +kernel
theorem dX4_aheadOfPeers_22 : decode cX4_aheadOfPeers 22 = .ok (.iload_n 3, 1) := by decide +kernel
theorem dX4_aheadOfPeers_23 : decode cX4_aheadOfPeers 23 = .ok (.iaload, 1) := by decide +kernel
theorem dX4_aheadOfPeers_24 : decode cX4_aheadOfPeers 24 = .ok (.aload_n 0, 1) := by decide +kernel
theorem dX4_aheadOfPeers_25 : decode cX4_aheadOfPeers 25 = .ok (.getfield 12, 3) := by decide +kernel
theorem dX4_aheadOfPeers_28 : decode cX4_aheadOfPeers 28 = .ok (.getfield 42, 3) := by decide +kernel
theorem dX4_aheadOfPeers_31 : decode cX4_aheadOfPeers 31 = .ok (.iload_n 1, 1) := by decide +kernel
theorem dX4_aheadOfPeers_32 : decode cX4_aheadOfPeers 32 = .ok (.iaload, 1) := by decide +kernel
theorem dX4_aheadOfPeers_33 : decode cX4_aheadOfPeers 33 = .ok (.if_icmp .ne 21, 3) := by decide +kernel
theorem dX4_aheadOfPeers_36 : decode cX4_aheadOfPeers 36 = .ok (.aload_n 0, 1) := by decide +kernel
theorem dX4_aheadOfPeers_37 : decode cX4_aheadOfPeers 37 = .ok (.getfield 28, 3) := by decide +kernel
theorem dX4_aheadOfPeers_40 : decode cX4_aheadOfPeers 40 = .ok (.iload_n 3, 1) := by decide +kernel
theorem dX4_aheadOfPeers_41 : decode cX4_aheadOfPeers 41 = .ok (.iaload, 1) := by decide +kernel
theorem dX4_aheadOfPeers_42 : decode cX4_aheadOfPeers 42 = .ok (.aload_n 0, 1) := by decide +kernel
theorem dX4_aheadOfPeers_43 : decode cX4_aheadOfPeers 43 = .ok (.getfield 28, 3) := by decide +kernel
theorem dX4_aheadOfPeers_46 : decode cX4_aheadOfPeers 46 = .ok (.iload_n 1, 1) := by decide +kernel
theorem dX4_aheadOfPeers_47 : decode cX4_aheadOfPeers 47 = .ok (.iaload, 1) := by decide +kernel
theorem dX4_aheadOfPeers_48 : decode cX4_aheadOfPeers 48 = .ok (.if_icmp .ge 6, 3) := by decide +kernel
theorem dX4_aheadOfPeers_51 : decode cX4_aheadOfPeers 51 = .ok (.iinc 2 1, 3) := by decide +kernel
theorem dX4_aheadOfPeers_54 : decode cX4_aheadOfPeers 54 = .ok (.iinc 3 1, 3) := by decide +kernel
theorem dX4_aheadOfPeers_57 : decode cX4_aheadOfPeers 57 = .ok (.goto (-53), 3) := by decide +kernel
theorem dX4_aheadOfPeers_60 : decode cX4_aheadOfPeers 60 = .ok (.iload_n 2, 1) := by decide +kernel
theorem dX4_aheadOfPeers_61 : decode cX4_aheadOfPeers 61 = .ok (.ireturn, 1) := by decide +kernel
theorem dX4_peersOf_0 : decode cX4_peersOf 0 = .ok (.iconst 0, 1) := by decide +kernel
theorem dX4_peersOf_1 : decode cX4_peersOf 1 = .ok (.istore_n 2, 1) := by decide +kernel
theorem dX4_peersOf_2 : decode cX4_peersOf 2 = .ok (.iconst 0, 1) := by decide +kernel
theorem dX4_peersOf_3 : decode cX4_peersOf 3 = .ok (.istore_n 3, 1) := by decide +kernel
theorem dX4_peersOf_4 : decode cX4_peersOf 4 = .ok (.iload_n 3, 1) := by decide +kernel
theorem dX4_peersOf_5 : decode cX4_peersOf 5 = .ok (.aload_n 0, 1) := by decide +kernel
theorem dX4_peersOf_6 : decode cX4_peersOf 6 = .ok (.getfield 12, 3) := by decide +kernel
theorem dX4_peersOf_9 : decode cX4_peersOf 9 = .ok (.getfield 34, 3) := by decide +kernel
theorem dX4_peersOf_12 : decode cX4_peersOf 12 = .ok (.if_icmp .ge 24, 3) := by decide +kernel
theorem dX4_peersOf_15 : decode cX4_peersOf 15 = .ok (.aload_n 0, 1) := by decide +kernel
theorem dX4_peersOf_16 : decode cX4_peersOf 16 = .ok (.getfield 12, 3) := by decide +kernel
theorem dX4_peersOf_19 : decode cX4_peersOf 19 = .ok (.iload_n 3, 1) := by decide +kernel
theorem dX4_peersOf_20 : decode cX4_peersOf 20 = .ok (.iload_n 1, 1) := by decide +kernel
theorem dX4_peersOf_21 : decode cX4_peersOf 21 = .ok (.invokevirtual 52, 3) := by decide +kernel
theorem dX4_peersOf_24 : decode cX4_peersOf 24 = .ok (.ifCond .eq 6, 3) := by decide +kernel
theorem dX4_peersOf_27 : decode cX4_peersOf 27 = .ok (.iinc 2 1, 3) := by decide +kernel
theorem dX4_peersOf_30 : decode cX4_peersOf 30 = .ok (.iinc 3 1, 3) := by decide +kernel
theorem dX4_peersOf_33 : decode cX4_peersOf 33 = .ok (.goto (-29), 3) := by decide +kernel
theorem dX4_peersOf_36 : decode cX4_peersOf 36 = .ok (.iload_n 2, 1) := by decide +kernel
theorem dX4_peersOf_37 : decode cX4_peersOf 37 = .ok (.ireturn, 1) := by decide +kernel
theorem dX4_sizeOfPart_0 : decode cX4_sizeOfPart 0 = .ok (.iconst 0, 1) := by decide +kernel
theorem dX4_sizeOfPart_1 : decode cX4_sizeOfPart 1 = .ok (.istore_n 2, 1) := by decide +kernel
theorem dX4_sizeOfPart_2 : decode cX4_sizeOfPart 2 = .ok (.iconst 0, 1) := by decide +kernel
theorem dX4_sizeOfPart_3 : decode cX4_sizeOfPart 3 = .ok (.istore_n 3, 1) := by decide +kernel
theorem dX4_sizeOfPart_4 : decode cX4_sizeOfPart 4 = .ok (.iload_n 3, 1) := by decide +kernel
theorem dX4_sizeOfPart_5 : decode cX4_sizeOfPart 5 = .ok (.aload_n 0, 1) := by decide +kernel
theorem dX4_sizeOfPart_6 : decode cX4_sizeOfPart 6 = .ok (.getfield 12, 3) := by decide +kernel
theorem dX4_sizeOfPart_9 : decode cX4_sizeOfPart 9 = .ok (.getfield 34, 3) := by decide +kernel
theorem dX4_sizeOfPart_12 : decode cX4_sizeOfPart 12 = .ok (.if_icmp .ge 33, 3) := by decide +kernel
theorem dX4_sizeOfPart_15 : decode cX4_sizeOfPart 15 = .ok (.aload_n 0, 1) := by decide +kernel
theorem dX4_sizeOfPart_16 : decode cX4_sizeOfPart 16 = .ok (.getfield 12, 3) := by decide +kernel
theorem dX4_sizeOfPart_19 : decode cX4_sizeOfPart 19 = .ok (.getfield 42, 3) := by decide +kernel
theorem dX4_sizeOfPart_22 : decode cX4_sizeOfPart 22 = .ok (.iload_n 3, 1) := by decide +kernel
theorem dX4_sizeOfPart_23 : decode cX4_sizeOfPart 23 = .ok (.iaload, 1) := by decide +kernel
theorem dX4_sizeOfPart_24 : decode cX4_sizeOfPart 24 = .ok (.aload_n 0, 1) := by decide +kernel
theorem dX4_sizeOfPart_25 : decode cX4_sizeOfPart 25 = .ok (.getfield 12, 3) := by decide +kernel
theorem dX4_sizeOfPart_28 : decode cX4_sizeOfPart 28 = .ok (.getfield 42, 3) := by decide +kernel
theorem dX4_sizeOfPart_31 : decode cX4_sizeOfPart 31 = .ok (.iload_n 1, 1) := by decide +kernel
theorem dX4_sizeOfPart_32 : decode cX4_sizeOfPart 32 = .ok (.iaload, 1) := by decide +kernel
theorem dX4_sizeOfPart_33 : decode cX4_sizeOfPart 33 = .ok (.if_icmp .ne 6, 3) := by decide +kernel
theorem dX4_sizeOfPart_36 : decode cX4_sizeOfPart 36 = .ok (.iinc 2 1, 3) := by decide +kernel
theorem dX4_sizeOfPart_39 : decode cX4_sizeOfPart 39 = .ok (.iinc 3 1, 3) := by decide +kernel
theorem dX4_sizeOfPart_42 : decode cX4_sizeOfPart 42 = .ok (.goto (-38), 3) := by decide +kernel
theorem dX4_sizeOfPart_45 : decode cX4_sizeOfPart 45 = .ok (.iload_n 2, 1) := by decide +kernel
theorem dX4_sizeOfPart_46 : decode cX4_sizeOfPart 46 = .ok (.ireturn, 1) := by decide +kernel
theorem dX4_unlikeSpots_0 : decode cX4_unlikeSpots 0 = .ok (.iconst 0, 1) := by decide +kernel
theorem dX4_unlikeSpots_1 : decode cX4_unlikeSpots 1 = .ok (.istore_n 2, 1) := by decide +kernel
theorem dX4_unlikeSpots_2 : decode cX4_unlikeSpots 2 = .ok (.iconst 0, 1) := by decide +kernel
theorem dX4_unlikeSpots_3 : decode cX4_unlikeSpots 3 = .ok (.istore_n 3, 1) := by decide +kernel
theorem dX4_unlikeSpots_4 : decode cX4_unlikeSpots 4 = .ok (.iload_n 3, 1) := by decide +kernel
theorem dX4_unlikeSpots_5 : decode cX4_unlikeSpots 5 = .ok (.aload_n 0, 1) := by decide +kernel
theorem dX4_unlikeSpots_6 : decode cX4_unlikeSpots 6 = .ok (.getfield 12, 3) := by decide +kernel
theorem dX4_unlikeSpots_9 : decode cX4_unlikeSpots 9 = .ok (.getfield 34, 3) := by decide +kernel
theorem dX4_unlikeSpots_12 : decode cX4_unlikeSpots 12 = .ok (.if_icmp .ge 27, 3) := by decide +kernel
theorem dX4_unlikeSpots_15 : decode cX4_unlikeSpots 15 = .ok (.aload_n 0, 1) := by decide +kernel
theorem dX4_unlikeSpots_16 : decode cX4_unlikeSpots 16 = .ok (.getfield 22, 3) := by decide +kernel
theorem dX4_unlikeSpots_19 : decode cX4_unlikeSpots 19 = .ok (.iload_n 3, 1) := by decide +kernel
theorem dX4_unlikeSpots_20 : decode cX4_unlikeSpots 20 = .ok (.iaload, 1) := by decide +kernel
theorem dX4_unlikeSpots_21 : decode cX4_unlikeSpots 21 = .ok (.aload_n 1, 1) := by decide +kernel
theorem dX4_unlikeSpots_22 : decode cX4_unlikeSpots 22 = .ok (.getfield 22, 3) := by decide +kernel
theorem dX4_unlikeSpots_25 : decode cX4_unlikeSpots 25 = .ok (.iload_n 3, 1) := by decide +kernel
theorem dX4_unlikeSpots_26 : decode cX4_unlikeSpots 26 = .ok (.iaload, 1) := by decide +kernel
theorem dX4_unlikeSpots_27 : decode cX4_unlikeSpots 27 = .ok (.if_icmp .eq 6, 3) := by decide +kernel
theorem dX4_unlikeSpots_30 : decode cX4_unlikeSpots 30 = .ok (.iinc 2 1, 3) := by decide +kernel
theorem dX4_unlikeSpots_33 : decode cX4_unlikeSpots 33 = .ok (.iinc 3 1, 3) := by decide +kernel
theorem dX4_unlikeSpots_36 : decode cX4_unlikeSpots 36 = .ok (.goto (-32), 3) := by decide +kernel
theorem dX4_unlikeSpots_39 : decode cX4_unlikeSpots 39 = .ok (.iload_n 2, 1) := by decide +kernel
theorem dX4_unlikeSpots_40 : decode cX4_unlikeSpots 40 = .ok (.ireturn, 1) := by decide +kernel
theorem dX4_measure_0 : decode cX4_measure 0 = .ok (.aload_n 0, 1) := by decide +kernel
theorem dX4_measure_1 : decode cX4_measure 1 = .ok (.getfield 12, 3) := by decide +kernel
theorem dX4_measure_4 : decode cX4_measure 4 = .ok (.getfield 60, 3) := by decide +kernel
theorem dX4_measure_7 : decode cX4_measure 7 = .ok (.lookupswitch 49 #[(0, 25), (1, 32)], 25) := by decide +kernel
theorem dX4_measure_32 : decode cX4_measure 32 = .ok (.aload_n 0, 1) := by decide +kernel
theorem dX4_measure_33 : decode cX4_measure 33 = .ok (.getfield 25, 3) := by decide +kernel
theorem dX4_measure_36 : decode cX4_measure 36 = .ok (.iload_n 1, 1) := by decide +kernel
theorem dX4_measure_37 : decode cX4_measure 37 = .ok (.iaload, 1) := by decide +kernel
theorem dX4_measure_38 : decode cX4_measure 38 = .ok (.ireturn, 1) := by decide +kernel
theorem dX4_measure_39 : decode cX4_measure 39 = .ok (.aload_n 0, 1) := by decide +kernel
theorem dX4_measure_40 : decode cX4_measure 40 = .ok (.getfield 12, 3) := by decide +kernel
theorem dX4_measure_43 : decode cX4_measure 43 = .ok (.aload_n 0, 1) := by decide +kernel
theorem dX4_measure_44 : decode cX4_measure 44 = .ok (.getfield 12, 3) := by decide +kernel
theorem dX4_measure_47 : decode cX4_measure 47 = .ok (.getfield 45, 3) := by decide +kernel
theorem dX4_measure_50 : decode cX4_measure 50 = .ok (.iload_n 1, 1) := by decide +kernel
theorem dX4_measure_51 : decode cX4_measure 51 = .ok (.iaload, 1) := by decide +kernel
theorem dX4_measure_52 : decode cX4_measure 52 = .ok (.invokevirtual 63, 3) := by decide +kernel
theorem dX4_measure_55 : decode cX4_measure 55 = .ok (.ireturn, 1) := by decide +kernel
theorem dX4_measure_56 : decode cX4_measure 56 = .ok (.aload_n 0, 1) := by decide +kernel
theorem dX4_measure_57 : decode cX4_measure 57 = .ok (.getfield 28, 3) := by decide +kernel
theorem dX4_measure_60 : decode cX4_measure 60 = .ok (.iload_n 1, 1) := by decide +kernel
theorem dX4_measure_61 : decode cX4_measure 61 = .ok (.iaload, 1) := by decide +kernel
theorem dX4_measure_62 : decode cX4_measure 62 = .ok (.ireturn, 1) := by decide +kernel
theorem dX5_init_0 : decode cX5_init 0 = .ok (.aload_n 0, 1) := by decide +kernel
theorem dX5_init_1 : decode cX5_init 1 = .ok (.invokespecial 3, 3) := by decide +kernel
theorem dX5_init_4 : decode cX5_init 4 = .ok (.aload_n 0, 1) := by decide +kernel
theorem dX5_init_5 : decode cX5_init 5 = .ok (.bipush 40, 2) := by decide +kernel
theorem dX5_init_7 : decode cX5_init 7 = .ok (.newarray .int, 2) := by decide +kernel
theorem dX5_init_9 : decode cX5_init 9 = .ok (.putfield 9, 3) := by decide +kernel
theorem dX5_init_12 : decode cX5_init 12 = .ok (.aload_n 0, 1) := by decide +kernel
theorem dX5_init_13 : decode cX5_init 13 = .ok (.bipush 40, 2) := by decide +kernel
theorem dX5_init_15 : decode cX5_init 15 = .ok (.newarray .int, 2) := by decide +kernel
theorem dX5_init_17 : decode cX5_init 17 = .ok (.putfield 15, 3) := by decide +kernel
theorem dX5_init_20 : decode cX5_init 20 = .ok (.aload_n 0, 1) := by decide +kernel
theorem dX5_init_21 : decode cX5_init 21 = .ok (.bipush 40, 2) := by decide +kernel
theorem dX5_init_23 : decode cX5_init 23 = .ok (.newarray .int, 2) := by decide +kernel
theorem dX5_init_25 : decode cX5_init 25 = .ok (.putfield 18, 3) := by decide +kernel
theorem dX5_init_28 : decode cX5_init 28 = .ok (.aload_n 0, 1) := by decide +kernel
theorem dX5_init_29 : decode cX5_init 29 = .ok (.iconst 0, 1) := by decide +kernel
theorem dX5_init_30 : decode cX5_init 30 = .ok (.putfield 21, 3) := by decide +kernel
theorem dX5_init_33 : decode cX5_init 33 = .ok (.aload_n 0, 1) := by decide +kernel
theorem dX5_init_34 : decode cX5_init 34 = .ok (.iconst 0, 1) := by decide +kernel
theorem dX5_init_35 : decode cX5_init 35 = .ok (.putfield 25, 3) := by decide +kernel
theorem dX5_init_38 : decode cX5_init 38 = .ok (.aload_n 0, 1) := by decide +kernel
theorem dX5_init_39 : decode cX5_init 39 = .ok (.bipush 99, 2) := by decide +kernel
theorem dX5_init_41 : decode cX5_init 41 = .ok (.putfield 28, 3) := by decide +kernel
theorem dX5_init_44 : decode cX5_init 44 = .ok (.aload_n 0, 1) := by decide +kernel
theorem dX5_init_45 : decode cX5_init 45 = .ok (.iconst 0, 1) := by decide +kernel
theorem dX5_init_46 : decode cX5_init 46 = .ok (.putfield 31, 3) := by decide +kernel
theorem dX5_init_49 : decode cX5_init 49 = .ok (.aload_n 0, 1) := by decide +kernel
theorem dX5_init_50 : decode cX5_init 50 = .ok (.iconst 0, 1) := by decide +kernel
theorem dX5_init_51 : decode cX5_init 51 = .ok (.putfield 34, 3) := by decide +kernel
theorem dX5_init_54 : decode cX5_init 54 = .ok (.aload_n 0, 1) := by decide +kernel
theorem dX5_init_55 : decode cX5_init 55 = .ok (.iconst 0, 1) := by decide +kernel
theorem dX5_init_56 : decode cX5_init 56 = .ok (.putfield 37, 3) := by decide +kernel
theorem dX5_init_59 : decode cX5_init 59 = .ok (.return_, 1) := by decide +kernel
theorem dX5_has_0 : decode cX5_has 0 = .ok (.iload_n 1, 1) := by decide +kernel
theorem dX5_has_1 : decode cX5_has 1 = .ok (.ifCond .lt 15, 3) := by decide +kernel
theorem dX5_has_4 : decode cX5_has 4 = .ok (.iload_n 1, 1) := by decide +kernel
theorem dX5_has_5 : decode cX5_has 5 = .ok (.aload_n 0, 1) := by decide +kernel
theorem dX5_has_6 : decode cX5_has 6 = .ok (.getfield 21, 3) := by decide +kernel
theorem dX5_has_9 : decode cX5_has 9 = .ok (.if_icmp .ge 7, 3) := by decide +kernel
theorem dX5_has_12 : decode cX5_has 12 = .ok (.iconst 1, 1) := by decide +kernel
theorem dX5_has_13 : decode cX5_has 13 = .ok (.goto 4, 3) := by decide +kernel
theorem dX5_has_16 : decode cX5_has 16 = .ok (.iconst 0, 1) := by decide +kernel
theorem dX5_has_17 : decode cX5_has 17 = .ok (.ireturn, 1) := by decide +kernel
theorem dX5_copy_0 : decode cX5_copy 0 = .ok (.aload_n 1, 1) := by decide +kernel
theorem dX5_copy_1 : decode cX5_copy 1 = .ok (.getfield 9, 3) := by decide +kernel
theorem dX5_copy_4 : decode cX5_copy 4 = .ok (.iconst 0, 1) := by decide +kernel
theorem dX5_copy_5 : decode cX5_copy 5 = .ok (.aload_n 0, 1) := by decide +kernel
theorem dX5_copy_6 : decode cX5_copy 6 = .ok (.getfield 9, 3) := by decide +kernel
theorem dX5_copy_9 : decode cX5_copy 9 = .ok (.iconst 0, 1) := by decide +kernel
theorem dX5_copy_10 : decode cX5_copy 10 = .ok (.bipush 40, 2) := by decide +kernel
theorem dX5_copy_12 : decode cX5_copy 12 = .ok (.invokestatic 41, 3) := by decide +kernel
theorem dX5_copy_15 : decode cX5_copy 15 = .ok (.aload_n 1, 1) := by decide +kernel
theorem dX5_copy_16 : decode cX5_copy 16 = .ok (.getfield 15, 3) := by decide +kernel
theorem dX5_copy_19 : decode cX5_copy 19 = .ok (.iconst 0, 1) := by decide +kernel
theorem dX5_copy_20 : decode cX5_copy 20 = .ok (.aload_n 0, 1) := by decide +kernel
theorem dX5_copy_21 : decode cX5_copy 21 = .ok (.getfield 15, 3) := by decide +kernel
theorem dX5_copy_24 : decode cX5_copy 24 = .ok (.iconst 0, 1) := by decide +kernel
theorem dX5_copy_25 : decode cX5_copy 25 = .ok (.bipush 40, 2) := by decide +kernel
theorem dX5_copy_27 : decode cX5_copy 27 = .ok (.invokestatic 41, 3) := by decide +kernel
theorem dX5_copy_30 : decode cX5_copy 30 = .ok (.aload_n 1, 1) := by decide +kernel
theorem dX5_copy_31 : decode cX5_copy 31 = .ok (.getfield 18, 3) := by decide +kernel
theorem dX5_copy_34 : decode cX5_copy 34 = .ok (.iconst 0, 1) := by decide +kernel
theorem dX5_copy_35 : decode cX5_copy 35 = .ok (.aload_n 0, 1) := by decide +kernel
theorem dX5_copy_36 : decode cX5_copy 36 = .ok (.getfield 18, 3) := by decide +kernel
theorem dX5_copy_39 : decode cX5_copy 39 = .ok (.iconst 0, 1) := by decide +kernel
theorem dX5_copy_40 : decode cX5_copy 40 = .ok (.bipush 40, 2) := by decide +kernel
theorem dX5_copy_42 : decode cX5_copy 42 = .ok (.invokestatic 41, 3) := by decide +kernel
theorem dX5_copy_45 : decode cX5_copy 45 = .ok (.aload_n 0, 1) := by decide +kernel
theorem dX5_copy_46 : decode cX5_copy 46 = .ok (.aload_n 1, 1) := by decide +kernel
theorem dX5_copy_47 : decode cX5_copy 47 = .ok (.getfield 21, 3) := by decide +kernel
theorem dX5_copy_50 : decode cX5_copy 50 = .ok (.putfield 21, 3) := by decide +kernel
