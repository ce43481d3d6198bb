theorem dX0_init_0 : decode cX0_init 0 = .ok (.aload_n 0, 1) := by decide +kernel
theorem dX0_init_1 : decode cX0_init 1 = .ok (.invokespecial 3, 3) := by decide +kernel
theorem dX0_init_4 : decode cX0_init 4 = .ok (.aload_n 0, 1) := by decide +kernel
theorem dX0_init_5 : decode cX0_init 5 = .ok (.new 9, 3) := by decide +kernel
theorem dX0_init_8 : decode cX0_init 8 = .ok (.dup, 1) := by decide +kernel
theorem dX0_init_9 : decode cX0_init 9 = .ok (.invokespecial 11, 3) := by decide +kernel
theorem dX0_init_12 : decode cX0_init 12 = .ok (.putfield 12, 3) := by decide +kernel
theorem dX0_init_15 : decode cX0_init 15 = .ok (.aload_n 0, 1) := by decide +kernel
theorem dX0_init_16 : decode cX0_init 16 = .ok (.new 9, 3) := by decide +kernel
theorem dX0_init_19 : decode cX0_init 19 = .ok (.dup, 1) := by decide +kernel
theorem dX0_init_20 : decode cX0_init 20 = .ok (.invokespecial 11, 3) := by decide +kernel
theorem dX0_init_23 : decode cX0_init 23 = .ok (.putfield 18, 3) := by decide +kernel
theorem dX0_init_26 : decode cX0_init 26 = .ok (.aload_n 0, 1) := by decide +kernel
theorem dX0_init_27 : decode cX0_init 27 = .ok (.new 21, 3) := by decide +kernel
theorem dX0_init_30 : decode cX0_init 30 = .ok (.dup, 1) := by decide +kernel
theorem dX0_init_31 : decode cX0_init 31 = .ok (.invokespecial 23, 3) := by decide +kernel
theorem dX0_init_34 : decode cX0_init 34 = .ok (.putfield 24, 3) := by decide +kernel
theorem dX0_init_37 : decode cX0_init 37 = .ok (.aload_n 0, 1) := by decide +kernel
theorem dX0_init_38 : decode cX0_init 38 = .ok (.new 21, 3) := by decide +kernel
theorem dX0_init_41 : decode cX0_init 41 = .ok (.dup, 1) := by decide +kernel
theorem dX0_init_42 : decode cX0_init 42 = .ok (.invokespecial 23, 3) := by decide +kernel
theorem dX0_init_45 : decode cX0_init 45 = .ok (.putfield 28, 3) := by decide +kernel
theorem dX0_init_48 : decode cX0_init 48 = .ok (.aload_n 0, 1) := by decide +kernel
theorem dX0_init_49 : decode cX0_init 49 = .ok (.new 21, 3) := by decide +kernel
theorem dX0_init_52 : decode cX0_init 52 = .ok (.dup, 1) := by decide +kernel
theorem dX0_init_53 : decode cX0_init 53 = .ok (.invokespecial 23, 3) := by decide +kernel
theorem dX0_init_56 : decode cX0_init 56 = .ok (.putfield 31, 3) := by decide +kernel
theorem dX0_init_59 : decode cX0_init 59 = .ok (.return_, 1) := by decide +kernel
theorem dX0_level_0 : decode cX0_level 0 = .ok (.aload_n 0, 1) := by decide +kernel
theorem dX0_level_1 : decode cX0_level 1 = .ok (.getfield 24, 3) := by decide +kernel
theorem dX0_level_4 : decode cX0_level 4 = .ok (.aload_n 0, 1) := by decide +kernel
theorem dX0_level_5 : decode cX0_level 5 = .ok (.getfield 12, 3) := by decide +kernel
theorem dX0_level_8 : decode cX0_level 8 = .ok (.getfield 34, 3) := by decide +kernel
theorem dX0_level_11 : decode cX0_level 11 = .ok (.invokevirtual 37, 3) := by decide +kernel
theorem dX0_level_14 : decode cX0_level 14 = .ok (.aload_n 0, 1) := by decide +kernel
theorem dX0_level_15 : decode cX0_level 15 = .ok (.getfield 28, 3) := by decide +kernel
theorem dX0_level_18 : decode cX0_level 18 = .ok (.aload_n 0, 1) := by decide +kernel
theorem dX0_level_19 : decode cX0_level 19 = .ok (.getfield 18, 3) := by decide +kernel
theorem dX0_level_22 : decode cX0_level 22 = .ok (.getfield 34, 3) := by decide +kernel
theorem dX0_level_25 : decode cX0_level 25 = .ok (.invokevirtual 37, 3) := by decide +kernel
theorem dX0_level_28 : decode cX0_level 28 = .ok (.aload_n 0, 1) := by decide +kernel
theorem dX0_level_29 : decode cX0_level 29 = .ok (.getfield 24, 3) := by decide +kernel
theorem dX0_level_32 : decode cX0_level 32 = .ok (.bipush 16, 2) := by decide +kernel
theorem dX0_level_34 : decode cX0_level 34 = .ok (.aload_n 0, 1) := by decide +kernel
theorem dX0_level_35 : decode cX0_level 35 = .ok (.getfield 18, 3) := by decide +kernel
theorem dX0_level_38 : decode cX0_level 38 = .ok (.getfield 41, 3) := by decide +kernel
theorem dX0_level_41 : decode cX0_level 41 = .ok (.aload_n 0, 1) := by decide +kernel
theorem dX0_level_42 : decode cX0_level 42 = .ok (.getfield 12, 3) := by decide +kernel
theorem dX0_level_45 : decode cX0_level 45 = .ok (.getfield 41, 3) := by decide +kernel
theorem dX0_level_48 : decode cX0_level 48 = .ok (.isub, 1) := by decide +kernel
theorem dX0_level_49 : decode cX0_level 49 = .ok (.invokevirtual 45, 3) := by decide +kernel
theorem dX0_level_52 : decode cX0_level 52 = .ok (.aload_n 0, 1) := by decide +kernel
theorem dX0_level_53 : decode cX0_level 53 = .ok (.getfield 28, 3) := by decide +kernel
theorem dX0_level_56 : decode cX0_level 56 = .ok (.bipush 16, 2) := by decide +kernel
theorem dX0_level_58 : decode cX0_level 58 = .ok (.aload_n 0, 1) := by decide +kernel
theorem dX0_level_59 : decode cX0_level 59 = .ok (.getfield 12, 3) := by decide +kernel
theorem dX0_level_62 : decode cX0_level 62 = .ok (.getfield 41, 3) := by decide +kernel
theorem dX0_level_65 : decode cX0_level 65 = .ok (.aload_n 0, 1) := by decide +kernel
theorem dX0_level_66 : decode cX0_level 66 = .ok (.getfield 18, 3) := by decide +kernel
theorem dX0_level_69 : decode cX0_level 69 = .ok (.getfield 41, 3) := by decide +kernel
theorem dX0_level_72 : decode cX0_level 72 = .ok (.isub, 1) := by decide +kernel
theorem dX0_level_73 : decode cX0_level 73 = .ok (.invokevirtual 45, 3) := by decide +kernel
theorem dX0_level_76 : decode cX0_level 76 = .ok (.return_, 1) := by decide +kernel
theorem dX0_compared_0 : decode cX0_compared 0 = .ok (.aload_n 0, 1) := by decide +kernel
theorem dX0_compared_1 : decode cX0_compared 1 = .ok (.invokevirtual 49, 3) := by decide +kernel
theorem dX0_compared_4 : decode cX0_compared 4 = .ok (.aload_n 0, 1) := by decide +kernel
theorem dX0_compared_5 : decode cX0_compared 5 = .ok (.getfield 24, 3) := by decide +kernel
theorem dX0_compared_8 : decode cX0_compared 8 = .ok (.aload_n 0, 1) := by decide +kernel
theorem dX0_compared_9 : decode cX0_compared 9 = .ok (.getfield 28, 3) := by decide +kernel
theorem dX0_compared_12 : decode cX0_compared 12 = .ok (.invokevirtual 52, 3) := by decide +kernel
theorem dX0_compared_15 : decode cX0_compared 15 = .ok (.ireturn, 1) := by decide +kernel
theorem dX0_ratio_0 : decode cX0_ratio 0 = .ok (.aload_n 0, 1) := by decide +kernel
theorem dX0_ratio_1 : decode cX0_ratio 1 = .ok (.invokevirtual 49, 3) := by decide +kernel
theorem dX0_ratio_4 : decode cX0_ratio 4 = .ok (.aload_n 0, 1) := by decide +kernel
theorem dX0_ratio_5 : decode cX0_ratio 5 = .ok (.getfield 28, 3) := by decide +kernel
theorem dX0_ratio_8 : decode cX0_ratio 8 = .ok (.invokevirtual 56, 3) := by decide +kernel
theorem dX0_ratio_11 : decode cX0_ratio 11 = .ok (.ifCond .eq 20, 3) := by decide +kernel
theorem dX0_ratio_14 : decode cX0_ratio 14 = .ok (.aload_n 0, 1) := by decide +kernel
theorem dX0_ratio_15 : decode cX0_ratio 15 = .ok (.getfield 24, 3) := by decide +kernel
theorem dX0_ratio_18 : decode cX0_ratio 18 = .ok (.invokevirtual 56, 3) := by decide +kernel
theorem dX0_ratio_21 : decode cX0_ratio 21 = .ok (.ifCond .eq 7, 3) := by decide +kernel
theorem dX0_ratio_24 : decode cX0_ratio 24 = .ok (.iconst 0, 1) := by decide +kernel
theorem dX0_ratio_25 : decode cX0_ratio 25 = .ok (.goto 5, 3) := by decide +kernel
theorem dX0_ratio_28 : decode cX0_ratio 28 = .ok (.ldc 60, 2) := by decide +kernel
theorem dX0_ratio_30 : decode cX0_ratio 30 = .ok (.ireturn, 1) := by decide +kernel
theorem dX0_ratio_31 : decode cX0_ratio 31 = .ok (.iconst 0, 1) := by decide +kernel
theorem dX0_ratio_32 : decode cX0_ratio 32 = .ok (.istore_n 1, 1) := by decide +kernel
theorem dX0_ratio_33 : decode cX0_ratio 33 = .ok (.ldc 60, 2) := by decide +kernel
theorem dX0_ratio_35 : decode cX0_ratio 35 = .ok (.istore_n 2, 1) := by decide +kernel
theorem dX0_ratio_36 : decode cX0_ratio 36 = .ok (.iconst 0, 1) := by decide +kernel
theorem dX0_ratio_37 : decode cX0_ratio 37 = .ok (.istore_n 3, 1) := by decide +kernel
theorem dX0_ratio_38 : decode cX0_ratio 38 = .ok (.iload_n 3, 1) := by decide +kernel
theorem dX0_ratio_39 : decode cX0_ratio 39 = .ok (.bipush 32, 2) := by decide +kernel
theorem dX0_ratio_41 : decode cX0_ratio 41 = .ok (.if_icmp .ge 69, 3) := by decide +kernel
theorem dX0_ratio_44 : decode cX0_ratio 44 = .ok (.iload_n 1, 1) := by decide +kernel
theorem dX0_ratio_45 : decode cX0_ratio 45 = .ok (.iload_n 2, 1) := by decide +kernel
theorem dX0_ratio_46 : decode cX0_ratio 46 = .ok (.if_icmp .ge 64, 3) := by decide +kernel
theorem dX0_ratio_49 : decode cX0_ratio 49 = .ok (.iload_n 1, 1) := by decide +kernel
theorem dX0_ratio_50 : decode cX0_ratio 50 = .ok (.iload_n 2, 1) := by decide +kernel
theorem dX0_ratio_51 : decode cX0_ratio 51 = .ok (.iadd, 1) := by decide +kernel
theorem dX0_ratio_52 : decode cX0_ratio 52 = .ok (.iconst 1, 1) := by decide +kernel
theorem dX0_ratio_53 : decode cX0_ratio 53 = .ok (.iadd, 1) := by decide +kernel
theorem dX0_ratio_54 : decode cX0_ratio 54 = .ok (.iconst 2, 1) := by decide +kernel
theorem dX0_ratio_55 : decode cX0_ratio 55 = .ok (.idiv, 1) := by decide +kernel
theorem dX0_ratio_56 : decode cX0_ratio 56 = .ok (.istore 4, 2) := by decide +kernel
theorem dX0_ratio_58 : decode cX0_ratio 58 = .ok (.aload_n 0, 1) := by decide +kernel
theorem dX0_ratio_59 : decode cX0_ratio 59 = .ok (.getfield 31, 3) := by decide +kernel
theorem dX0_ratio_62 : decode cX0_ratio 62 = .ok (.aload_n 0, 1) := by decide +kernel
theorem dX0_ratio_63 : decode cX0_ratio 63 = .ok (.getfield 28, 3) := by decide +kernel
theorem dX0_ratio_66 : decode cX0_ratio 66 = .ok (.invokevirtual 37, 3) := by decide +kernel
theorem dX0_ratio_69 : decode cX0_ratio 69 = .ok (.aload_n 0, 1) := by decide +kernel
theorem dX0_ratio_70 : decode cX0_ratio 70 = .ok (.getfield 31, 3) := by decide +kernel
theorem dX0_ratio_73 : decode cX0_ratio 73 = .ok (.iload 4, 2) := by decide +kernel
theorem dX0_ratio_75 : decode cX0_ratio 75 = .ok (.i2l, 1) := by decide +kernel
theorem dX0_ratio_76 : decode cX0_ratio 76 = .ok (.invokevirtual 61, 3) := by decide +kernel
theorem dX0_ratio_79 : decode cX0_ratio 79 = .ok (.aload_n 0, 1) := by decide +kernel
theorem dX0_ratio_80 : decode cX0_ratio 80 = .ok (.getfield 31, 3) := by decide +kernel
theorem dX0_ratio_83 : decode cX0_ratio 83 = .ok (.aload_n 0, 1) := by decide +kernel
theorem dX0_ratio_84 : decode cX0_ratio 84 = .ok (.getfield 24, 3) := by decide +kernel
theorem dX0_ratio_87 : decode cX0_ratio 87 = .ok (.invokevirtual 52, 3) := by decide +kernel
theorem dX0_ratio_90 : decode cX0_ratio 90 = .ok (.ifCond .gt 9, 3) := by decide +kernel
theorem dX0_ratio_93 : decode cX0_ratio 93 = .ok (.iload 4, 2) := by decide +kernel
theorem dX0_ratio_95 : decode cX0_ratio 95 = .ok (.istore_n 1, 1) := by decide +kernel
theorem dX0_ratio_96 : decode cX0_ratio 96 = .ok (.goto 8, 3) := by decide +kernel
theorem dX0_ratio_99 : decode cX0_ratio 99 = .ok (.iload 4, 2) := by decide +kernel
theorem dX0_ratio_101 : decode cX0_ratio 101 = .ok (.iconst 1, 1) := by decide +kernel
theorem dX0_ratio_102 : decode cX0_ratio 102 = .ok (.isub, 1) := by decide +kernel
theorem dX0_ratio_103 : decode cX0_ratio 103 = .ok (.istore_n 2, 1) := by decide +kernel
theorem dX0_ratio_104 : decode cX0_ratio 104 = .ok (.iinc 3 1, 3) := by decide +kernel
theorem dX0_ratio_107 : decode cX0_ratio 107 = .ok (.goto (-69), 3) := by decide +kernel
theorem dX0_ratio_110 : decode cX0_ratio 110 = .ok (.iload_n 1, 1) := by decide +kernel
theorem dX0_ratio_111 : decode cX0_ratio 111 = .ok (.ireturn, 1) := by decide +kernel
theorem dX1_init_0 : decode cX1_init 0 = .ok (.aload_n 0, 1) := by decide +kernel
theorem dX1_init_1 : decode cX1_init 1 = .ok (.invokespecial 3, 3) := by decide +kernel
theorem dX1_init_4 : decode cX1_init 4 = .ok (.aload_n 0, 1) := by decide +kernel
theorem dX1_init_5 : decode cX1_init 5 = .ok (.new 9, 3) := by decide +kernel
theorem dX1_init_8 : decode cX1_init 8 = .ok (.dup, 1) := by decide +kernel
theorem dX1_init_9 : decode cX1_init 9 = .ok (.invokespecial 11, 3) := by decide +kernel
theorem dX1_init_12 : decode cX1_init 12 = .ok (.putfield 12, 3) := by decide +kernel
theorem dX1_init_15 : decode cX1_init 15 = .ok (.return_, 1) := by decide +kernel
theorem dX1_begin_0 : decode cX1_begin 0 = .ok (.aload_n 0, 1) := by decide +kernel
theorem dX1_begin_1 : decode cX1_begin 1 = .ok (.getfield 12, 3) := by decide +kernel
theorem dX1_begin_4 : decode cX1_begin 4 = .ok (.invokevirtual 18, 3) := by decide +kernel
theorem dX1_begin_7 : decode cX1_begin 7 = .ok (.aload_n 0, 1) := by decide +kernel
theorem dX1_begin_8 : decode cX1_begin 8 = .ok (.iconst 0, 1) := by decide +kernel
theorem dX1_begin_9 : decode cX1_begin 9 = .ok (.putfield 21, 3) := by decide +kernel
theorem dX1_begin_12 : decode cX1_begin 12 = .ok (.return_, 1) := by decide +kernel
theorem dX1_times_0 : decode cX1_times 0 = .ok (.aload_n 0, 1) := by decide +kernel
theorem dX1_times_1 : decode cX1_times 1 = .ok (.getfield 12, 3) := by decide +kernel
theorem dX1_times_4 : decode cX1_times 4 = .ok (.iload_n 1, 1) := by decide +kernel
theorem dX1_times_5 : decode cX1_times 5 = .ok (.iload_n 2, 1) := by decide +kernel
theorem dX1_times_6 : decode cX1_times 6 = .ok (.invokestatic 25, 3) := by decide +kernel
theorem dX1_times_9 : decode cX1_times 9 = .ok (.invokevirtual 29, 3) := by decide +kernel
theorem dX1_times_12 : decode cX1_times 12 = .ok (.aload_n 0, 1) := by decide +kernel
theorem dX1_times_13 : decode cX1_times 13 = .ok (.getfield 12, 3) := by decide +kernel
theorem dX1_times_16 : decode cX1_times 16 = .ok (.iload_n 3, 1) := by decide +kernel
theorem dX1_times_17 : decode cX1_times 17 = .ok (.iload_n 2, 1) := by decide +kernel
theorem dX1_times_18 : decode cX1_times 18 = .ok (.invokevirtual 33, 3) := by decide +kernel
theorem dX1_times_21 : decode cX1_times 21 = .ok (.aload_n 0, 1) := by decide +kernel
theorem dX1_times_22 : decode cX1_times 22 = .ok (.getfield 12, 3) := by decide +kernel
theorem dX1_times_25 : decode cX1_times 25 = .ok (.bipush 16, 2) := by decide +kernel
theorem dX1_times_27 : decode cX1_times 27 = .ok (.iload_n 3, 1) := by decide +kernel
theorem dX1_times_28 : decode cX1_times 28 = .ok (.isub, 1) := by decide +kernel
theorem dX1_times_29 : decode cX1_times 29 = .ok (.iload_n 1, 1) := by decide +kernel
theorem dX1_times_30 : decode cX1_times 30 = .ok (.iload_n 2, 1) := by decide +kernel
theorem dX1_times_31 : decode cX1_times 31 = .ok (.isub, 1) := by decide +kernel
theorem dX1_times_32 : decode cX1_times 32 = .ok (.invokevirtual 33, 3) := by decide +kernel
theorem dX1_times_35 : decode cX1_times 35 = .ok (.aload_n 0, 1) := by decide +kernel
theorem dX1_times_36 : decode cX1_times 36 = .ok (.dup, 1) := by decide +kernel
theorem dX1_times_37 : decode cX1_times 37 = .ok (.getfield 21, 3) := by decide +kernel
theorem dX1_times_40 : decode cX1_times 40 = .ok (.iload_n 1, 1) := by decide +kernel
theorem dX1_times_41 : decode cX1_times 41 = .ok (.iadd, 1) := by decide +kernel
theorem dX1_times_42 : decode cX1_times 42 = .ok (.putfield 21, 3) := by decide +kernel
theorem dX1_times_45 : decode cX1_times 45 = .ok (.return_, 1) := by decide +kernel
theorem dX1_waysToChoose_0 : decode cX1_waysToChoose 0 = .ok (.iload_n 1, 1) := by decide +kernel
theorem dX1_waysToChoose_1 : decode cX1_waysToChoose 1 = .ok (.iload_n 0, 1) := by decide +kernel
theorem dX1_waysToChoose_2 : decode cX1_waysToChoose 2 = .ok (.if_icmp .le 5, 3) := by decide +kernel
theorem dX1_waysToChoose_5 : decode cX1_waysToChoose 5 = .ok (.lconst 0, 1) := by decide +kernel
theorem dX1_waysToChoose_6 : decode cX1_waysToChoose 6 = .ok (.lreturn, 1) := by decide +kernel
theorem dX1_waysToChoose_7 : decode cX1_waysToChoose 7 = .ok (.iload_n 1, 1) := by decide +kernel
theorem dX1_waysToChoose_8 : decode cX1_waysToChoose 8 = .ok (.iload_n 0, 1) := by decide +kernel
theorem dX1_waysToChoose_9 : decode cX1_waysToChoose 9 = .ok (.iload_n 1, 1) := by decide +kernel
theorem dX1_waysToChoose_10 : decode cX1_waysToChoose 10 = .ok (.isub, 1) := by decide +kernel
theorem dX1_waysToChoose_11 : decode cX1_waysToChoose 11 = .ok (.invokestatic 37, 3) := by decide +kernel
theorem dX1_waysToChoose_14 : decode cX1_waysToChoose 14 = .ok (.istore_n 2, 1) := by decide +kernel
theorem dX1_waysToChoose_15 : decode cX1_waysToChoose 15 = .ok (.lconst 1, 1) := by decide +kernel
theorem dX1_waysToChoose_16 : decode cX1_waysToChoose 16 = .ok (.lstore_n 3, 1) := by decide +kernel
theorem dX1_waysToChoose_17 : decode cX1_waysToChoose 17 = .ok (.iconst 0, 1) := by decide +kernel
theorem dX1_waysToChoose_18 : decode cX1_waysToChoose 18 = .ok (.istore 5, 2) := by decide +kernel
theorem dX1_waysToChoose_20 : decode cX1_waysToChoose 20 = .ok (.iload 5, 2) := by decide +kernel
theorem dX1_waysToChoose_22 : decode cX1_waysToChoose 22 = .ok (.iload_n 2, 1) := by decide +kernel
theorem dX1_waysToChoose_23 : decode cX1_waysToChoose 23 = .ok (.if_icmp .ge 23, 3) := by decide +kernel
theorem dX1_waysToChoose_26 : decode cX1_waysToChoose 26 = .ok (.lload_n 3, 1) := by decide +kernel
theorem dX1_waysToChoose_27 : decode cX1_waysToChoose 27 = .ok (.iload_n 0, 1) := by decide +kernel
theorem dX1_waysToChoose_28 : decode cX1_waysToChoose 28 = .ok (.iload 5, 2) := by decide +kernel
theorem dX1_waysToChoose_30 : decode cX1_waysToChoose 30 = .ok (.isub, 1) := by decide +kernel
theorem dX1_waysToChoose_31 : decode cX1_waysToChoose 31 = .ok (.i2l, 1) := by decide +kernel
theorem dX1_waysToChoose_32 : decode cX1_waysToChoose 32 = .ok (.lmul, 1) := by decide +kernel
theorem dX1_waysToChoose_33 : decode cX1_waysToChoose 33 = .ok (.iload 5, 2) := by decide +kernel
theorem dX1_waysToChoose_35 : decode cX1_waysToChoose 35 = .ok (.iconst 1, 1) := by decide +kernel
theorem dX1_waysToChoose_36 : decode cX1_waysToChoose 36 = .ok (.iadd, 1) := by decide +kernel
theorem dX1_waysToChoose_37 : decode cX1_waysToChoose 37 = .ok (.i2l, 1) := by decide +kernel
theorem dX1_waysToChoose_38 : decode cX1_waysToChoose 38 = .ok (.ldiv, 1) := by decide +kernel
theorem dX1_waysToChoose_39 : decode cX1_waysToChoose 39 = .ok (.lstore_n 3, 1) := by decide +kernel
theorem dX1_waysToChoose_40 : decode cX1_waysToChoose 40 = .ok (.iinc 5 1, 3) := by decide +kernel
theorem dX1_waysToChoose_43 : decode cX1_waysToChoose 43 = .ok (.goto (-23), 3) := by decide +kernel
theorem dX1_waysToChoose_46 : decode cX1_waysToChoose 46 = .ok (.lload_n 3, 1) := by decide +kernel
theorem dX1_waysToChoose_47 : decode cX1_waysToChoose 47 = .ok (.lreturn, 1) := by decide +kernel
theorem dX2_init_0 : decode cX2_init 0 = .ok (.aload_n 0, 1) := by decide +kernel
theorem dX2_init_1 : decode cX2_init 1 = .ok (.invokespecial 1, 3) := by decide +kernel
theorem dX2_init_4 : decode cX2_init 4 = .ok (.aload_n 0, 1) := by decide +kernel
theorem dX2_init_5 : decode cX2_init 5 = .ok (.new 7, 3) := by decide +kernel
theorem dX2_init_8 : decode cX2_init 8 = .ok (.dup, 1) := by decide +kernel
theorem dX2_init_9 : decode cX2_init 9 = .ok (.invokespecial 9, 3) := by decide +kernel
theorem dX2_init_12 : decode cX2_init 12 = .ok (.putfield 10, 3) := by decide +kernel
theorem dX2_init_15 : decode cX2_init 15 = .ok (.aload_n 0, 1) := by decide +kernel
theorem dX2_init_16 : decode cX2_init 16 = .ok (.new 16, 3) := by decide +kernel
theorem dX2_init_19 : decode cX2_init 19 = .ok (.dup, 1) := by decide +kernel
theorem dX2_init_20 : decode cX2_init 20 = .ok (.invokespecial 18, 3) := by decide +kernel
theorem dX2_init_23 : decode cX2_init 23 = .ok (.putfield 19, 3) := by decide +kernel
theorem dX2_init_26 : decode cX2_init 26 = .ok (.aload_n 0, 1) := by decide +kernel
theorem dX2_init_27 : decode cX2_init 27 = .ok (.new 23, 3) := by decide +kernel
theorem dX2_init_30 : decode cX2_init 30 = .ok (.dup, 1) := by decide +kernel
theorem dX2_init_31 : decode cX2_init 31 = .ok (.invokespecial 25, 3) := by decide +kernel
theorem dX2_init_34 : decode cX2_init 34 = .ok (.putfield 26, 3) := by decide +kernel
theorem dX2_init_37 : decode cX2_init 37 = .ok (.return_, 1) := by decide +kernel
theorem dX2_copy_0 : decode cX2_copy 0 = .ok (.aload_n 0, 1) := by decide +kernel
theorem dX2_copy_1 : decode cX2_copy 1 = .ok (.getfield 10, 3) := by decide +kernel
theorem dX2_copy_4 : decode cX2_copy 4 = .ok (.aload_n 1, 1) := by decide +kernel
theorem dX2_copy_5 : decode cX2_copy 5 = .ok (.getfield 10, 3) := by decide +kernel
theorem dX2_copy_8 : decode cX2_copy 8 = .ok (.invokevirtual 30, 3) := by decide +kernel
theorem dX2_copy_11 : decode cX2_copy 11 = .ok (.aload_n 0, 1) := by decide +kernel
theorem dX2_copy_12 : decode cX2_copy 12 = .ok (.getfield 19, 3) := by decide +kernel
theorem dX2_copy_15 : decode cX2_copy 15 = .ok (.aload_n 1, 1) := by decide +kernel
theorem dX2_copy_16 : decode cX2_copy 16 = .ok (.getfield 19, 3) := by decide +kernel
theorem dX2_copy_19 : decode cX2_copy 19 = .ok (.invokevirtual 34, 3) := by decide +kernel
theorem dX2_copy_22 : decode cX2_copy 22 = .ok (.aload_n 0, 1) := by decide +kernel
theorem dX2_copy_23 : decode cX2_copy 23 = .ok (.getfield 26, 3) := by decide +kernel
theorem dX2_copy_26 : decode cX2_copy 26 = .ok (.aload_n 1, 1) := by decide +kernel
theorem dX2_copy_27 : decode cX2_copy 27 = .ok (.getfield 26, 3) := by decide +kernel
theorem dX2_copy_30 : decode cX2_copy 30 = .ok (.invokevirtual 37, 3) := by decide +kernel
theorem dX2_copy_33 : decode cX2_copy 33 = .ok (.return_, 1) := by decide +kernel
theorem dX3_init_0 : decode cX3_init 0 = .ok (.aload_n 0, 1) := by decide +kernel
theorem dX3_init_1 : decode cX3_init 1 = .ok (.invokespecial 3, 3) := by decide +kernel
theorem dX3_init_4 : decode cX3_init 4 = .ok (.aload_n 0, 1) := by decide +kernel
theorem dX3_init_5 : decode cX3_init 5 = .ok (.bipush 8, 2) := by decide +kernel
theorem dX3_init_7 : decode cX3_init 7 = .ok (.newarray .int, 2) := by decide +kernel
theorem dX3_init_9 : decode cX3_init 9 = .ok (.putfield 9, 3) := by decide +kernel
theorem dX3_init_12 : decode cX3_init 12 = .ok (.aload_n 0, 1) := by decide +kernel
theorem dX3_init_13 : decode cX3_init 13 = .ok (.bipush 8, 2) := by decide +kernel
theorem dX3_init_15 : decode cX3_init 15 = .ok (.newarray .int, 2) := by decide +kernel
theorem dX3_init_17 : decode cX3_init 17 = .ok (.putfield 15, 3) := by decide +kernel
theorem dX3_init_20 : decode cX3_init 20 = .ok (.aload_n 0, 1) := by decide +kernel
theorem dX3_init_21 : decode cX3_init 21 = .ok (.bipush 8, 2) := by decide +kernel
theorem dX3_init_23 : decode cX3_init 23 = .ok (.newarray .int, 2) := by decide +kernel
theorem dX3_init_25 : decode cX3_init 25 = .ok (.putfield 18, 3) := by decide +kernel
theorem dX3_init_28 : decode cX3_init 28 = .ok (.aload_n 0, 1) := by decide +kernel
theorem dX3_init_29 : decode cX3_init 29 = .ok (.bipush 8, 2) := by decide +kernel
theorem dX3_init_31 : decode cX3_init 31 = .ok (.newarray .int, 2) := by decide +kernel
theorem dX3_init_33 : decode cX3_init 33 = .ok (.putfield 21, 3) := by decide +kernel
theorem dX3_init_36 : decode cX3_init 36 = .ok (.return_, 1) := by decide +kernel
theorem dX3_add_0 : decode cX3_add 0 = .ok (.aload_n 0, 1) := by decide +kernel
theorem dX3_add_1 : decode cX3_add 1 = .ok (.getfield 24, 3) := by decide +kernel
theorem dX3_add_4 : decode cX3_add 4 = .ok (.bipush 8, 2) := by decide +kernel
theorem dX3_add_6 : decode cX3_add 6 = .ok (.invokestatic 28, 3) := by decide +kernel
theorem dX3_add_9 : decode cX3_add 9 = .ok (.ifCond .ne 5, 3) := by decide +kernel
theorem dX3_add_12 : decode cX3_add 12 = .ok (.iconst (-1), 1) := by decide +kernel
theorem dX3_add_13 : decode cX3_add 13 = .ok (.ireturn, 1) := by decide +kernel
theorem dX3_add_14 : decode cX3_add 14 = .ok (.aload_n 0, 1) := by decide +kernel
theorem dX3_add_15 : decode cX3_add 15 = .ok (.getfield 9, 3) := by decide +kernel
theorem dX3_add_18 : decode cX3_add 18 = .ok (.aload_n 0, 1) := by decide +kernel
theorem dX3_add_19 : decode cX3_add 19 = .ok (.getfield 24, 3) := by decide +kernel
theorem dX3_add_22 : decode cX3_add 22 = .ok (.iload_n 1, 1) := by decide +kernel
theorem dX3_add_23 : decode cX3_add 23 = .ok (.iastore, 1) := by decide +kernel
theorem dX3_add_24 : decode cX3_add 24 = .ok (.aload_n 0, 1) := by decide +kernel
theorem dX3_add_25 : decode cX3_add 25 = .ok (.getfield 15, 3) := by decide +kernel
theorem dX3_add_28 : decode cX3_add 28 = .ok (.aload_n 0, 1) := by decide +kernel
theorem dX3_add_29 : decode cX3_add 29 = .ok (.getfield 24, 3) := by decide +kernel
theorem dX3_add_32 : decode cX3_add 32 = .ok (.iload_n 2, 1) := by decide +kernel
theorem dX3_add_33 : decode cX3_add 33 = .ok (.iastore, 1) := by decide +kernel
theorem dX3_add_34 : decode cX3_add 34 = .ok (.aload_n 0, 1) := by decide +kernel
theorem dX3_add_35 : decode cX3_add 35 = .ok (.getfield 18, 3) := by decide +kernel
theorem dX3_add_38 : decode cX3_add 38 = .ok (.aload_n 0, 1) := by decide +kernel
theorem dX3_add_39 : decode cX3_add 39 = .ok (.getfield 24, 3) := by decide +kernel
theorem dX3_add_42 : decode cX3_add 42 = .ok (.iload_n 3, 1) := by decide +kernel
theorem dX3_add_43 : decode cX3_add 43 = .ok (.iastore, 1) := by decide +kernel
theorem dX3_add_44 : decode cX3_add 44 = .ok (.aload_n 0, 1) := by decide +kernel
theorem dX3_add_45 : decode cX3_add 45 = .ok (.getfield 21, 3) := by decide +kernel
theorem dX3_add_48 : decode cX3_add 48 = .ok (.aload_n 0, 1) := by decide +kernel
theorem dX3_add_49 : decode cX3_add 49 = .ok (.getfield 24, 3) := by decide +kernel
theorem dX3_add_52 : decode cX3_add 52 = .ok (.iload 4, 2) := by decide +kernel
theorem dX3_add_54 : decode cX3_add 54 = .ok (.iastore, 1) := by decide +kernel
theorem dX3_add_55 : decode cX3_add 55 = .ok (.aload_n 0, 1) := by decide +kernel
theorem dX3_add_56 : decode cX3_add 56 = .ok (.dup, 1) := by decide +kernel
theorem dX3_add_57 : decode cX3_add 57 = .ok (.getfield 24, 3) := by decide +kernel
theorem dX3_add_60 : decode cX3_add 60 = .ok (.iconst 1, 1) := by decide +kernel
theorem dX3_add_61 : decode cX3_add 61 = .ok (.iadd, 1) := by decide +kernel
theorem dX3_add_62 : decode cX3_add 62 = .ok (.putfield 24, 3) := by decide +kernel
theorem dX3_add_65 : decode cX3_add 65 = .ok (.aload_n 0, 1) := by decide +kernel
theorem dX3_add_66 : decode cX3_add 66 = .ok (.getfield 24, 3) := by decide +kernel
theorem dX3_add_69 : decode cX3_add 69 = .ok (.iconst 1, 1) := by decide +kernel
theorem dX3_add_70 : decode cX3_add 70 = .ok (.isub, 1) := by decide +kernel
theorem dX3_add_71 : decode cX3_add 71 = .ok (.ireturn, 1) := by decide +kernel
theorem dX3_takeBack_0 : decode cX3_takeBack 0 = .ok (.iload_n 1, 1) := by decide +kernel
theorem dX3_takeBack_1 : decode cX3_takeBack 1 = .ok (.aload_n 0, 1) := by decide +kernel
theorem dX3_takeBack_2 : decode cX3_takeBack 2 = .ok (.getfield 24, 3) := by decide +kernel
theorem dX3_takeBack_5 : decode cX3_takeBack 5 = .ok (.invokestatic 28, 3) := by decide +kernel
theorem dX3_takeBack_8 : decode cX3_takeBack 8 = .ok (.ifCond .ne 4, 3) := by decide +kernel
theorem dX3_takeBack_11 : decode cX3_takeBack 11 = .ok (.return_, 1) := by decide +kernel
theorem dX3_takeBack_12 : decode cX3_takeBack 12 = .ok (.iload_n 1, 1) := by decide +kernel
theorem dX3_takeBack_13 : decode cX3_takeBack 13 = .ok (.istore_n 2, 1) := by decide +kernel
theorem dX3_takeBack_14 : decode cX3_takeBack 14 = .ok (.iload_n 2, 1) := by decide +kernel
theorem dX3_takeBack_15 : decode cX3_takeBack 15 = .ok (.aload_n 0, 1) := by decide +kernel
theorem dX3_takeBack_16 : decode cX3_takeBack 16 = .ok (.getfield 24, 3) := by decide +kernel
theorem dX3_takeBack_19 : decode cX3_takeBack 19 = .ok (.iconst 1, 1) := by decide +kernel
theorem dX3_takeBack_20 : decode cX3_takeBack 20 = .ok (.isub, 1) := by decide +kernel
theorem dX3_takeBack_21 : decode cX3_takeBack 21 = .ok (.if_icmp .ge 71, 3) := by decide +kernel
theorem dX3_takeBack_24 : decode cX3_takeBack 24 = .ok (.iload_n 2, 1) := by decide +kernel
theorem dX3_takeBack_25 : decode cX3_takeBack 25 = .ok (.bipush 7, 2) := by decide +kernel
theorem dX3_takeBack_27 : decode cX3_takeBack 27 = .ok (.if_icmp .ge 65, 3) := by decide +kernel
theorem dX3_takeBack_30 : decode cX3_takeBack 30 = .ok (.aload_n 0, 1) := by decide +kernel
theorem dX3_takeBack_31 : decode cX3_takeBack 31 = .ok (.getfield 9, 3) := by decide +kernel
theorem dX3_takeBack_34 : decode cX3_takeBack 34 = .ok (.iload_n 2, 1) := by decide +kernel
theorem dX3_takeBack_35 : decode cX3_takeBack 35 = .ok (.aload_n 0, 1) := by decide +kernel
theorem dX3_takeBack_36 : decode cX3_takeBack 36 = .ok (.getfield 9, 3) := by decide +kernel
theorem dX3_takeBack_39 : decode cX3_takeBack 39 = .ok (.iload_n 2, 1) := by decide +kernel
theorem dX3_takeBack_40 : decode cX3_takeBack 40 = .ok (.iconst 1, 1) := by decide +kernel
theorem dX3_takeBack_41 : decode cX3_takeBack 41 = .ok (.iadd, 1) := by decide +kernel
theorem dX3_takeBack_42 : decode cX3_takeBack 42 = .ok (.iaload, 1) := by decide +kernel
theorem dX3_takeBack_43 : decode cX3_takeBack 43 = .ok (.iastore, 1) := by decide +kernel
theorem dX3_takeBack_44 : decode cX3_takeBack 44 = .ok (.aload_n 0, 1) := by decide +kernel
theorem dX3_takeBack_45 : decode cX3_takeBack 45 = .ok (.getfield 15, 3) := by decide +kernel
theorem dX3_takeBack_48 : decode cX3_takeBack 48 = .ok (.iload_n 2, 1) := by decide +kernel
theorem dX3_takeBack_49 : decode cX3_takeBack 49 = .ok (.aload_n 0, 1) := by decide +kernel
theorem dX3_takeBack_50 : decode cX3_takeBack 50 = .ok (.getfield 15, 3) := by decide +kernel
theorem dX3_takeBack_53 : decode cX3_takeBack 53 = .ok (.iload_n 2, 1) := by decide +kernel
theorem dX3_takeBack_54 : decode cX3_takeBack 54 = .ok (.iconst 1, 1) := by decide +kernel
theorem dX3_takeBack_55 : decode cX3_takeBack 55 = .ok (.iadd, 1) := by decide +kernel
theorem dX3_takeBack_56 : decode cX3_takeBack 56 = .ok (.iaload, 1) := by decide +kernel
theorem dX3_takeBack_57 : decode cX3_takeBack 57 = .ok (.iastore, 1) := by decide +kernel
theorem dX3_takeBack_58 : decode cX3_takeBack 58 = .ok (.aload_n 0, 1) := by decide +kernel
theorem dX3_takeBack_59 : decode cX3_takeBack 59 = .ok (.getfield 18, 3) := by decide +kernel
theorem dX3_takeBack_62 : decode cX3_takeBack 62 = .ok (.iload_n 2, 1) := by decide +kernel
theorem dX3_takeBack_63 : decode cX3_takeBack 63 = .ok (.aload_n 0, 1) := by decide +kernel
theorem dX3_takeBack_64 : decode cX3_takeBack 64 = .ok (.getfield 18, 3) := by decide +kernel
theorem dX3_takeBack_67 : decode cX3_takeBack 67 = .ok (.iload_n 2, 1) := by decide +kernel
theorem dX3_takeBack_68 : decode cX3_takeBack 68 = .ok (.iconst 1, 1) := by decide +kernel
theorem dX3_takeBack_69 : decode cX3_takeBack 69 = .ok (.iadd, 1) := by decide +kernel
theorem dX3_takeBack_70 : decode cX3_takeBack 70 = .ok (.iaload, 1) := by decide +kernel
theorem dX3_takeBack_71 : decode cX3_takeBack 71 = .ok (.iastore, 1) := by decide +kernel
theorem dX3_takeBack_72 : decode cX3_takeBack 72 = .ok (.aload_n 0, 1) := by decide +kernel
theorem dX3_takeBack_73 : decode cX3_takeBack 73 = .ok (.getfield 21, 3) := by decide +kernel
theorem dX3_takeBack_76 : decode cX3_takeBack 76 = .ok (.iload_n 2, 1) := by decide +kernel
theorem dX3_takeBack_77 : decode cX3_takeBack 77 = .ok (.aload_n 0, 1) := by decide +kernel
theorem dX3_takeBack_78 : decode cX3_takeBack 78 = .ok (.getfield 21, 3) := by decide +kernel
theorem dX3_takeBack_81 : decode cX3_takeBack 81 = .ok (.iload_n 2, 1) := by decide +kernel
theorem dX3_takeBack_82 : decode cX3_takeBack 82 = .ok (.iconst 1, 1) := by decide +kernel
theorem dX3_takeBack_83 : decode cX3_takeBack 83 = .ok (.iadd, 1) := by decide +kernel
theorem dX3_takeBack_84 : decode cX3_takeBack 84 = .ok (.iaload, 1) := by decide +kernel
theorem dX3_takeBack_85 : decode cX3_takeBack 85 = .ok (.iastore, 1) := by decide +kernel
theorem dX3_takeBack_86 : decode cX3_takeBack 86 = .ok (.iinc 2 1, 3) := by decide +kernel
theorem dX3_takeBack_89 : decode cX3_takeBack 89 = .ok (.goto (-75), 3) := by decide +kernel
theorem dX3_takeBack_92 : decode cX3_takeBack 92 = .ok (.aload_n 0, 1) := by decide +kernel
theorem dX3_takeBack_93 : decode cX3_takeBack 93 = .ok (.dup, 1) := by decide +kernel
theorem dX3_takeBack_94 : decode cX3_takeBack 94 = .ok (.getfield 24, 3) := by decide +kernel
theorem dX3_takeBack_97 : decode cX3_takeBack 97 = .ok (.iconst 1, 1) := by decide +kernel
theorem dX3_takeBack_98 : decode cX3_takeBack 98 = .ok (.isub, 1) := by decide +kernel
theorem dX3_takeBack_99 : decode cX3_takeBack 99 = .ok (.putfield 24, 3) := by decide +kernel
theorem dX3_takeBack_102 : decode cX3_takeBack 102 = .ok (.return_, 1) := by decide +kernel
theorem dX3_copy_0 : decode cX3_copy 0 = .ok (.aload_n 0, 1) := by decide +kernel
theorem dX3_copy_1 : decode cX3_copy 1 = .ok (.iconst 0, 1) := by decide +kernel
theorem dX3_copy_2 : decode cX3_copy 2 = .ok (.putfield 24, 3) := by decide +kernel
theorem dX3_copy_5 : decode cX3_copy 5 = .ok (.iconst 0, 1) := by decide +kernel
theorem dX3_copy_6 : decode cX3_copy 6 = .ok (.istore_n 2, 1) := by decide +kernel
theorem dX3_copy_7 : decode cX3_copy 7 = .ok (.iload_n 2, 1) := by decide +kernel
theorem dX3_copy_8 : decode cX3_copy 8 = .ok (.aload_n 1, 1) := by decide +kernel
theorem dX3_copy_9 : decode cX3_copy 9 = .ok (.getfield 24, 3) := by decide +kernel
theorem dX3_copy_12 : decode cX3_copy 12 = .ok (.if_icmp .ge 44, 3) := by decide +kernel
theorem dX3_copy_15 : decode cX3_copy 15 = .ok (.iload_n 2, 1) := by decide +kernel
theorem dX3_copy_16 : decode cX3_copy 16 = .ok (.bipush 8, 2) := by decide +kernel
theorem dX3_copy_18 : decode cX3_copy 18 = .ok (.if_icmp .ge 38, 3) := by decide +kernel
theorem dX3_copy_21 : decode cX3_copy 21 = .ok (.aload_n 0, 1) := by decide +kernel
theorem dX3_copy_22 : decode cX3_copy 22 = .ok (.aload_n 1, 1) := by decide +kernel
theorem dX3_copy_23 : decode cX3_copy 23 = .ok (.getfield 9, 3) := by decide +kernel
theorem dX3_copy_26 : decode cX3_copy 26 = .ok (.iload_n 2, 1) := by decide +kernel
theorem dX3_copy_27 : decode cX3_copy 27 = .ok (.iaload, 1) := by decide +kernel
theorem dX3_copy_28 : decode cX3_copy 28 = .ok (.aload_n 1, 1) := by decide +kernel
theorem dX3_copy_29 : decode cX3_copy 29 = .ok (.getfield 15, 3) := by decide +kernel
theorem dX3_copy_32 : decode cX3_copy 32 = .ok (.iload_n 2, 1) := by decide +kernel
theorem dX3_copy_33 : decode cX3_copy 33 = .ok (.iaload, 1) := by decide +kernel
theorem dX3_copy_34 : decode cX3_copy 34 = .ok (.aload_n 1, 1) := by decide +kernel
theorem dX3_copy_35 : decode cX3_copy 35 = .ok (.getfield 18, 3) := by decide +kernel
theorem dX3_copy_38 : decode cX3_copy 38 = .ok (.iload_n 2, 1) := by decide +kernel
theorem dX3_copy_39 : decode cX3_copy 39 = .ok (.iaload, 1) := by decide +kernel
theorem dX3_copy_40 : decode cX3_copy 40 = .ok (.aload_n 1, 1) := by decide +kernel
theorem dX3_copy_41 : decode cX3_copy 41 = .ok (.getfield 21, 3) := by decide +kernel
theorem dX3_copy_44 : decode cX3_copy 44 = .ok (.iload_n 2, 1) := by decide +kernel
theorem dX3_copy_45 : decode cX3_copy 45 = .ok (.iaload, 1) := by decide +kernel
theorem dX3_copy_46 : decode cX3_copy 46 = .ok (.invokevirtual 32, 3) := by decide +kernel
theorem dX3_copy_49 : decode cX3_copy 49 = .ok (.pop, 1) := by decide +kernel
theorem dX3_copy_50 : decode cX3_copy 50 = .ok (.iinc 2 1, 3) := by decide +kernel
theorem dX3_copy_53 : decode cX3_copy 53 = .ok (.goto (-46), 3) := by decide +kernel
theorem dX3_copy_56 : decode cX3_copy 56 = .ok (.return_, 1) := by decide +kernel
theorem dX3_lastHour_0 : decode cX3_lastHour 0 = .ok (.iconst (-1), 1) := by decide +kernel
theorem dX3_lastHour_1 : decode cX3_lastHour 1 = .ok (.istore_n 1, 1) := by decide +kernel
theorem dX3_lastHour_2 : decode cX3_lastHour 2 = .ok (.iconst 0, 1) := by decide +kernel
theorem dX3_lastHour_3 : decode cX3_lastHour 3 = .ok (.istore_n 2, 1) := by decide +kernel
theorem dX3_lastHour_4 : decode cX3_lastHour 4 = .ok (.iload_n 2, 1) := by decide +kernel
theorem dX3_lastHour_5 : decode cX3_lastHour 5 = .ok (.aload_n 0, 1) := by decide +kernel
theorem dX3_lastHour_6 : decode cX3_lastHour 6 = .ok (.getfield 24, 3) := by decide +kernel
theorem dX3_lastHour_9 : decode cX3_lastHour 9 = .ok (.if_icmp .ge 26, 3) := by decide +kernel
theorem dX3_lastHour_12 : decode cX3_lastHour 12 = .ok (.iload_n 2, 1) := by decide +kernel
theorem dX3_lastHour_13 : decode cX3_lastHour 13 = .ok (.bipush 8, 2) := by decide +kernel
theorem dX3_lastHour_15 : decode cX3_lastHour 15 = .ok (.if_icmp .ge 20, 3) := by decide +kernel
theorem dX3_lastHour_18 : decode cX3_lastHour 18 = .ok (.iload_n 1, 1) := by decide +kernel
theorem dX3_lastHour_19 : decode cX3_lastHour 19 = .ok (.aload_n 0, 1) := by decide +kernel
theorem dX3_lastHour_20 : decode cX3_lastHour 20 = .ok (.getfield 15, 3) := by decide +kernel
theorem dX3_lastHour_23 : decode cX3_lastHour 23 = .ok (.iload_n 2, 1) := by decide +kernel
theorem dX3_lastHour_24 : decode cX3_lastHour 24 = .ok (.iaload, 1) := by decide +kernel
theorem dX3_lastHour_25 : decode cX3_lastHour 25 = .ok (.invokestatic 36, 3) := by decide +kernel
theorem dX3_lastHour_28 : decode cX3_lastHour 28 = .ok (.istore_n 1, 1) := by decide +kernel
theorem dX3_lastHour_29 : decode cX3_lastHour 29 = .ok (.iinc 2 1, 3) := by decide +kernel
theorem dX3_lastHour_32 : decode cX3_lastHour 32 = .ok (.goto (-28), 3) := by decide +kernel
theorem dX3_lastHour_35 : decode cX3_lastHour 35 = .ok (.iload_n 1, 1) := by decide +kernel
theorem dX3_lastHour_36 : decode cX3_lastHour 36 = .ok (.ireturn, 1) := by decide +kernel
theorem dX3_lookedAt_0 : decode cX3_lookedAt 0 = .ok (.iconst 0, 1) := by decide +kernel
theorem dX3_lookedAt_1 : decode cX3_lookedAt 1 = .ok (.istore 4, 2) := by decide +kernel
theorem dX3_lookedAt_3 : decode cX3_lookedAt 3 = .ok (.iload 4, 2) := by decide +kernel
theorem dX3_lookedAt_5 : decode cX3_lookedAt 5 = .ok (.aload_n 0, 1) := by decide +kernel
theorem dX3_lookedAt_6 : decode cX3_lookedAt 6 = .ok (.getfield 24, 3) := by decide +kernel
theorem dX3_lookedAt_9 : decode cX3_lookedAt 9 = .ok (.if_icmp .ge 55, 3) := by decide +kernel
theorem dX3_lookedAt_12 : decode cX3_lookedAt 12 = .ok (.iload 4, 2) := by decide +kernel
theorem dX3_lookedAt_14 : decode cX3_lookedAt 14 = .ok (.bipush 8, 2) := by decide +kernel
theorem dX3_lookedAt_16 : decode cX3_lookedAt 16 = .ok (.if_icmp .ge 48, 3) := by decide +kernel
theorem dX3_lookedAt_19 : decode cX3_lookedAt 19 = .ok (.aload_n 0, 1) := by decide +kernel
theorem dX3_lookedAt_20 : decode cX3_lookedAt 20 = .ok (.getfield 9, 3) := by decide +kernel
theorem dX3_lookedAt_23 : decode cX3_lookedAt 23 = .ok (.iload 4, 2) := by decide +kernel
theorem dX3_lookedAt_25 : decode cX3_lookedAt 25 = .ok (.iaload, 1) := by decide +kernel
theorem dX3_lookedAt_26 : decode cX3_lookedAt 26 = .ok (.iload_n 1, 1) := by decide +kernel
theorem dX3_lookedAt_27 : decode cX3_lookedAt 27 = .ok (.if_icmp .ne 31, 3) := by decide +kernel
theorem dX3_lookedAt_30 : decode cX3_lookedAt 30 = .ok (.aload_n 0, 1) := by decide +kernel
theorem dX3_lookedAt_31 : decode cX3_lookedAt 31 = .ok (.getfield 15, 3) := by decide +kernel
theorem dX3_lookedAt_34 : decode cX3_lookedAt 34 = .ok (.iload 4, 2) := by decide +kernel
theorem dX3_lookedAt_36 : decode cX3_lookedAt 36 = .ok (.iaload, 1) := by decide +kernel
theorem dX3_lookedAt_37 : decode cX3_lookedAt 37 = .ok (.iload_n 2, 1) := by decide +kernel
theorem dX3_lookedAt_38 : decode cX3_lookedAt 38 = .ok (.if_icmp .ne 20, 3) := by decide +kernel
theorem dX3_lookedAt_41 : decode cX3_lookedAt 41 = .ok (.iload_n 3, 1) := by decide +kernel
theorem dX3_lookedAt_42 : decode cX3_lookedAt 42 = .ok (.aload_n 0, 1) := by decide +kernel
theorem dX3_lookedAt_43 : decode cX3_lookedAt 43 = .ok (.getfield 18, 3) := by decide +kernel
theorem dX3_lookedAt_46 : decode cX3_lookedAt 46 = .ok (.iload 4, 2) := by decide +kernel
theorem dX3_lookedAt_48 : decode cX3_lookedAt 48 = .ok (.iaload, 1) := by decide +kernel
theorem dX3_lookedAt_49 : decode cX3_lookedAt 49 = .ok (.ishr, 1) := by decide +kernel
theorem dX3_lookedAt_50 : decode cX3_lookedAt 50 = .ok (.iconst 1, 1) := by decide +kernel
theorem dX3_lookedAt_51 : decode cX3_lookedAt 51 = .ok (.iand, 1) := by decide +kernel
theorem dX3_lookedAt_52 : decode cX3_lookedAt 52 = .ok (.iconst 1, 1) := by decide +kernel
theorem dX3_lookedAt_53 : decode cX3_lookedAt 53 = .ok (.if_icmp .ne 5, 3) := by decide +kernel
theorem dX3_lookedAt_56 : decode cX3_lookedAt 56 = .ok (.iconst 1, 1) := by decide +kernel
theorem dX3_lookedAt_57 : decode cX3_lookedAt 57 = .ok (.ireturn, 1) := by decide +kernel
theorem dX3_lookedAt_58 : decode cX3_lookedAt 58 = .ok (.iinc 4 1, 3) := by decide +kernel
theorem dX3_lookedAt_61 : decode cX3_lookedAt 61 = .ok (.goto (-58), 3) := by decide +kernel
theorem dX3_lookedAt_64 : decode cX3_lookedAt 64 = .ok (.iconst 0, 1) := by decide +kernel
theorem dX3_lookedAt_65 : decode cX3_lookedAt 65 = .ok (.ireturn, 1) := by decide +kernel
theorem dX4_init_0 : decode cX4_init 0 = .ok (.aload_n 0, 1) := by decide +kernel
theorem dX4_init_1 : decode cX4_init 1 = .ok (.invokespecial 3, 3) := by decide +kernel
theorem dX4_init_4 : decode cX4_init 4 = .ok (.aload_n 0, 1) := by decide +kernel
theorem dX4_init_5 : decode cX4_init 5 = .ok (.sipush 136, 3) := by decide +kernel
theorem dX4_init_8 : decode cX4_init 8 = .ok (.newarray .int, 2) := by decide +kernel
theorem dX4_init_10 : decode cX4_init 10 = .ok (.putfield 11, 3) := by decide +kernel
theorem dX4_init_13 : decode cX4_init 13 = .ok (.return_, 1) := by decide +kernel
theorem dX4_setOne_0 : decode cX4_setOne 0 = .ok (.aload_n 0, 1) := by decide +kernel
theorem dX4_setOne_1 : decode cX4_setOne 1 = .ok (.getfield 11, 3) := by decide +kernel
theorem dX4_setOne_4 : decode cX4_setOne 4 = .ok (.iconst 0, 1) := by decide +kernel
theorem dX4_setOne_5 : decode cX4_setOne 5 = .ok (.iconst 1, 1) := by decide +kernel
theorem dX4_setOne_6 : decode cX4_setOne 6 = .ok (.iastore, 1) := by decide +kernel
theorem dX4_setOne_7 : decode cX4_setOne 7 = .ok (.aload_n 0, 1) := by decide +kernel
theorem dX4_setOne_8 : decode cX4_setOne 8 = .ok (.iconst 1, 1) := by decide +kernel
theorem dX4_setOne_9 : decode cX4_setOne 9 = .ok (.putfield 15, 3) := by decide +kernel
theorem dX4_setOne_12 : decode cX4_setOne 12 = .ok (.return_, 1) := by decide +kernel
theorem dX4_copy_0 : decode cX4_copy 0 = .ok (.aload_n 0, 1) := by decide +kernel
theorem dX4_copy_1 : decode cX4_copy 1 = .ok (.iconst 0, 1) := by decide +kernel
theorem dX4_copy_2 : decode cX4_copy 2 = .ok (.aload_n 1, 1) := by decide +kernel
theorem dX4_copy_3 : decode cX4_copy 3 = .ok (.getfield 15, 3) := by decide +kernel
theorem dX4_copy_6 : decode cX4_copy 6 = .ok (.sipush 136, 3) := by decide +kernel
theorem dX4_copy_9 : decode cX4_copy 9 = .ok (.invokestatic 19, 3) := by decide +kernel
theorem dX4_copy_12 : decode cX4_copy 12 = .ok (.invokestatic 25, 3) := by decide +kernel
theorem dX4_copy_15 : decode cX4_copy 15 = .ok (.putfield 15, 3) := by decide +kernel
theorem dX4_copy_18 : decode cX4_copy 18 = .ok (.aload_n 1, 1) := by decide +kernel
theorem dX4_copy_19 : decode cX4_copy 19 = .ok (.getfield 11, 3) := by decide +kernel
theorem dX4_copy_22 : decode cX4_copy 22 = .ok (.iconst 0, 1) := by decide +kernel
theorem dX4_copy_23 : decode cX4_copy 23 = .ok (.aload_n 0, 1) := by decide +kernel
theorem dX4_copy_24 : decode cX4_copy 24 = .ok (.getfield 11, 3) := by decide +kernel
theorem dX4_copy_27 : decode cX4_copy 27 = .ok (.iconst 0, 1) := by decide +kernel
theorem dX4_copy_28 : decode cX4_copy 28 = .ok (.aload_n 0, 1) := by decide +kernel
theorem dX4_copy_29 : decode cX4_copy 29 = .ok (.getfield 15, 3) := by decide +kernel
theorem dX4_copy_32 : decode cX4_copy 32 = .ok (.invokestatic 28, 3) := by decide +kernel
theorem dX4_copy_35 : decode cX4_copy 35 = .ok (.return_, 1) := by decide +kernel
theorem dX4_isZero_0 : decode cX4_isZero 0 = .ok (.aload_n 0, 1) := by decide +kernel
theorem dX4_isZero_1 : decode cX4_isZero 1 = .ok (.getfield 15, 3) := by decide +kernel
theorem dX4_isZero_4 : decode cX4_isZero 4 = .ok (.ifCond .ne 7, 3) := by decide +kernel
theorem dX4_isZero_7 : decode cX4_isZero 7 = .ok (.iconst 1, 1) := by decide +kernel
theorem dX4_isZero_8 : decode cX4_isZero 8 = .ok (.goto 4, 3) := by decide +kernel
theorem dX4_isZero_11 : decode cX4_isZero 11 = .ok (.iconst 0, 1) := by decide +kernel
theorem dX4_isZero_12 : decode cX4_isZero 12 = .ok (.ireturn, 1) := by decide +kernel
theorem dX4_times_0 : decode cX4_times 0 = .ok (.lload_n 1, 1) := by decide +kernel
theorem dX4_times_1 : decode cX4_times 1 = .ok (.ldc2_w 34, 3) := by decide +kernel
theorem dX4_times_4 : decode cX4_times 4 = .ok (.ldiv, 1) := by decide +kernel
theorem dX4_times_5 : decode cX4_times 5 = .ok (.lstore_n 3, 1) := by decide +kernel
theorem dX4_times_6 : decode cX4_times 6 = .ok (.lload_n 1, 1) := by decide +kernel
theorem dX4_times_7 : decode cX4_times 7 = .ok (.ldc2_w 34, 3) := by decide +kernel
theorem dX4_times_10 : decode cX4_times 10 = .ok (.lrem, 1) := by decide +kernel
theorem dX4_times_11 : decode cX4_times 11 = .ok (.lstore 5, 2) := by decide +kernel
theorem dX4_times_13 : decode cX4_times 13 = .ok (.lconst 0, 1) := by decide +kernel
theorem dX4_times_14 : decode cX4_times 14 = .ok (.lstore 7, 2) := by decide +kernel
theorem dX4_times_16 : decode cX4_times 16 = .ok (.lconst 0, 1) := by decide +kernel
theorem dX4_times_17 : decode cX4_times 17 = .ok (.lstore 9, 2) := by decide +kernel
theorem dX4_times_19 : decode cX4_times 19 = .ok (.iconst 0, 1) := by decide +kernel
theorem dX4_times_20 : decode cX4_times 20 = .ok (.istore 11, 2) := by decide +kernel
theorem dX4_times_22 : decode cX4_times 22 = .ok (.aload_n 0, 1) := by decide +kernel
theorem dX4_times_23 : decode cX4_times 23 = .ok (.getfield 15, 3) := by decide +kernel
theorem dX4_times_26 : decode cX4_times 26 = .ok (.iconst 3, 1) := by decide +kernel
theorem dX4_times_27 : decode cX4_times 27 = .ok (.iadd, 1) := by decide +kernel
theorem dX4_times_28 : decode cX4_times 28 = .ok (.sipush 136, 3) := by decide +kernel
theorem dX4_times_31 : decode cX4_times 31 = .ok (.invokestatic 19, 3) := by decide +kernel
theorem dX4_times_34 : decode cX4_times 34 = .ok (.istore 12, 2) := by decide +kernel
theorem dX4_times_36 : decode cX4_times 36 = .ok (.iconst 0, 1) := by decide +kernel
theorem dX4_times_37 : decode cX4_times 37 = .ok (.istore 13, 2) := by decide +kernel
theorem dX4_times_39 : decode cX4_times 39 = .ok (.iload 13, 2) := by decide +kernel
theorem dX4_times_41 : decode cX4_times 41 = .ok (.iload 12, 2) := by decide +kernel
theorem dX4_times_43 : decode cX4_times 43 = .ok (.if_icmp .ge 89, 3) := by decide +kernel
theorem dX4_times_46 : decode cX4_times 46 = .ok (.iload 13, 2) := by decide +kernel
theorem dX4_times_48 : decode cX4_times 48 = .ok (.aload_n 0, 1) := by decide +kernel
theorem dX4_times_49 : decode cX4_times 49 = .ok (.getfield 15, 3) := by decide +kernel
theorem dX4_times_52 : decode cX4_times 52 = .ok (.if_icmp .ge 14, 3) := by decide +kernel
theorem dX4_times_55 : decode cX4_times 55 = .ok (.aload_n 0, 1) := by decide +kernel
theorem dX4_times_56 : decode cX4_times 56 = .ok (.getfield 11, 3) := by decide +kernel
theorem dX4_times_59 : decode cX4_times 59 = .ok (.iload 13, 2) := by decide +kernel
theorem dX4_times_61 : decode cX4_times 61 = .ok (.iaload, 1) := by decide +kernel
theorem dX4_times_62 : decode cX4_times 62 = .ok (.i2l, 1) := by decide +kernel
theorem dX4_times_63 : decode cX4_times 63 = .ok (.goto 4, 3) := by decide +kernel
theorem dX4_times_66 : decode cX4_times 66 = .ok (.lconst 0, 1) := by decide +kernel
theorem dX4_times_67 : decode cX4_times 67 = .ok (.lstore 14, 2) := by decide +kernel
theorem dX4_times_69 : decode cX4_times 69 = .ok (.lload 14, 2) := by decide +kernel
theorem dX4_times_71 : decode cX4_times 71 = .ok (.lload 5, 2) := by decide +kernel
theorem dX4_times_73 : decode cX4_times 73 = .ok (.lmul, 1) := by decide +kernel
theorem dX4_times_74 : decode cX4_times 74 = .ok (.lload 7, 2) := by decide +kernel
theorem dX4_times_76 : decode cX4_times 76 = .ok (.lload_n 3, 1) := by decide +kernel
theorem dX4_times_77 : decode cX4_times 77 = .ok (.lmul, 1) := by decide +kernel
theorem dX4_times_78 : decode cX4_times 78 = .ok (.ladd, 1) := by decide +kernel
theorem dX4_times_79 : decode cX4_times 79 = .ok (.lload 9, 2) := by decide +kernel
theorem dX4_times_81 : decode cX4_times 81 = .ok (.ladd, 1) := by decide +kernel
theorem dX4_times_82 : decode cX4_times 82 = .ok (.lstore 16, 2) := by decide +kernel
theorem dX4_times_84 : decode cX4_times 84 = .ok (.lload 14, 2) := by decide +kernel
theorem dX4_times_86 : decode cX4_times 86 = .ok (.lstore 7, 2) := by decide +kernel
theorem dX4_times_88 : decode cX4_times 88 = .ok (.lload 16, 2) := by decide +kernel
theorem dX4_times_90 : decode cX4_times 90 = .ok (.ldc2_w 34, 3) := by decide +kernel
theorem dX4_times_93 : decode cX4_times 93 = .ok (.ldiv, 1) := by decide +kernel
theorem dX4_times_94 : decode cX4_times 94 = .ok (.lstore 9, 2) := by decide +kernel
theorem dX4_times_96 : decode cX4_times 96 = .ok (.aload_n 0, 1) := by decide +kernel
theorem dX4_times_97 : decode cX4_times 97 = .ok (.getfield 11, 3) := by decide +kernel
theorem dX4_times_100 : decode cX4_times 100 = .ok (.iload 13, 2) := by decide +kernel
theorem dX4_times_102 : decode cX4_times 102 = .ok (.lload 16, 2) := by decide +kernel
theorem dX4_times_104 : decode cX4_times 104 = .ok (.ldc2_w 34, 3) := by decide +kernel
theorem dX4_times_107 : decode cX4_times 107 = .ok (.lrem, 1) := by decide +kernel
theorem dX4_times_108 : decode cX4_times 108 = .ok (.l2i, 1) := by decide +kernel
theorem dX4_times_109 : decode cX4_times 109 = .ok (.iastore, 1) := by decide +kernel
theorem dX4_times_110 : decode cX4_times 110 = .ok (.aload_n 0, 1) := by decide +kernel
theorem dX4_times_111 : decode cX4_times 111 = .ok (.getfield 11, 3) := by decide +kernel
theorem dX4_times_114 : decode cX4_times 114 = .ok (.iload 13, 2) := by decide +kernel
theorem dX4_times_116 : decode cX4_times 116 = .ok (.iaload, 1) := by decide +kernel
theorem dX4_times_117 : decode cX4_times 117 = .ok (.ifCond .eq 9, 3) := by decide +kernel
theorem dX4_times_120 : decode cX4_times 120 = .ok (.iload 13, 2) := by decide +kernel
theorem dX4_times_122 : decode cX4_times 122 = .ok (.iconst 1, 1) := by decide +kernel
theorem dX4_times_123 : decode cX4_times 123 = .ok (.iadd, 1) := by decide +kernel
theorem dX4_times_124 : decode cX4_times 124 = .ok (.istore 11, 2) := by decide +kernel
theorem dX4_times_126 : decode cX4_times 126 = .ok (.iinc 13 1, 3) := by decide +kernel
theorem dX4_times_129 : decode cX4_times 129 = .ok (.goto (-90), 3) := by decide +kernel
theorem dX4_times_132 : decode cX4_times 132 = .ok (.aload_n 0, 1) := by decide +kernel
theorem dX4_times_133 : decode cX4_times 133 = .ok (.iload 11, 2) := by decide +kernel
theorem dX4_times_135 : decode cX4_times 135 = .ok (.putfield 15, 3) := by decide +kernel
theorem dX4_times_138 : decode cX4_times 138 = .ok (.return_, 1) := by decide +kernel
theorem dX4_timesPower_0 : decode cX4_timesPower 0 = .ok (.lconst 1, 1) := by decide +kernel
theorem dX4_timesPower_1 : decode cX4_timesPower 1 = .ok (.lstore_n 3, 1) := by decide +kernel
theorem dX4_timesPower_2 : decode cX4_timesPower 2 = .ok (.iconst 0, 1) := by decide +kernel
theorem dX4_timesPower_3 : decode cX4_timesPower 3 = .ok (.istore 5, 2) := by decide +kernel
theorem dX4_timesPower_5 : decode cX4_timesPower 5 = .ok (.iload 5, 2) := by decide +kernel
theorem dX4_timesPower_7 : decode cX4_timesPower 7 = .ok (.iload_n 2, 1) := by decide +kernel
theorem dX4_timesPower_8 : decode cX4_timesPower 8 = .ok (.if_icmp .ge 29, 3) := by decide +kernel
theorem dX4_timesPower_11 : decode cX4_timesPower 11 = .ok (.lload_n 3, 1) := by decide +kernel
theorem dX4_timesPower_12 : decode cX4_timesPower 12 = .ok (.iload_n 1, 1) := by decide +kernel
theorem dX4_timesPower_13 : decode cX4_timesPower 13 = .ok (.i2l, 1) := by decide +kernel
theorem dX4_timesPower_14 : decode cX4_timesPower 14 = .ok (.lmul, 1) := by decide +kernel
theorem dX4_timesPower_15 : decode cX4_timesPower 15 = .ok (.lstore_n 3, 1) := by decide +kernel
theorem dX4_timesPower_16 : decode cX4_timesPower 16 = .ok (.lload_n 3, 1) := by decide +kernel
theorem dX4_timesPower_17 : decode cX4_timesPower 17 = .ok (.ldc2_w 36, 3) := by decide +kernel
theorem dX4_timesPower_20 : decode cX4_timesPower 20 = .ok (.lcmp, 1) := by decide +kernel
theorem dX4_timesPower_21 : decode cX4_timesPower 21 = .ok (.ifCond .le 10, 3) := by decide +kernel
theorem dX4_timesPower_24 : decode cX4_timesPower 24 = .ok (.aload_n 0, 1) := by decide +kernel
theorem dX4_timesPower_25 : decode cX4_timesPower 25 = .ok (.lload_n 3, 1) := by decide +kernel
theorem dX4_timesPower_26 : decode cX4_timesPower 26 = .ok (.invokevirtual 38, 3) := by decide +kernel
theorem dX4_timesPower_29 : decode cX4_timesPower 29 = .ok (.lconst 1, 1) := by decide +kernel
theorem dX4_timesPower_30 : decode cX4_timesPower 30 = .ok (.lstore_n 3, 1) := by decide +kernel
theorem dX4_timesPower_31 : decode cX4_timesPower 31 = .ok (.iinc 5 1, 3) := by decide +kernel
theorem dX4_timesPower_34 : decode cX4_timesPower 34 = .ok (.goto (-29), 3) := by decide +kernel
theorem dX4_timesPower_37 : decode cX4_timesPower 37 = .ok (.lload_n 3, 1) := by decide +kernel
theorem dX4_timesPower_38 : decode cX4_timesPower 38 = .ok (.lconst 1, 1) := by decide +kernel
theorem dX4_timesPower_39 : decode cX4_timesPower 39 = .ok (.lcmp, 1) := by decide +kernel
theorem dX4_timesPower_40 : decode cX4_timesPower 40 = .ok (.ifCond .le 8, 3) := by decide +kernel
theorem dX4_timesPower_43 : decode cX4_timesPower 43 = .ok (.aload_n 0, 1) := by decide +kernel
theorem dX4_timesPower_44 : decode cX4_timesPower 44 = .ok (.lload_n 3, 1) := by decide +kernel
theorem dX4_timesPower_45 : decode cX4_timesPower 45 = .ok (.invokevirtual 38, 3) := by decide +kernel
theorem dX4_timesPower_48 : decode cX4_timesPower 48 = .ok (.return_, 1) := by decide +kernel
theorem dX4_compareWith_0 : decode cX4_compareWith 0 = .ok (.aload_n 0, 1) := by decide +kernel
theorem dX4_compareWith_1 : decode cX4_compareWith 1 = .ok (.getfield 15, 3) := by decide +kernel
theorem dX4_compareWith_4 : decode cX4_compareWith 4 = .ok (.aload_n 1, 1) := by decide +kernel
theorem dX4_compareWith_5 : decode cX4_compareWith 5 = .ok (.getfield 15, 3) := by decide +kernel
theorem dX4_compareWith_8 : decode cX4_compareWith 8 = .ok (.if_icmp .eq 20, 3) := by decide +kernel
theorem dX4_compareWith_11 : decode cX4_compareWith 11 = .ok (.aload_n 0, 1) := by decide +kernel
theorem dX4_compareWith_12 : decode cX4_compareWith 12 = .ok (.getfield 15, 3) := by decide +kernel
theorem dX4_compareWith_15 : decode cX4_compareWith 15 = .ok (.aload_n 1, 1) := by decide +kernel
theorem dX4_compareWith_16 : decode cX4_compareWith 16 = .ok (.getfield 15, 3) := by decide +kernel
theorem dX4_compareWith_19 : decode cX4_compareWith 19 = .ok (.if_icmp .le 7, 3) := by decide +kernel
theorem dX4_compareWith_22 : decode cX4_compareWith 22 = .ok (.iconst 1, 1) := by decide +kernel
theorem dX4_compareWith_23 : decode cX4_compareWith 23 = .ok (.goto 4, 3) := by decide +kernel
theorem dX4_compareWith_26 : decode cX4_compareWith 26 = .ok (.iconst (-1), 1) := by decide +kernel
theorem dX4_compareWith_27 : decode cX4_compareWith 27 = .ok (.ireturn, 1) := by decide +kernel
theorem dX4_compareWith_28 : decode cX4_compareWith 28 = .ok (.aload_n 0, 1) := by decide +kernel
theorem dX4_compareWith_29 : decode cX4_compareWith 29 = .ok (.getfield 15, 3) := by decide +kernel
theorem dX4_compareWith_32 : decode cX4_compareWith 32 = .ok (.sipush 136, 3) := by decide +kernel
theorem dX4_compareWith_35 : decode cX4_compareWith 35 = .ok (.invokestatic 19, 3) := by decide +kernel
theorem dX4_compareWith_38 : decode cX4_compareWith 38 = .ok (.iconst 1, 1) := by decide +kernel
theorem dX4_compareWith_39 : decode cX4_compareWith 39 = .ok (.isub, 1) := by decide +kernel
theorem dX4_compareWith_40 : decode cX4_compareWith 40 = .ok (.istore_n 2, 1) := by decide +kernel
theorem dX4_compareWith_41 : decode cX4_compareWith 41 = .ok (.iload_n 2, 1) := by decide +kernel
theorem dX4_compareWith_42 : decode cX4_compareWith 42 = .ok (.ifCond .lt 45, 3) := by decide +kernel
theorem dX4_compareWith_45 : decode cX4_compareWith 45 = .ok (.aload_n 0, 1) := by decide +kernel
theorem dX4_compareWith_46 : decode cX4_compareWith 46 = .ok (.getfield 11, 3) := by decide +kernel
theorem dX4_compareWith_49 : decode cX4_compareWith 49 = .ok (.iload_n 2, 1) := by decide +kernel
theorem dX4_compareWith_50 : decode cX4_compareWith 50 = .ok (.iaload, 1) := by decide +kernel
theorem dX4_compareWith_51 : decode cX4_compareWith 51 = .ok (.aload_n 1, 1) := by decide +kernel
theorem dX4_compareWith_52 : decode cX4_compareWith 52 = .ok (.getfield 11, 3) := by decide +kernel
theorem dX4_compareWith_55 : decode cX4_compareWith 55 = .ok (.iload_n 2, 1) := by decide +kernel
theorem dX4_compareWith_56 : decode cX4_compareWith 56 = .ok (.iaload, 1) := by decide +kernel
theorem dX4_compareWith_57 : decode cX4_compareWith 57 = .ok (.if_icmp .eq 24, 3) := by decide +kernel
theorem dX4_compareWith_60 : decode cX4_compareWith 60 = .ok (.aload_n 0, 1) := by decide +kernel
theorem dX4_compareWith_61 : decode cX4_compareWith 61 = .ok (.getfield 11, 3) := by decide +kernel
theorem dX4_compareWith_64 : decode cX4_compareWith 64 = .ok (.iload_n 2, 1) := by decide +kernel
theorem dX4_compareWith_65 : decode cX4_compareWith 65 = .ok (.iaload, 1) := by decide +kernel
theorem dX4_compareWith_66 : decode cX4_compareWith 66 = .ok (.aload_n 1, 1) := by decide +kernel
theorem dX4_compareWith_67 : decode cX4_compareWith 67 = .ok (.getfield 11, 3) := by decide +kernel
theorem dX4_compareWith_70 : decode cX4_compareWith 70 = .ok (.iload_n 2, 1) := by decide +kernel
theorem dX4_compareWith_71 : decode cX4_compareWith 71 = .ok (.iaload, 1) := by decide +kernel
theorem dX4_compareWith_72 : decode cX4_compareWith 72 = .ok (.if_icmp .le 7, 3) := by decide +kernel
theorem dX4_compareWith_75 : decode cX4_compareWith 75 = .ok (.iconst 1, 1) := by decide +kernel
theorem dX4_compareWith_76 : decode cX4_compareWith 76 = .ok (.goto 4, 3) := by decide +kernel
theorem dX4_compareWith_79 : decode cX4_compareWith 79 = .ok (.iconst (-1), 1) := by decide +kernel
theorem dX4_compareWith_80 : decode cX4_compareWith 80 = .ok (.ireturn, 1) := by decide +kernel
theorem dX4_compareWith_81 : decode cX4_compareWith 81 = .ok (.iinc 2 (-1), 3) := by decide +kernel
theorem dX4_compareWith_84 : decode cX4_compareWith 84 = .ok (.goto (-43), 3) := by decide +kernel
theorem dX4_compareWith_87 : decode cX4_compareWith 87 = .ok (.iconst 0, 1) := by decide +kernel
theorem dX4_compareWith_88 : decode cX4_compareWith 88 = .ok (.ireturn, 1) := by decide +kernel
theorem dX4_howManyDigits_0 : decode cX4_howManyDigits 0 = .ok (.aload_n 0, 1) := by decide +kernel
theorem dX4_howManyDigits_1 : decode cX4_howManyDigits 1 = .ok (.getfield 15, 3) := by decide +kernel
theorem dX4_howManyDigits_4 : decode cX4_howManyDigits 4 = .ok (.iconst 1, 1) := by decide +kernel
theorem dX4_howManyDigits_5 : decode cX4_howManyDigits 5 = .ok (.isub, 1) := by decide +kernel
theorem dX4_howManyDigits_6 : decode cX4_howManyDigits 6 = .ok (.sipush 136, 3) := by decide +kernel
theorem dX4_howManyDigits_9 : decode cX4_howManyDigits 9 = .ok (.invokestatic 42, 3) := by decide +kernel
theorem dX4_howManyDigits_12 : decode cX4_howManyDigits 12 = .ok (.ifCond .ne 5, 3) := by decide +kernel
theorem dX4_howManyDigits_15 : decode cX4_howManyDigits 15 = .ok (.iconst 1, 1) := by decide +kernel
theorem dX4_howManyDigits_16 : decode cX4_howManyDigits 16 = .ok (.ireturn, 1) := by decide +kernel
theorem dX4_howManyDigits_17 : decode cX4_howManyDigits 17 = .ok (.aload_n 0, 1) := by decide +kernel
theorem dX4_howManyDigits_18 : decode cX4_howManyDigits 18 = .ok (.getfield 15, 3) := by decide +kernel
theorem dX4_howManyDigits_21 : decode cX4_howManyDigits 21 = .ok (.iconst 1, 1) := by decide +kernel
theorem dX4_howManyDigits_22 : decode cX4_howManyDigits 22 = .ok (.isub, 1) := by decide +kernel
theorem dX4_howManyDigits_23 : decode cX4_howManyDigits 23 = .ok (.bipush 9, 2) := by decide +kernel
theorem dX4_howManyDigits_25 : decode cX4_howManyDigits 25 = .ok (.imul, 1) := by decide +kernel
theorem dX4_howManyDigits_26 : decode cX4_howManyDigits 26 = .ok (.istore_n 1, 1) := by decide +kernel
theorem dX4_howManyDigits_27 : decode cX4_howManyDigits 27 = .ok (.aload_n 0, 1) := by decide +kernel
theorem dX4_howManyDigits_28 : decode cX4_howManyDigits 28 = .ok (.getfield 11, 3) := by decide +kernel
theorem dX4_howManyDigits_31 : decode cX4_howManyDigits 31 = .ok (.aload_n 0, 1) := by decide +kernel
theorem dX4_howManyDigits_32 : decode cX4_howManyDigits 32 = .ok (.getfield 15, 3) := by decide +kernel
theorem dX4_howManyDigits_35 : decode cX4_howManyDigits 35 = .ok (.iconst 1, 1) := by decide +kernel
theorem dX4_howManyDigits_36 : decode cX4_howManyDigits 36 = .ok (.isub, 1) := by decide +kernel
theorem dX4_howManyDigits_37 : decode cX4_howManyDigits 37 = .ok (.iaload, 1) := by decide +kernel
theorem dX4_howManyDigits_38 : decode cX4_howManyDigits 38 = .ok (.istore_n 2, 1) := by decide +kernel
theorem dX4_howManyDigits_39 : decode cX4_howManyDigits 39 = .ok (.iconst 0, 1) := by decide +kernel
theorem dX4_howManyDigits_40 : decode cX4_howManyDigits 40 = .ok (.istore_n 3, 1) := by decide +kernel
theorem dX4_howManyDigits_41 : decode cX4_howManyDigits 41 = .ok (.iload_n 3, 1) := by decide +kernel
theorem dX4_howManyDigits_42 : decode cX4_howManyDigits 42 = .ok (.bipush 9, 2) := by decide +kernel
theorem dX4_howManyDigits_44 : decode cX4_howManyDigits 44 = .ok (.if_icmp .ge 21, 3) := by decide +kernel
theorem dX4_howManyDigits_47 : decode cX4_howManyDigits 47 = .ok (.iload_n 2, 1) := by decide +kernel
theorem dX4_howManyDigits_48 : decode cX4_howManyDigits 48 = .ok (.ifCond .le 17, 3) := by decide +kernel
theorem dX4_howManyDigits_51 : decode cX4_howManyDigits 51 = .ok (.iinc 1 1, 3) := by decide +kernel
theorem dX4_howManyDigits_54 : decode cX4_howManyDigits 54 = .ok (.iload_n 2, 1) := by decide +kernel
theorem dX4_howManyDigits_55 : decode cX4_howManyDigits 55 = .ok (.bipush 10, 2) := by decide +kernel
theorem dX4_howManyDigits_57 : decode cX4_howManyDigits 57 = .ok (.idiv, 1) := by decide +kernel
theorem dX4_howManyDigits_58 : decode cX4_howManyDigits 58 = .ok (.istore_n 2, 1) := by decide +kernel
theorem dX4_howManyDigits_59 : decode cX4_howManyDigits 59 = .ok (.iinc 3 1, 3) := by decide +kernel
theorem dX4_howManyDigits_62 : decode cX4_howManyDigits 62 = .ok (.goto (-21), 3) := by decide +kernel
theorem dX4_howManyDigits_65 : decode cX4_howManyDigits 65 = .ok (.iload_n 1, 1) := by decide +kernel
theorem dX4_howManyDigits_66 : decode cX4_howManyDigits 66 = .ok (.ireturn, 1) := by decide +kernel
theorem dX4_digitAt_0 : decode cX4_digitAt 0 = .ok (.iload_n 1, 1) := by decide +kernel
theorem dX4_digitAt_1 : decode cX4_digitAt 1 = .ok (.aload_n 0, 1) := by decide +kernel
theorem dX4_digitAt_2 : decode cX4_digitAt 2 = .ok (.invokevirtual 46, 3) := by decide +kernel
theorem dX4_digitAt_5 : decode cX4_digitAt 5 = .ok (.invokestatic 42, 3) := by decide +kernel
theorem dX4_digitAt_8 : decode cX4_digitAt 8 = .ok (.ifCond .ne 5, 3) := by decide +kernel
theorem dX4_digitAt_11 : decode cX4_digitAt 11 = .ok (.iconst (-1), 1) := by decide +kernel
theorem dX4_digitAt_12 : decode cX4_digitAt 12 = .ok (.ireturn, 1) := by decide +kernel
theorem dX4_digitAt_13 : decode cX4_digitAt 13 = .ok (.iload_n 1, 1) := by decide +kernel
theorem dX4_digitAt_14 : decode cX4_digitAt 14 = .ok (.bipush 9, 2) := by decide +kernel
theorem dX4_digitAt_16 : decode cX4_digitAt 16 = .ok (.idiv, 1) := by decide +kernel
theorem dX4_digitAt_17 : decode cX4_digitAt 17 = .ok (.istore_n 2, 1) := by decide +kernel
theorem dX4_digitAt_18 : decode cX4_digitAt 18 = .ok (.iload_n 2, 1) := by decide +kernel
theorem dX4_digitAt_19 : decode cX4_digitAt 19 = .ok (.aload_n 0, 1) := by decide +kernel
theorem dX4_digitAt_20 : decode cX4_digitAt 20 = .ok (.getfield 15, 3) := by decide +kernel
theorem dX4_digitAt_23 : decode cX4_digitAt 23 = .ok (.invokestatic 42, 3) := by decide +kernel
theorem dX4_digitAt_26 : decode cX4_digitAt 26 = .ok (.ifCond .eq 22, 3) := by decide +kernel
theorem dX4_digitAt_29 : decode cX4_digitAt 29 = .ok (.iload_n 2, 1) := by decide +kernel
theorem dX4_digitAt_30 : decode cX4_digitAt 30 = .ok (.sipush 136, 3) := by decide +kernel
theorem dX4_digitAt_33 : decode cX4_digitAt 33 = .ok (.invokestatic 42, 3) := by decide +kernel
theorem dX4_digitAt_36 : decode cX4_digitAt 36 = .ok (.ifCond .eq 12, 3) := by decide +kernel
theorem dX4_digitAt_39 : decode cX4_digitAt 39 = .ok (.aload_n 0, 1) := by decide +kernel
theorem dX4_digitAt_40 : decode cX4_digitAt 40 = .ok (.getfield 11, 3) := by decide +kernel
theorem dX4_digitAt_43 : decode cX4_digitAt 43 = .ok (.iload_n 2, 1) := by decide +kernel
theorem dX4_digitAt_44 : decode cX4_digitAt 44 = .ok (.iaload, 1) := by decide +kernel
theorem dX4_digitAt_45 : decode cX4_digitAt 45 = .ok (.goto 4, 3) := by decide +kernel
theorem dX4_digitAt_48 : decode cX4_digitAt 48 = .ok (.iconst 0, 1) := by decide +kernel
theorem dX4_digitAt_49 : decode cX4_digitAt 49 = .ok (.istore_n 3, 1) := by decide +kernel
theorem dX4_digitAt_50 : decode cX4_digitAt 50 = .ok (.iconst 0, 1) := by decide +kernel
theorem dX4_digitAt_51 : decode cX4_digitAt 51 = .ok (.istore 4, 2) := by decide +kernel
theorem dX4_digitAt_53 : decode cX4_digitAt 53 = .ok (.iload 4, 2) := by decide +kernel
theorem dX4_digitAt_55 : decode cX4_digitAt 55 = .ok (.iload_n 1, 1) := by decide +kernel
theorem dX4_digitAt_56 : decode cX4_digitAt 56 = .ok (.bipush 9, 2) := by decide +kernel
theorem dX4_digitAt_58 : decode cX4_digitAt 58 = .ok (.irem, 1) := by decide +kernel
theorem dX4_digitAt_59 : decode cX4_digitAt 59 = .ok (.if_icmp .ge 14, 3) := by decide +kernel
theorem dX4_digitAt_62 : decode cX4_digitAt 62 = .ok (.iload_n 3, 1) := by decide +kernel
theorem dX4_digitAt_63 : decode cX4_digitAt 63 = .ok (.bipush 10, 2) := by decide +kernel
theorem dX4_digitAt_65 : decode cX4_digitAt 65 = .ok (.idiv, 1) := by decide +kernel
theorem dX4_digitAt_66 : decode cX4_digitAt 66 = .ok (.istore_n 3, 1) := by decide +kernel
theorem dX4_digitAt_67 : decode cX4_digitAt 67 = .ok (.iinc 4 1, 3) := by decide +kernel
theorem dX4_digitAt_70 : decode cX4_digitAt 70 = .ok (.goto (-17), 3) := by decide +kernel
theorem dX4_digitAt_73 : decode cX4_digitAt 73 = .ok (.iload_n 3, 1) := by decide +kernel
theorem dX4_digitAt_74 : decode cX4_digitAt 74 = .ok (.bipush 10, 2) := by decide +kernel
theorem dX4_digitAt_76 : decode cX4_digitAt 76 = .ok (.irem, 1) := by decide +kernel
theorem dX4_digitAt_77 : decode cX4_digitAt 77 = .ok (.ireturn, 1) := by decide +kernel
theorem dX5_init_0 : decode cX5_init 0 = .ok (.aload_n 0, 1) := by decide +kernel
theorem dX5_init_1 : decode cX5_init 1 = .ok (.invokespecial 3, 3) := by decide +kernel
theorem dX5_init_4 : decode cX5_init 4 = .ok (.aload_n 0, 1) := by decide +kernel
theorem dX5_init_5 : decode cX5_init 5 = .ok (.bipush 80, 2) := by decide +kernel
theorem dX5_init_7 : decode cX5_init 7 = .ok (.newarray .int, 2) := by decide +kernel
theorem dX5_init_9 : decode cX5_init 9 = .ok (.putfield 9, 3) := by decide +kernel
theorem dX5_init_12 : decode cX5_init 12 = .ok (.aload_n 0, 1) := by decide +kernel
theorem dX5_init_13 : decode cX5_init 13 = .ok (.bipush 10, 2) := by decide +kernel
theorem dX5_init_15 : decode cX5_init 15 = .ok (.newarray .int, 2) := by decide +kernel
theorem dX5_init_17 : decode cX5_init 17 = .ok (.putfield 15, 3) := by decide +kernel
theorem dX5_init_20 : decode cX5_init 20 = .ok (.aload_n 0, 1) := by decide +kernel
theorem dX5_init_21 : decode cX5_init 21 = .ok (.bipush 10, 2) := by decide +kernel
theorem dX5_init_23 : decode cX5_init 23 = .ok (.newarray .int, 2) := by decide +kernel
theorem dX5_init_25 : decode cX5_init 25 = .ok (.putfield 18, 3) := by decide +kernel
theorem dX5_init_28 : decode cX5_init 28 = .ok (.aload_n 0, 1) := by decide +kernel
theorem dX5_init_29 : decode cX5_init 29 = .ok (.bipush 10, 2) := by decide +kernel
theorem dX5_init_31 : decode cX5_init 31 = .ok (.newarray .int, 2) := by decide +kernel
theorem dX5_init_33 : decode cX5_init 33 = .ok (.putfield 21, 3) := by decide +kernel
theorem dX5_init_36 : decode cX5_init 36 = .ok (.aload_n 0, 1) := by decide +kernel
theorem dX5_init_37 : decode cX5_init 37 = .ok (.invokevirtual 24, 3) := by decide +kernel
theorem dX5_init_40 : decode cX5_init 40 = .ok (.return_, 1) := by decide +kernel
theorem dX5_clear_0 : decode cX5_clear 0 = .ok (.aload_n 0, 1) := by decide +kernel
theorem dX5_clear_1 : decode cX5_clear 1 = .ok (.getfield 9, 3) := by decide +kernel
theorem dX5_clear_4 : decode cX5_clear 4 = .ok (.iconst 0, 1) := by decide +kernel
theorem dX5_clear_5 : decode cX5_clear 5 = .ok (.invokestatic 27, 3) := by decide +kernel
theorem dX5_clear_8 : decode cX5_clear 8 = .ok (.aload_n 0, 1) := by decide +kernel
theorem dX5_clear_9 : decode cX5_clear 9 = .ok (.getfield 15, 3) := by decide +kernel
theorem dX5_clear_12 : decode cX5_clear 12 = .ok (.bipush 16, 2) := by decide +kernel
theorem dX5_clear_14 : decode cX5_clear 14 = .ok (.invokestatic 27, 3) := by decide +kernel
theorem dX5_clear_17 : decode cX5_clear 17 = .ok (.aload_n 0, 1) := by decide +kernel
theorem dX5_clear_18 : decode cX5_clear 18 = .ok (.getfield 18, 3) := by decide +kernel
theorem dX5_clear_21 : decode cX5_clear 21 = .ok (.iconst 0, 1) := by decide +kernel
theorem dX5_clear_22 : decode cX5_clear 22 = .ok (.invokestatic 27, 3) := by decide +kernel
theorem dX5_clear_25 : decode cX5_clear 25 = .ok (.iconst 0, 1) := by decide +kernel
theorem dX5_clear_26 : decode cX5_clear 26 = .ok (.istore_n 1, 1) := by decide +kernel
theorem dX5_clear_27 : decode cX5_clear 27 = .ok (.iload_n 1, 1) := by decide +kernel
theorem dX5_clear_28 : decode cX5_clear 28 = .ok (.bipush 10, 2) := by decide +kernel
theorem dX5_clear_30 : decode cX5_clear 30 = .ok (.if_icmp .ge 18, 3) := by decide +kernel
theorem dX5_clear_33 : decode cX5_clear 33 = .ok (.aload_n 0, 1) := by decide +kernel
theorem dX5_clear_34 : decode cX5_clear 34 = .ok (.getfield 21, 3) := by decide +kernel
theorem dX5_clear_37 : decode cX5_clear 37 = .ok (.iload_n 1, 1) := by decide +kernel
theorem dX5_clear_38 : decode cX5_clear 38 = .ok (.iconst 1, 1) := by decide +kernel
theorem dX5_clear_39 : decode cX5_clear 39 = .ok (.iload_n 1, 1) := by decide +kernel
theorem dX5_clear_40 : decode cX5_clear 40 = .ok (.ishl, 1) := by decide +kernel
theorem dX5_clear_41 : decode cX5_clear 41 = .ok (.iastore, 1) := by decide +kernel
theorem dX5_clear_42 : decode cX5_clear 42 = .ok (.iinc 1 1, 3) := by decide +kernel
theorem dX5_clear_45 : decode cX5_clear 45 = .ok (.goto (-18), 3) := by decide +kernel
theorem dX5_clear_48 : decode cX5_clear 48 = .ok (.aload_n 0, 1) := by decide +kernel
theorem dX5_clear_49 : decode cX5_clear 49 = .ok (.iconst 0, 1) := by decide +kernel
theorem dX5_clear_50 : decode cX5_clear 50 = .ok (.putfield 33, 3) := by decide +kernel
theorem dX5_clear_53 : decode cX5_clear 53 = .ok (.aload_n 0, 1) := by decide +kernel
theorem dX5_clear_54 : decode cX5_clear 54 = .ok (.iconst 0, 1) := by decide +kernel
theorem dX5_clear_55 : decode cX5_clear 55 = .ok (.putfield 37, 3) := by decide +kernel
theorem dX5_clear_58 : decode cX5_clear 58 = .ok (.aload_n 0, 1) := by decide +kernel
theorem dX5_clear_59 : decode cX5_clear 59 = .ok (.bipush 8, 2) := by decide +kernel
theorem dX5_clear_61 : decode cX5_clear 61 = .ok (.putfield 40, 3) := by decide +kernel
theorem dX5_clear_64 : decode cX5_clear 64 = .ok (.aload_n 0, 1) := by decide +kernel
theorem dX5_clear_65 : decode cX5_clear 65 = .ok (.iconst 0, 1) := by decide +kernel
theorem dX5_clear_66 : decode cX5_clear 66 = .ok (.putfield 43, 3) := by decide +kernel
theorem dX5_clear_69 : decode cX5_clear 69 = .ok (.return_, 1) := by decide +kernel
theorem dX5_shedBy_0 : decode cX5_shedBy 0 = .ok (.iload_n 1, 1) := by decide +kernel
theorem dX5_shedBy_1 : decode cX5_shedBy 1 = .ok (.ifCond .lt 23, 3) := by decide +kernel
theorem dX5_shedBy_4 : decode cX5_shedBy 4 = .ok (.iload_n 1, 1) := by decide +kernel
theorem dX5_shedBy_5 : decode cX5_shedBy 5 = .ok (.bipush 8, 2) := by decide +kernel
theorem dX5_shedBy_7 : decode cX5_shedBy 7 = .ok (.if_icmp .ge 17, 3) := by decide +kernel
theorem dX5_shedBy_10 : decode cX5_shedBy 10 = .ok (.iload_n 2, 1) := by decide +kernel
theorem dX5_shedBy_11 : decode cX5_shedBy 11 = .ok (.ifCond .lt 13, 3) := by decide +kernel
theorem dX5_shedBy_14 : decode cX5_shedBy 14 = .ok (.iload_n 2, 1) := by decide +kernel
theorem dX5_shedBy_15 : decode cX5_shedBy 15 = .ok (.bipush 10, 2) := by decide +kernel
theorem dX5_shedBy_17 : decode cX5_shedBy 17 = .ok (.if_icmp .ge 7, 3) := by decide +kernel
theorem dX5_shedBy_20 : decode cX5_shedBy 20 = .ok (.iconst 1, 1) := by decide +kernel
theorem dX5_shedBy_21 : decode cX5_shedBy 21 = .ok (.goto 4, 3) := by decide +kernel
theorem dX5_shedBy_24 : decode cX5_shedBy 24 = .ok (.iconst 0, 1) := by decide +kernel
theorem dX5_shedBy_25 : decode cX5_shedBy 25 = .ok (.istore_n 3, 1) := by decide +kernel
theorem dX5_shedBy_26 : decode cX5_shedBy 26 = .ok (.iload_n 3, 1) := by decide +kernel
theorem dX5_shedBy_27 : decode cX5_shedBy 27 = .ok (.ifCond .eq 17, 3) := by decide +kernel
theorem dX5_shedBy_30 : decode cX5_shedBy 30 = .ok (.aload_n 0, 1) := by decide +kernel
theorem dX5_shedBy_31 : decode cX5_shedBy 31 = .ok (.getfield 9, 3) := by decide +kernel
theorem dX5_shedBy_34 : decode cX5_shedBy 34 = .ok (.iload_n 1, 1) := by decide +kernel
theorem dX5_shedBy_35 : decode cX5_shedBy 35 = .ok (.bipush 10, 2) := by decide +kernel
theorem dX5_shedBy_37 : decode cX5_shedBy 37 = .ok (.imul, 1) := by decide +kernel
theorem dX5_shedBy_38 : decode cX5_shedBy 38 = .ok (.iload_n 2, 1) := by decide +kernel
theorem dX5_shedBy_39 : decode cX5_shedBy 39 = .ok (.iadd, 1) := by decide +kernel
theorem dX5_shedBy_40 : decode cX5_shedBy 40 = .ok (.iaload, 1) := by decide +kernel
theorem dX5_shedBy_41 : decode cX5_shedBy 41 = .ok (.goto 4, 3) := by decide +kernel
theorem dX5_shedBy_44 : decode cX5_shedBy 44 = .ok (.iconst 0, 1) := by decide +kernel
theorem dX5_shedBy_45 : decode cX5_shedBy 45 = .ok (.ireturn, 1) := by decide +kernel
theorem dX5_holdOf_0 : decode cX5_holdOf 0 = .ok (.iload_n 1, 1) := by decide +kernel
theorem dX5_holdOf_1 : decode cX5_holdOf 1 = .ok (.bipush 10, 2) := by decide +kernel
theorem dX5_holdOf_3 : decode cX5_holdOf 3 = .ok (.invokestatic 46, 3) := by decide +kernel
theorem dX5_holdOf_6 : decode cX5_holdOf 6 = .ok (.ifCond .eq 12, 3) := by decide +kernel
theorem dX5_holdOf_9 : decode cX5_holdOf 9 = .ok (.aload_n 0, 1) := by decide +kernel
theorem dX5_holdOf_10 : decode cX5_holdOf 10 = .ok (.getfield 15, 3) := by decide +kernel
theorem dX5_holdOf_13 : decode cX5_holdOf 13 = .ok (.iload_n 1, 1) := by decide +kernel
theorem dX5_holdOf_14 : decode cX5_holdOf 14 = .ok (.iaload, 1) := by decide +kernel
theorem dX5_holdOf_15 : decode cX5_holdOf 15 = .ok (.goto 5, 3) := by decide +kernel
theorem dX5_holdOf_18 : decode cX5_holdOf 18 = .ok (.bipush 16, 2) := by decide +kernel
theorem dX5_holdOf_20 : decode cX5_holdOf 20 = .ok (.ireturn, 1) := by decide +kernel
theorem dX5_commonOf_0 : decode cX5_commonOf 0 = .ok (.iload_n 1, 1) := by decide +kernel
theorem dX5_commonOf_1 : decode cX5_commonOf 1 = .ok (.bipush 10, 2) := by decide +kernel
theorem dX5_commonOf_3 : decode cX5_commonOf 3 = .ok (.invokestatic 46, 3) := by decide +kernel
theorem dX5_commonOf_6 : decode cX5_commonOf 6 = .ok (.ifCond .eq 12, 3) := by decide +kernel
theorem dX5_commonOf_9 : decode cX5_commonOf 9 = .ok (.aload_n 0, 1) := by decide +kernel
theorem dX5_commonOf_10 : decode cX5_commonOf 10 = .ok (.getfield 18, 3) := by decide +kernel
theorem dX5_commonOf_13 : decode cX5_commonOf 13 = .ok (.iload_n 1, 1) := by decide +kernel
theorem dX5_commonOf_14 : decode cX5_commonOf 14 = .ok (.iaload, 1) := by decide +kernel
theorem dX5_commonOf_15 : decode cX5_commonOf 15 = .ok (.goto 4, 3) := by decide +kernel
theorem dX5_commonOf_18 : decode cX5_commonOf 18 = .ok (.iconst 0, 1) := by decide +kernel
theorem dX5_commonOf_19 : decode cX5_commonOf 19 = .ok (.ireturn, 1) := by decide +kernel
theorem dX5_alikeWith_0 : decode cX5_alikeWith 0 = .ok (.iload_n 1, 1) := by decide +kernel
theorem dX5_alikeWith_1 : decode cX5_alikeWith 1 = .ok (.bipush 10, 2) := by decide +kernel
theorem dX5_alikeWith_3 : decode cX5_alikeWith 3 = .ok (.invokestatic 46, 3) := by decide +kernel
theorem dX5_alikeWith_6 : decode cX5_alikeWith 6 = .ok (.ifCond .eq 12, 3) := by decide +kernel
theorem dX5_alikeWith_9 : decode cX5_alikeWith 9 = .ok (.aload_n 0, 1) := by decide +kernel
theorem dX5_alikeWith_10 : decode cX5_alikeWith 10 = .ok (.getfield 21, 3) := by decide +kernel
theorem dX5_alikeWith_13 : decode cX5_alikeWith 13 = .ok (.iload_n 1, 1) := by decide +kernel
theorem dX5_alikeWith_14 : decode cX5_alikeWith 14 = .ok (.iaload, 1) := by decide +kernel
theorem dX5_alikeWith_15 : decode cX5_alikeWith 15 = .ok (.goto 4, 3) := by decide +kernel
theorem dX5_alikeWith_18 : decode cX5_alikeWith 18 = .ok (.iconst 0, 1) := by decide +kernel
theorem dX5_alikeWith_19 : decode cX5_alikeWith 19 = .ok (.ireturn, 1) := by decide +kernel
theorem dX5_readFrom_0 : decode cX5_readFrom 0 = .ok (.aload_n 0, 1) := by decide +kernel
theorem dX5_readFrom_1 : decode cX5_readFrom 1 = .ok (.invokevirtual 24, 3) := by decide +kernel
theorem dX5_readFrom_4 : decode cX5_readFrom 4 = .ok (.iconst 0, 1) := by decide +kernel
theorem dX5_readFrom_5 : decode cX5_readFrom 5 = .ok (.istore_n 2, 1) := by decide +kernel
theorem dX5_readFrom_6 : decode cX5_readFrom 6 = .ok (.iload_n 2, 1) := by decide +kernel
theorem dX5_readFrom_7 : decode cX5_readFrom 7 = .ok (.sipush 400, 3) := by decide +kernel
theorem dX5_readFrom_10 : decode cX5_readFrom 10 = .ok (.if_icmp .gt 21, 3) := by decide +kernel
theorem dX5_readFrom_13 : decode cX5_readFrom 13 = .ok (.aload_n 1, 1) := by decide +kernel
theorem dX5_readFrom_14 : decode cX5_readFrom 14 = .ok (.invokevirtual 50, 3) := by decide +kernel
theorem dX5_readFrom_17 : decode cX5_readFrom 17 = .ok (.ifCond .eq 14, 3) := by decide +kernel
theorem dX5_readFrom_20 : decode cX5_readFrom 20 = .ok (.aload_n 0, 1) := by decide +kernel
theorem dX5_readFrom_21 : decode cX5_readFrom 21 = .ok (.aload_n 1, 1) := by decide +kernel
theorem dX5_readFrom_22 : decode cX5_readFrom 22 = .ok (.invokevirtual 56, 3) := by decide +kernel
theorem dX5_readFrom_25 : decode cX5_readFrom 25 = .ok (.iinc 2 1, 3) := by decide +kernel
theorem dX5_readFrom_28 : decode cX5_readFrom 28 = .ok (.goto (-22), 3) := by decide +kernel
theorem dX5_readFrom_31 : decode cX5_readFrom 31 = .ok (.return_, 1) := by decide +kernel
theorem dX5_readClause_0 : decode cX5_readClause 0 = .ok (.aload_n 1, 1) := by decide +kernel
theorem dX5_readClause_1 : decode cX5_readClause 1 = .ok (.invokevirtual 60, 3) := by decide +kernel
theorem dX5_readClause_4 : decode cX5_readClause 4 = .ok (.aload_n 1, 1) := by decide +kernel
theorem dX5_readClause_5 : decode cX5_readClause 5 = .ok (.invokestatic 63, 3) := by decide +kernel
theorem dX5_readClause_8 : decode cX5_readClause 8 = .ok (.istore_n 2, 1) := by decide +kernel
theorem dX5_readClause_9 : decode cX5_readClause 9 = .ok (.aload_n 1, 1) := by decide +kernel
theorem dX5_readClause_10 : decode cX5_readClause 10 = .ok (.iload_n 2, 1) := by decide +kernel
theorem dX5_readClause_11 : decode cX5_readClause 11 = .ok (.iconst (-1), 1) := by decide +kernel
theorem dX5_readClause_12 : decode cX5_readClause 12 = .ok (.if_icmp .ne 7, 3) := by decide +kernel
theorem dX5_readClause_15 : decode cX5_readClause 15 = .ok (.iconst 1, 1) := by decide +kernel
theorem dX5_readClause_16 : decode cX5_readClause 16 = .ok (.goto 4, 3) := by decide +kernel
theorem dX5_readClause_19 : decode cX5_readClause 19 = .ok (.iconst 0, 1) := by decide +kernel
theorem dX5_readClause_20 : decode cX5_readClause 20 = .ok (.aload_n 0, 1) := by decide +kernel
theorem dX5_readClause_21 : decode cX5_readClause 21 = .ok (.getfield 43, 3) := by decide +kernel
theorem dX5_readClause_24 : decode cX5_readClause 24 = .ok (.bipush 24, 2) := by decide +kernel
theorem dX5_readClause_26 : decode cX5_readClause 26 = .ok (.if_icmp .lt 7, 3) := by decide +kernel
theorem dX5_readClause_29 : decode cX5_readClause 29 = .ok (.iconst 1, 1) := by decide +kernel
theorem dX5_readClause_30 : decode cX5_readClause 30 = .ok (.goto 4, 3) := by decide +kernel
theorem dX5_readClause_33 : decode cX5_readClause 33 = .ok (.iconst 0, 1) := by decide +kernel
theorem dX5_readClause_34 : decode cX5_readClause 34 = .ok (.invokevirtual 67, 3) := by decide +kernel
theorem dX5_readClause_37 : decode cX5_readClause 37 = .ok (.iload_n 2, 1) := by decide +kernel
theorem dX5_readClause_38 : decode cX5_readClause 38 = .ok (.tableswitch 128 0 6 #[42, 50, 64, 78, 92, 106, 114], 42) := by decide +kernel
theorem dX5_readClause_80 : decode cX5_readClause 80 = .ok (.aload_n 0, 1) := by decide +kernel
theorem dX5_readClause_81 : decode cX5_readClause 81 = .ok (.aload_n 1, 1) := by decide +kernel
theorem dX5_readClause_82 : decode cX5_readClause 82 = .ok (.invokevirtual 71, 3) := by decide +kernel
theorem dX5_readClause_85 : decode cX5_readClause 85 = .ok (.goto 81, 3) := by decide +kernel
theorem dX5_readClause_88 : decode cX5_readClause 88 = .ok (.aload_n 0, 1) := by decide +kernel
theorem dX5_readClause_89 : decode cX5_readClause 89 = .ok (.aload_n 1, 1) := by decide +kernel
theorem dX5_readClause_90 : decode cX5_readClause 90 = .ok (.aload_n 0, 1) := by decide +kernel
theorem dX5_readClause_91 : decode cX5_readClause 91 = .ok (.getfield 15, 3) := by decide +kernel
theorem dX5_readClause_94 : decode cX5_readClause 94 = .ok (.bipush 16, 2) := by decide +kernel
theorem dX5_readClause_96 : decode cX5_readClause 96 = .ok (.invokevirtual 74, 3) := by decide +kernel
theorem dX5_readClause_99 : decode cX5_readClause 99 = .ok (.goto 67, 3) := by decide +kernel
theorem dX5_readClause_102 : decode cX5_readClause 102 = .ok (.aload_n 0, 1) := by decide +kernel
theorem dX5_readClause_103 : decode cX5_readClause 103 = .ok (.aload_n 1, 1) := by decide +kernel
theorem dX5_readClause_104 : decode cX5_readClause 104 = .ok (.iconst 0, 1) := by decide +kernel
theorem dX5_readClause_105 : decode cX5_readClause 105 = .ok (.bipush 16, 2) := by decide +kernel
theorem dX5_readClause_107 : decode cX5_readClause 107 = .ok (.invokevirtual 78, 3) := by decide +kernel
theorem dX5_readClause_110 : decode cX5_readClause 110 = .ok (.putfield 33, 3) := by decide +kernel
theorem dX5_readClause_113 : decode cX5_readClause 113 = .ok (.goto 53, 3) := by decide +kernel
theorem dX5_readClause_116 : decode cX5_readClause 116 = .ok (.aload_n 0, 1) := by decide +kernel
theorem dX5_readClause_117 : decode cX5_readClause 117 = .ok (.aload_n 1, 1) := by decide +kernel
theorem dX5_readClause_118 : decode cX5_readClause 118 = .ok (.iconst 0, 1) := by decide +kernel
theorem dX5_readClause_119 : decode cX5_readClause 119 = .ok (.bipush 8, 2) := by decide +kernel
theorem dX5_readClause_121 : decode cX5_readClause 121 = .ok (.invokevirtual 78, 3) := by decide +kernel
theorem dX5_readClause_124 : decode cX5_readClause 124 = .ok (.putfield 37, 3) := by decide +kernel
theorem dX5_readClause_127 : decode cX5_readClause 127 = .ok (.goto 39, 3) := by decide +kernel
theorem dX5_readClause_130 : decode cX5_readClause 130 = .ok (.aload_n 0, 1) := by decide +kernel
theorem dX5_readClause_131 : decode cX5_readClause 131 = .ok (.aload_n 1, 1) := by decide +kernel
theorem dX5_readClause_132 : decode cX5_readClause 132 = .ok (.iconst 1, 1) := by decide +kernel
theorem dX5_readClause_133 : decode cX5_readClause 133 = .ok (.bipush 15, 2) := by decide +kernel
theorem dX5_readClause_135 : decode cX5_readClause 135 = .ok (.invokevirtual 78, 3) := by decide +kernel
theorem dX5_readClause_138 : decode cX5_readClause 138 = .ok (.putfield 40, 3) := by decide +kernel
theorem dX5_readClause_141 : decode cX5_readClause 141 = .ok (.goto 25, 3) := by decide +kernel
theorem dX5_readClause_144 : decode cX5_readClause 144 = .ok (.aload_n 0, 1) := by decide +kernel
theorem dX5_readClause_145 : decode cX5_readClause 145 = .ok (.aload_n 1, 1) := by decide +kernel
theorem dX5_readClause_146 : decode cX5_readClause 146 = .ok (.invokevirtual 82, 3) := by decide +kernel
theorem dX5_readClause_149 : decode cX5_readClause 149 = .ok (.goto 17, 3) := by decide +kernel
theorem dX5_readClause_152 : decode cX5_readClause 152 = .ok (.aload_n 0, 1) := by decide +kernel
theorem dX5_readClause_153 : decode cX5_readClause 153 = .ok (.aload_n 1, 1) := by decide +kernel
theorem dX5_readClause_154 : decode cX5_readClause 154 = .ok (.aload_n 0, 1) := by decide +kernel
theorem dX5_readClause_155 : decode cX5_readClause 155 = .ok (.getfield 18, 3) := by decide +kernel
theorem dX5_readClause_158 : decode cX5_readClause 158 = .ok (.bipush 20, 2) := by decide +kernel
theorem dX5_readClause_160 : decode cX5_readClause 160 = .ok (.invokevirtual 74, 3) := by decide +kernel
theorem dX5_readClause_163 : decode cX5_readClause 163 = .ok (.goto 3, 3) := by decide +kernel
theorem dX5_readClause_166 : decode cX5_readClause 166 = .ok (.aload_n 1, 1) := by decide +kernel
theorem dX5_readClause_167 : decode cX5_readClause 167 = .ok (.invokevirtual 85, 3) := by decide +kernel
theorem dX5_readClause_170 : decode cX5_readClause 170 = .ok (.aload_n 0, 1) := by decide +kernel
theorem dX5_readClause_171 : decode cX5_readClause 171 = .ok (.dup, 1) := by decide +kernel
theorem dX5_readClause_172 : decode cX5_readClause 172 = .ok (.getfield 43, 3) := by decide +kernel
theorem dX5_readClause_175 : decode cX5_readClause 175 = .ok (.iconst 1, 1) := by decide +kernel
theorem dX5_readClause_176 : decode cX5_readClause 176 = .ok (.iadd, 1) := by decide +kernel
theorem dX5_readClause_177 : decode cX5_readClause 177 = .ok (.putfield 43, 3) := by decide +kernel
theorem dX5_readClause_180 : decode cX5_readClause 180 = .ok (.return_, 1) := by decide +kernel
theorem dX5_clauseOfWord_0 : decode cX5_clauseOfWord 0 = .ok (.aload_n 0, 1) := by decide +kernel
theorem dX5_clauseOfWord_1 : decode cX5_clauseOfWord 1 = .ok (.ldc 88, 2) := by decide +kernel
theorem dX5_clauseOfWord_3 : decode cX5_clauseOfWord 3 = .ok (.invokevirtual 89, 3) := by decide +kernel
theorem dX5_clauseOfWord_6 : decode cX5_clauseOfWord 6 = .ok (.ifCond .eq 5, 3) := by decide +kernel
theorem dX5_clauseOfWord_9 : decode cX5_clauseOfWord 9 = .ok (.iconst 0, 1) := by decide +kernel
theorem dX5_clauseOfWord_10 : decode cX5_clauseOfWord 10 = .ok (.ireturn, 1) := by decide +kernel
theorem dX5_clauseOfWord_11 : decode cX5_clauseOfWord 11 = .ok (.aload_n 0, 1) := by decide +kernel
theorem dX5_clauseOfWord_12 : decode cX5_clauseOfWord 12 = .ok (.ldc 93, 2) := by decide +kernel
theorem dX5_clauseOfWord_14 : decode cX5_clauseOfWord 14 = .ok (.invokevirtual 89, 3) := by decide +kernel
theorem dX5_clauseOfWord_17 : decode cX5_clauseOfWord 17 = .ok (.ifCond .eq 5, 3) := by decide +kernel
theorem dX5_clauseOfWord_20 : decode cX5_clauseOfWord 20 = .ok (.iconst 1, 1) := by decide +kernel
theorem dX5_clauseOfWord_21 : decode cX5_clauseOfWord 21 = .ok (.ireturn, 1) := by decide +kernel
theorem dX5_clauseOfWord_22 : decode cX5_clauseOfWord 22 = .ok (.aload_n 0, 1) := by decide +kernel
theorem dX5_clauseOfWord_23 : decode cX5_clauseOfWord 23 = .ok (.ldc 94, 2) := by decide +kernel
theorem dX5_clauseOfWord_25 : decode cX5_clauseOfWord 25 = .ok (.invokevirtual 89, 3) := by decide +kernel
theorem dX5_clauseOfWord_28 : decode cX5_clauseOfWord 28 = .ok (.ifCond .eq 5, 3) := by decide +kernel
theorem dX5_clauseOfWord_31 : decode cX5_clauseOfWord 31 = .ok (.iconst 2, 1) := by decide +kernel
theorem dX5_clauseOfWord_32 : decode cX5_clauseOfWord 32 = .ok (.ireturn, 1) := by decide +kernel
theorem dX5_clauseOfWord_33 : decode cX5_clauseOfWord 33 = .ok (.aload_n 0, 1) := by decide +kernel
theorem dX5_clauseOfWord_34 : decode cX5_clauseOfWord 34 = .ok (.ldc 95, 2) := by decide +kernel
theorem dX5_clauseOfWord_36 : decode cX5_clauseOfWord 36 = .ok (.invokevirtual 89, 3) := by decide +kernel
theorem dX5_clauseOfWord_39 : decode cX5_clauseOfWord 39 = .ok (.ifCond .eq 5, 3) := by decide +kernel
theorem dX5_clauseOfWord_42 : decode cX5_clauseOfWord 42 = .ok (.iconst 3, 1) := by decide +kernel
theorem dX5_clauseOfWord_43 : decode cX5_clauseOfWord 43 = .ok (.ireturn, 1) := by decide +kernel
theorem dX5_clauseOfWord_44 : decode cX5_clauseOfWord 44 = .ok (.aload_n 0, 1) := by decide +kernel
theorem dX5_clauseOfWord_45 : decode cX5_clauseOfWord 45 = .ok (.ldc 96, 2) := by decide +kernel
theorem dX5_clauseOfWord_47 : decode cX5_clauseOfWord 47 = .ok (.invokevirtual 89, 3) := by decide +kernel
theorem dX5_clauseOfWord_50 : decode cX5_clauseOfWord 50 = .ok (.ifCond .eq 5, 3) := by decide +kernel
theorem dX5_clauseOfWord_53 : decode cX5_clauseOfWord 53 = .ok (.iconst 4, 1) := by decide +kernel
theorem dX5_clauseOfWord_54 : decode cX5_clauseOfWord 54 = .ok (.ireturn, 1) := by decide +kernel
theorem dX5_clauseOfWord_55 : decode cX5_clauseOfWord 55 = .ok (.aload_n 0, 1) := by decide +kernel
theorem dX5_clauseOfWord_56 : decode cX5_clauseOfWord 56 = .ok (.ldc 97, 2) := by decide +kernel
theorem dX5_clauseOfWord_58 : decode cX5_clauseOfWord 58 = .ok (.invokevirtual 89, 3) := by decide +kernel
theorem dX5_clauseOfWord_61 : decode cX5_clauseOfWord 61 = .ok (.ifCond .eq 5, 3) := by decide +kernel
theorem dX5_clauseOfWord_64 : decode cX5_clauseOfWord 64 = .ok (.iconst 5, 1) := by decide +kernel
theorem dX5_clauseOfWord_65 : decode cX5_clauseOfWord 65 = .ok (.ireturn, 1) := by decide +kernel
theorem dX5_clauseOfWord_66 : decode cX5_clauseOfWord 66 = .ok (.aload_n 0, 1) := by decide +kernel
theorem dX5_clauseOfWord_67 : decode cX5_clauseOfWord 67 = .ok (.ldc 99, 2) := by decide +kernel
theorem dX5_clauseOfWord_69 : decode cX5_clauseOfWord 69 = .ok (.invokevirtual 89, 3) := by decide +kernel
theorem dX5_clauseOfWord_72 : decode cX5_clauseOfWord 72 = .ok (.ifCond .eq 8, 3) := by decide +kernel
theorem dX5_clauseOfWord_75 : decode cX5_clauseOfWord 75 = .ok (.bipush 6, 2) := by decide +kernel
theorem dX5_clauseOfWord_77 : decode cX5_clauseOfWord 77 = .ok (.goto 4, 3) := by decide +kernel
theorem dX5_clauseOfWord_80 : decode cX5_clauseOfWord 80 = .ok (.iconst (-1), 1) := by decide +kernel
theorem dX5_clauseOfWord_81 : decode cX5_clauseOfWord 81 = .ok (.ireturn, 1) := by decide +kernel
theorem dX5_readShed_0 : decode cX5_readShed 0 = .ok (.aload_n 1, 1) := by decide +kernel
theorem dX5_readShed_1 : decode cX5_readShed 1 = .ok (.iconst 0, 1) := by decide +kernel
theorem dX5_readShed_2 : decode cX5_readShed 2 = .ok (.bipush 7, 2) := by decide +kernel
theorem dX5_readShed_4 : decode cX5_readShed 4 = .ok (.invokevirtual 78, 3) := by decide +kernel
theorem dX5_readShed_7 : decode cX5_readShed 7 = .ok (.istore_n 2, 1) := by decide +kernel
theorem dX5_readShed_8 : decode cX5_readShed 8 = .ok (.aload_n 1, 1) := by decide +kernel
theorem dX5_readShed_9 : decode cX5_readShed 9 = .ok (.iconst 0, 1) := by decide +kernel
theorem dX5_readShed_10 : decode cX5_readShed 10 = .ok (.bipush 9, 2) := by decide +kernel
theorem dX5_readShed_12 : decode cX5_readShed 12 = .ok (.invokevirtual 78, 3) := by decide +kernel
theorem dX5_readShed_15 : decode cX5_readShed 15 = .ok (.istore_n 3, 1) := by decide +kernel
theorem dX5_readShed_16 : decode cX5_readShed 16 = .ok (.aload_n 1, 1) := by decide +kernel
theorem dX5_readShed_17 : decode cX5_readShed 17 = .ok (.iconst 0, 1) := by decide +kernel
theorem dX5_readShed_18 : decode cX5_readShed 18 = .ok (.sipush 200, 3) := by decide +kernel
theorem dX5_readShed_21 : decode cX5_readShed 21 = .ok (.invokevirtual 78, 3) := by decide +kernel
theorem dX5_readShed_24 : decode cX5_readShed 24 = .ok (.istore 4, 2) := by decide +kernel
theorem dX5_readShed_26 : decode cX5_readShed 26 = .ok (.iload_n 2, 1) := by decide +kernel
theorem dX5_readShed_27 : decode cX5_readShed 27 = .ok (.bipush 8, 2) := by decide +kernel
theorem dX5_readShed_29 : decode cX5_readShed 29 = .ok (.invokestatic 46, 3) := by decide +kernel
theorem dX5_readShed_32 : decode cX5_readShed 32 = .ok (.ifCond .eq 25, 3) := by decide +kernel
theorem dX5_readShed_35 : decode cX5_readShed 35 = .ok (.iload_n 3, 1) := by decide +kernel
theorem dX5_readShed_36 : decode cX5_readShed 36 = .ok (.bipush 10, 2) := by decide +kernel
theorem dX5_readShed_38 : decode cX5_readShed 38 = .ok (.invokestatic 46, 3) := by decide +kernel
theorem dX5_readShed_41 : decode cX5_readShed 41 = .ok (.ifCond .eq 16, 3) := by decide +kernel
theorem dX5_readShed_44 : decode cX5_readShed 44 = .ok (.aload_n 0, 1) := by decide +kernel
theorem dX5_readShed_45 : decode cX5_readShed 45 = .ok (.getfield 9, 3) := by decide +kernel
theorem dX5_readShed_48 : decode cX5_readShed 48 = .ok (.iload_n 2, 1) := by decide +kernel
theorem dX5_readShed_49 : decode cX5_readShed 49 = .ok (.bipush 10, 2) := by decide +kernel
theorem dX5_readShed_51 : decode cX5_readShed 51 = .ok (.imul, 1) := by decide +kernel
theorem dX5_readShed_52 : decode cX5_readShed 52 = .ok (.iload_n 3, 1) := by decide +kernel
theorem dX5_readShed_53 : decode cX5_readShed 53 = .ok (.iadd, 1) := by decide +kernel
theorem dX5_readShed_54 : decode cX5_readShed 54 = .ok (.iload 4, 2) := by decide +kernel
theorem dX5_readShed_56 : decode cX5_readShed 56 = .ok (.iastore, 1) := by decide +kernel
theorem dX5_readShed_57 : decode cX5_readShed 57 = .ok (.return_, 1) := by decide +kernel
theorem dX5_readOfSort_0 : decode cX5_readOfSort 0 = .ok (.aload_n 1, 1) := by decide +kernel
theorem dX5_readOfSort_1 : decode cX5_readOfSort 1 = .ok (.iconst 0, 1) := by decide +kernel
theorem dX5_readOfSort_2 : decode cX5_readOfSort 2 = .ok (.bipush 9, 2) := by decide +kernel
theorem dX5_readOfSort_4 : decode cX5_readOfSort 4 = .ok (.invokevirtual 78, 3) := by decide +kernel
theorem dX5_readOfSort_7 : decode cX5_readOfSort 7 = .ok (.istore 4, 2) := by decide +kernel
theorem dX5_readOfSort_9 : decode cX5_readOfSort 9 = .ok (.aload_n 1, 1) := by decide +kernel
theorem dX5_readOfSort_10 : decode cX5_readOfSort 10 = .ok (.iconst 0, 1) := by decide +kernel
theorem dX5_readOfSort_11 : decode cX5_readOfSort 11 = .ok (.iload_n 3, 1) := by decide +kernel
theorem dX5_readOfSort_12 : decode cX5_readOfSort 12 = .ok (.invokevirtual 78, 3) := by decide +kernel
theorem dX5_readOfSort_15 : decode cX5_readOfSort 15 = .ok (.istore 5, 2) := by decide +kernel
theorem dX5_readOfSort_17 : decode cX5_readOfSort 17 = .ok (.iload 4, 2) := by decide +kernel
theorem dX5_readOfSort_19 : decode cX5_readOfSort 19 = .ok (.aload_n 2, 1) := by decide +kernel
theorem dX5_readOfSort_20 : decode cX5_readOfSort 20 = .ok (.arraylength, 1) := by decide +kernel
theorem dX5_readOfSort_21 : decode cX5_readOfSort 21 = .ok (.invokestatic 46, 3) := by decide +kernel
theorem dX5_readOfSort_24 : decode cX5_readOfSort 24 = .ok (.ifCond .eq 9, 3) := by decide +kernel
theorem dX5_readOfSort_27 : decode cX5_readOfSort 27 = .ok (.aload_n 2, 1) := by decide +kernel
theorem dX5_readOfSort_28 : decode cX5_readOfSort 28 = .ok (.iload 4, 2) := by decide +kernel
theorem dX5_readOfSort_30 : decode cX5_readOfSort 30 = .ok (.iload 5, 2) := by decide +kernel
theorem dX5_readOfSort_32 : decode cX5_readOfSort 32 = .ok (.iastore, 1) := by decide +kernel
theorem dX5_readOfSort_33 : decode cX5_readOfSort 33 = .ok (.return_, 1) := by decide +kernel
theorem dX5_readAlike_0 : decode cX5_readAlike 0 = .ok (.aload_n 1, 1) := by decide +kernel
theorem dX5_readAlike_1 : decode cX5_readAlike 1 = .ok (.iconst 0, 1) := by decide +kernel
theorem dX5_readAlike_2 : decode cX5_readAlike 2 = .ok (.bipush 9, 2) := by decide +kernel
theorem dX5_readAlike_4 : decode cX5_readAlike 4 = .ok (.invokevirtual 78, 3) := by decide +kernel
theorem dX5_readAlike_7 : decode cX5_readAlike 7 = .ok (.istore_n 2, 1) := by decide +kernel
theorem dX5_readAlike_8 : decode cX5_readAlike 8 = .ok (.aload_n 1, 1) := by decide +kernel
theorem dX5_readAlike_9 : decode cX5_readAlike 9 = .ok (.iconst 0, 1) := by decide +kernel
theorem dX5_readAlike_10 : decode cX5_readAlike 10 = .ok (.bipush 9, 2) := by decide +kernel
theorem dX5_readAlike_12 : decode cX5_readAlike 12 = .ok (.invokevirtual 78, 3) := by decide +kernel
theorem dX5_readAlike_15 : decode cX5_readAlike 15 = .ok (.istore_n 3, 1) := by decide +kernel
theorem dX5_readAlike_16 : decode cX5_readAlike 16 = .ok (.aload_n 1, 1) := by decide +kernel
theorem dX5_readAlike_17 : decode cX5_readAlike 17 = .ok (.iload_n 3, 1) := by decide +kernel
theorem dX5_readAlike_18 : decode cX5_readAlike 18 = .ok (.iload_n 2, 1) := by decide +kernel
theorem dX5_readAlike_19 : decode cX5_readAlike 19 = .ok (.invokevirtual 100, 3) := by decide +kernel
theorem dX5_readAlike_22 : decode cX5_readAlike 22 = .ok (.aload_n 0, 1) := by decide +kernel
theorem dX5_readAlike_23 : decode cX5_readAlike 23 = .ok (.iload_n 2, 1) := by decide +kernel
theorem dX5_readAlike_24 : decode cX5_readAlike 24 = .ok (.invokevirtual 104, 3) := by decide +kernel
theorem dX5_readAlike_27 : decode cX5_readAlike 27 = .ok (.aload_n 0, 1) := by decide +kernel
theorem dX5_readAlike_28 : decode cX5_readAlike 28 = .ok (.iload_n 3, 1) := by decide +kernel
theorem dX5_readAlike_29 : decode cX5_readAlike 29 = .ok (.invokevirtual 104, 3) := by decide +kernel
theorem dX5_readAlike_32 : decode cX5_readAlike 32 = .ok (.ior, 1) := by decide +kernel
theorem dX5_readAlike_33 : decode cX5_readAlike 33 = .ok (.istore 4, 2) := by decide +kernel
theorem dX5_readAlike_35 : decode cX5_readAlike 35 = .ok (.iconst 0, 1) := by decide +kernel
theorem dX5_readAlike_36 : decode cX5_readAlike 36 = .ok (.istore 5, 2) := by decide +kernel
theorem dX5_readAlike_38 : decode cX5_readAlike 38 = .ok (.iload 5, 2) := by decide +kernel
theorem dX5_readAlike_40 : decode cX5_readAlike 40 = .ok (.bipush 10, 2) := by decide +kernel
theorem dX5_readAlike_42 : decode cX5_readAlike 42 = .ok (.if_icmp .ge 29, 3) := by decide +kernel
theorem dX5_readAlike_45 : decode cX5_readAlike 45 = .ok (.iload 4, 2) := by decide +kernel
theorem dX5_readAlike_47 : decode cX5_readAlike 47 = .ok (.iload 5, 2) := by decide +kernel
theorem dX5_readAlike_49 : decode cX5_readAlike 49 = .ok (.ishr, 1) := by decide +kernel
theorem dX5_readAlike_50 : decode cX5_readAlike 50 = .ok (.iconst 1, 1) := by decide +kernel
theorem dX5_readAlike_51 : decode cX5_readAlike 51 = .ok (.iand, 1) := by decide +kernel
theorem dX5_readAlike_52 : decode cX5_readAlike 52 = .ok (.iconst 1, 1) := by decide +kernel
theorem dX5_readAlike_53 : decode cX5_readAlike 53 = .ok (.if_icmp .ne 12, 3) := by decide +kernel
theorem dX5_readAlike_56 : decode cX5_readAlike 56 = .ok (.aload_n 0, 1) := by decide +kernel
theorem dX5_readAlike_57 : decode cX5_readAlike 57 = .ok (.getfield 21, 3) := by decide +kernel
theorem dX5_readAlike_60 : decode cX5_readAlike 60 = .ok (.iload 5, 2) := by decide +kernel
theorem dX5_readAlike_62 : decode cX5_readAlike 62 = .ok (.iload 4, 2) := by decide +kernel
theorem dX5_readAlike_64 : decode cX5_readAlike 64 = .ok (.iastore, 1) := by decide +kernel
theorem dX5_readAlike_65 : decode cX5_readAlike 65 = .ok (.iinc 5 1, 3) := by decide +kernel
theorem dX5_readAlike_68 : decode cX5_readAlike 68 = .ok (.goto (-30), 3) := by decide +kernel
theorem dX5_readAlike_71 : decode cX5_readAlike 71 = .ok (.return_, 1) := by decide +kernel
theorem dX6_init_0 : decode cX6_init 0 = .ok (.aload_n 0, 1) := by decide +kernel
theorem dX6_init_1 : decode cX6_init 1 = .ok (.invokespecial 3, 3) := by decide +kernel
theorem dX6_init_4 : decode cX6_init 4 = .ok (.aload_n 0, 1) := by decide +kernel
theorem dX6_init_5 : decode cX6_init 5 = .ok (.bipush 100, 2) := by decide +kernel
theorem dX6_init_7 : decode cX6_init 7 = .ok (.newarray .int, 2) := by decide +kernel
theorem dX6_init_9 : decode cX6_init 9 = .ok (.putfield 9, 3) := by decide +kernel
theorem dX6_init_12 : decode cX6_init 12 = .ok (.aload_n 0, 1) := by decide +kernel
theorem dX6_init_13 : decode cX6_init 13 = .ok (.bipush 10, 2) := by decide +kernel
theorem dX6_init_15 : decode cX6_init 15 = .ok (.newarray .int, 2) := by decide +kernel
theorem dX6_init_17 : decode cX6_init 17 = .ok (.putfield 15, 3) := by decide +kernel
theorem dX6_init_20 : decode cX6_init 20 = .ok (.aload_n 0, 1) := by decide +kernel
theorem dX6_init_21 : decode cX6_init 21 = .ok (.aload_n 1, 1) := by decide +kernel
theorem dX6_init_22 : decode cX6_init 22 = .ok (.putfield 18, 3) := by decide +kernel
theorem dX6_init_25 : decode cX6_init 25 = .ok (.aload_n 0, 1) := by decide +kernel
theorem dX6_init_26 : decode cX6_init 26 = .ok (.aload_n 2, 1) := by decide +kernel
theorem dX6_init_27 : decode cX6_init 27 = .ok (.putfield 22, 3) := by decide +kernel
theorem dX6_init_30 : decode cX6_init 30 = .ok (.return_, 1) := by decide +kernel
theorem dX6_begin_0 : decode cX6_begin 0 = .ok (.aload_n 0, 1) := by decide +kernel
theorem dX6_begin_1 : decode cX6_begin 1 = .ok (.aload_n 1, 1) := by decide +kernel
theorem dX6_begin_2 : decode cX6_begin 2 = .ok (.putfield 18, 3) := by decide +kernel
theorem dX6_begin_5 : decode cX6_begin 5 = .ok (.aload_n 0, 1) := by decide +kernel
theorem dX6_begin_6 : decode cX6_begin 6 = .ok (.aload_n 2, 1) := by decide +kernel
theorem dX6_begin_7 : decode cX6_begin 7 = .ok (.putfield 22, 3) := by decide +kernel
theorem dX6_begin_10 : decode cX6_begin 10 = .ok (.aload_n 0, 1) := by decide +kernel
theorem dX6_begin_11 : decode cX6_begin 11 = .ok (.getfield 9, 3) := by decide +kernel
theorem dX6_begin_14 : decode cX6_begin 14 = .ok (.iconst 0, 1) := by decide +kernel
theorem dX6_begin_15 : decode cX6_begin 15 = .ok (.invokestatic 26, 3) := by decide +kernel
theorem dX6_begin_18 : decode cX6_begin 18 = .ok (.aload_n 0, 1) := by decide +kernel
theorem dX6_begin_19 : decode cX6_begin 19 = .ok (.getfield 15, 3) := by decide +kernel
theorem dX6_begin_22 : decode cX6_begin 22 = .ok (.iconst (-1), 1) := by decide +kernel
theorem dX6_begin_23 : decode cX6_begin 23 = .ok (.invokestatic 26, 3) := by decide +kernel
theorem dX6_begin_26 : decode cX6_begin 26 = .ok (.aload_n 0, 1) := by decide +kernel
theorem dX6_begin_27 : decode cX6_begin 27 = .ok (.iconst 0, 1) := by decide +kernel
theorem dX6_begin_28 : decode cX6_begin 28 = .ok (.putfield 32, 3) := by decide +kernel
theorem dX6_begin_31 : decode cX6_begin 31 = .ok (.aload_n 0, 1) := by decide +kernel
theorem dX6_begin_32 : decode cX6_begin 32 = .ok (.iconst 0, 1) := by decide +kernel
theorem dX6_begin_33 : decode cX6_begin 33 = .ok (.putfield 36, 3) := by decide +kernel
theorem dX6_begin_36 : decode cX6_begin 36 = .ok (.aload_n 0, 1) := by decide +kernel
theorem dX6_begin_37 : decode cX6_begin 37 = .ok (.iconst 0, 1) := by decide +kernel
theorem dX6_begin_38 : decode cX6_begin 38 = .ok (.putfield 39, 3) := by decide +kernel
theorem dX6_begin_41 : decode cX6_begin 41 = .ok (.return_, 1) := by decide +kernel
theorem dX6_goTo_0 : decode cX6_goTo 0 = .ok (.aload_n 0, 1) := by decide +kernel
theorem dX6_goTo_1 : decode cX6_goTo 1 = .ok (.getfield 36, 3) := by decide +kernel
theorem dX6_goTo_4 : decode cX6_goTo 4 = .ok (.istore_n 2, 1) := by decide +kernel
theorem dX6_goTo_5 : decode cX6_goTo 5 = .ok (.iload_n 2, 1) := by decide +kernel
theorem dX6_goTo_6 : decode cX6_goTo 6 = .ok (.iload_n 1, 1) := by decide +kernel
theorem dX6_goTo_7 : decode cX6_goTo 7 = .ok (.if_icmp .gt 85, 3) := by decide +kernel
theorem dX6_goTo_10 : decode cX6_goTo 10 = .ok (.iload_n 2, 1) := by decide +kernel
theorem dX6_goTo_11 : decode cX6_goTo 11 = .ok (.bipush 100, 2) := by decide +kernel
theorem dX6_goTo_13 : decode cX6_goTo 13 = .ok (.if_icmp .ge 79, 3) := by decide +kernel
theorem dX6_goTo_16 : decode cX6_goTo 16 = .ok (.iload_n 2, 1) := by decide +kernel
theorem dX6_goTo_17 : decode cX6_goTo 17 = .ok (.aload_n 0, 1) := by decide +kernel
theorem dX6_goTo_18 : decode cX6_goTo 18 = .ok (.getfield 36, 3) := by decide +kernel
theorem dX6_goTo_21 : decode cX6_goTo 21 = .ok (.if_icmp .le 12, 3) := by decide +kernel
theorem dX6_goTo_24 : decode cX6_goTo 24 = .ok (.aload_n 0, 1) := by decide +kernel
theorem dX6_goTo_25 : decode cX6_goTo 25 = .ok (.invokevirtual 42, 3) := by decide +kernel
theorem dX6_goTo_28 : decode cX6_goTo 28 = .ok (.aload_n 0, 1) := by decide +kernel
theorem dX6_goTo_29 : decode cX6_goTo 29 = .ok (.iload_n 2, 1) := by decide +kernel
theorem dX6_goTo_30 : decode cX6_goTo 30 = .ok (.putfield 36, 3) := by decide +kernel
theorem dX6_goTo_33 : decode cX6_goTo 33 = .ok (.aload_n 0, 1) := by decide +kernel
theorem dX6_goTo_34 : decode cX6_goTo 34 = .ok (.getfield 39, 3) := by decide +kernel
theorem dX6_goTo_37 : decode cX6_goTo 37 = .ok (.istore_n 3, 1) := by decide +kernel
theorem dX6_goTo_38 : decode cX6_goTo 38 = .ok (.iload_n 3, 1) := by decide +kernel
theorem dX6_goTo_39 : decode cX6_goTo 39 = .ok (.aload_n 0, 1) := by decide +kernel
theorem dX6_goTo_40 : decode cX6_goTo 40 = .ok (.getfield 22, 3) := by decide +kernel
theorem dX6_goTo_43 : decode cX6_goTo 43 = .ok (.getfield 45, 3) := by decide +kernel
theorem dX6_goTo_46 : decode cX6_goTo 46 = .ok (.if_icmp .ge 40, 3) := by decide +kernel
theorem dX6_goTo_49 : decode cX6_goTo 49 = .ok (.iload_n 3, 1) := by decide +kernel
theorem dX6_goTo_50 : decode cX6_goTo 50 = .ok (.bipush 21, 2) := by decide +kernel
theorem dX6_goTo_52 : decode cX6_goTo 52 = .ok (.if_icmp .ge 34, 3) := by decide +kernel
theorem dX6_goTo_55 : decode cX6_goTo 55 = .ok (.aload_n 0, 1) := by decide +kernel
theorem dX6_goTo_56 : decode cX6_goTo 56 = .ok (.getfield 22, 3) := by decide +kernel
theorem dX6_goTo_59 : decode cX6_goTo 59 = .ok (.getfield 50, 3) := by decide +kernel
theorem dX6_goTo_62 : decode cX6_goTo 62 = .ok (.iload_n 3, 1) := by decide +kernel
theorem dX6_goTo_63 : decode cX6_goTo 63 = .ok (.iaload, 1) := by decide +kernel
theorem dX6_goTo_64 : decode cX6_goTo 64 = .ok (.iload_n 2, 1) := by decide +kernel
theorem dX6_goTo_65 : decode cX6_goTo 65 = .ok (.if_icmp .gt 21, 3) := by decide +kernel
theorem dX6_goTo_68 : decode cX6_goTo 68 = .ok (.aload_n 0, 1) := by decide +kernel
theorem dX6_goTo_69 : decode cX6_goTo 69 = .ok (.iload_n 3, 1) := by decide +kernel
theorem dX6_goTo_70 : decode cX6_goTo 70 = .ok (.invokevirtual 52, 3) := by decide +kernel
theorem dX6_goTo_73 : decode cX6_goTo 73 = .ok (.aload_n 0, 1) := by decide +kernel
theorem dX6_goTo_74 : decode cX6_goTo 74 = .ok (.iload_n 3, 1) := by decide +kernel
theorem dX6_goTo_75 : decode cX6_goTo 75 = .ok (.iconst 1, 1) := by decide +kernel
theorem dX6_goTo_76 : decode cX6_goTo 76 = .ok (.iadd, 1) := by decide +kernel
theorem dX6_goTo_77 : decode cX6_goTo 77 = .ok (.putfield 39, 3) := by decide +kernel
theorem dX6_goTo_80 : decode cX6_goTo 80 = .ok (.iinc 3 1, 3) := by decide +kernel
theorem dX6_goTo_83 : decode cX6_goTo 83 = .ok (.goto (-45), 3) := by decide +kernel
theorem dX6_goTo_86 : decode cX6_goTo 86 = .ok (.iinc 2 1, 3) := by decide +kernel
theorem dX6_goTo_89 : decode cX6_goTo 89 = .ok (.goto (-84), 3) := by decide +kernel
theorem dX6_goTo_92 : decode cX6_goTo 92 = .ok (.return_, 1) := by decide +kernel
theorem dX6_lyingOn_0 : decode cX6_lyingOn 0 = .ok (.iload_n 1, 1) := by decide +kernel
theorem dX6_lyingOn_1 : decode cX6_lyingOn 1 = .ok (.bipush 10, 2) := by decide +kernel
theorem dX6_lyingOn_3 : decode cX6_lyingOn 3 = .ok (.invokestatic 56, 3) := by decide +kernel
theorem dX6_lyingOn_6 : decode cX6_lyingOn 6 = .ok (.ifCond .eq 26, 3) := by decide +kernel
theorem dX6_lyingOn_9 : decode cX6_lyingOn 9 = .ok (.iload_n 2, 1) := by decide +kernel
theorem dX6_lyingOn_10 : decode cX6_lyingOn 10 = .ok (.bipush 10, 2) := by decide +kernel
theorem dX6_lyingOn_12 : decode cX6_lyingOn 12 = .ok (.invokestatic 56, 3) := by decide +kernel
theorem dX6_lyingOn_15 : decode cX6_lyingOn 15 = .ok (.ifCond .eq 17, 3) := by decide +kernel
theorem dX6_lyingOn_18 : decode cX6_lyingOn 18 = .ok (.aload_n 0, 1) := by decide +kernel
theorem dX6_lyingOn_19 : decode cX6_lyingOn 19 = .ok (.getfield 9, 3) := by decide +kernel
theorem dX6_lyingOn_22 : decode cX6_lyingOn 22 = .ok (.iload_n 1, 1) := by decide +kernel
theorem dX6_lyingOn_23 : decode cX6_lyingOn 23 = .ok (.bipush 10, 2) := by decide +kernel
theorem dX6_lyingOn_25 : decode cX6_lyingOn 25 = .ok (.imul, 1) := by decide +kernel
theorem dX6_lyingOn_26 : decode cX6_lyingOn 26 = .ok (.iload_n 2, 1) := by decide +kernel
theorem dX6_lyingOn_27 : decode cX6_lyingOn 27 = .ok (.iadd, 1) := by decide +kernel
theorem dX6_lyingOn_28 : decode cX6_lyingOn 28 = .ok (.iaload, 1) := by decide +kernel
theorem dX6_lyingOn_29 : decode cX6_lyingOn 29 = .ok (.goto 4, 3) := by decide +kernel
theorem dX6_lyingOn_32 : decode cX6_lyingOn 32 = .ok (.iconst 0, 1) := by decide +kernel
theorem dX6_lyingOn_33 : decode cX6_lyingOn 33 = .ok (.ireturn, 1) := by decide +kernel
theorem dX6_pileOn_0 : decode cX6_pileOn 0 = .ok (.aload_n 0, 1) := by decide +kernel
theorem dX6_pileOn_1 : decode cX6_pileOn 1 = .ok (.getfield 18, 3) := by decide +kernel
theorem dX6_pileOn_4 : decode cX6_pileOn 4 = .ok (.iload_n 2, 1) := by decide +kernel
theorem dX6_pileOn_5 : decode cX6_pileOn 5 = .ok (.invokevirtual 60, 3) := by decide +kernel
theorem dX6_pileOn_8 : decode cX6_pileOn 8 = .ok (.istore_n 3, 1) := by decide +kernel
theorem dX6_pileOn_9 : decode cX6_pileOn 9 = .ok (.iconst 0, 1) := by decide +kernel
theorem dX6_pileOn_10 : decode cX6_pileOn 10 = .ok (.istore 4, 2) := by decide +kernel
theorem dX6_pileOn_12 : decode cX6_pileOn 12 = .ok (.iconst 0, 1) := by decide +kernel
theorem dX6_pileOn_13 : decode cX6_pileOn 13 = .ok (.istore 5, 2) := by decide +kernel
theorem dX6_pileOn_15 : decode cX6_pileOn 15 = .ok (.iload 5, 2) := by decide +kernel
theorem dX6_pileOn_17 : decode cX6_pileOn 17 = .ok (.bipush 10, 2) := by decide +kernel
theorem dX6_pileOn_19 : decode cX6_pileOn 19 = .ok (.if_icmp .ge 41, 3) := by decide +kernel
theorem dX6_pileOn_22 : decode cX6_pileOn 22 = .ok (.iload_n 3, 1) := by decide +kernel
theorem dX6_pileOn_23 : decode cX6_pileOn 23 = .ok (.iload 5, 2) := by decide +kernel
theorem dX6_pileOn_25 : decode cX6_pileOn 25 = .ok (.ishr, 1) := by decide +kernel
theorem dX6_pileOn_26 : decode cX6_pileOn 26 = .ok (.iconst 1, 1) := by decide +kernel
theorem dX6_pileOn_27 : decode cX6_pileOn 27 = .ok (.iand, 1) := by decide +kernel
theorem dX6_pileOn_28 : decode cX6_pileOn 28 = .ok (.iconst 1, 1) := by decide +kernel
theorem dX6_pileOn_29 : decode cX6_pileOn 29 = .ok (.if_icmp .ne 25, 3) := by decide +kernel
theorem dX6_pileOn_32 : decode cX6_pileOn 32 = .ok (.iload 4, 2) := by decide +kernel
theorem dX6_pileOn_34 : decode cX6_pileOn 34 = .ok (.aload_n 0, 1) := by decide +kernel
theorem dX6_pileOn_35 : decode cX6_pileOn 35 = .ok (.iload_n 1, 1) := by decide +kernel
theorem dX6_pileOn_36 : decode cX6_pileOn 36 = .ok (.iload 5, 2) := by decide +kernel
theorem dX6_pileOn_38 : decode cX6_pileOn 38 = .ok (.invokevirtual 66, 3) := by decide +kernel
theorem dX6_pileOn_41 : decode cX6_pileOn 41 = .ok (.aload_n 0, 1) := by decide +kernel
theorem dX6_pileOn_42 : decode cX6_pileOn 42 = .ok (.getfield 18, 3) := by decide +kernel
theorem dX6_pileOn_45 : decode cX6_pileOn 45 = .ok (.iload 5, 2) := by decide +kernel
theorem dX6_pileOn_47 : decode cX6_pileOn 47 = .ok (.invokevirtual 70, 3) := by decide +kernel
theorem dX6_pileOn_50 : decode cX6_pileOn 50 = .ok (.iadd, 1) := by decide +kernel
theorem dX6_pileOn_51 : decode cX6_pileOn 51 = .ok (.iadd, 1) := by decide +kernel
theorem dX6_pileOn_52 : decode cX6_pileOn 52 = .ok (.istore 4, 2) := by decide +kernel
theorem dX6_pileOn_54 : decode cX6_pileOn 54 = .ok (.iinc 5 1, 3) := by decide +kernel
theorem dX6_pileOn_57 : decode cX6_pileOn 57 = .ok (.goto (-42), 3) := by decide +kernel
theorem dX6_pileOn_60 : decode cX6_pileOn 60 = .ok (.iload 4, 2) := by decide +kernel
theorem dX6_pileOn_62 : decode cX6_pileOn 62 = .ok (.bipush 60, 2) := by decide +kernel
theorem dX6_pileOn_64 : decode cX6_pileOn 64 = .ok (.invokestatic 73, 3) := by decide +kernel
theorem dX6_pileOn_67 : decode cX6_pileOn 67 = .ok (.ireturn, 1) := by decide +kernel
theorem dX6_doEvent_0 : decode cX6_doEvent 0 = .ok (.iload_n 1, 1) := by decide +kernel
theorem dX6_doEvent_1 : decode cX6_doEvent 1 = .ok (.bipush 21, 2) := by decide +kernel
theorem dX6_doEvent_3 : decode cX6_doEvent 3 = .ok (.invokestatic 56, 3) := by decide +kernel
theorem dX6_doEvent_6 : decode cX6_doEvent 6 = .ok (.ifCond .eq 20, 3) := by decide +kernel
theorem dX6_doEvent_9 : decode cX6_doEvent 9 = .ok (.aload_n 0, 1) := by decide +kernel
theorem dX6_doEvent_10 : decode cX6_doEvent 10 = .ok (.getfield 22, 3) := by decide +kernel
theorem dX6_doEvent_13 : decode cX6_doEvent 13 = .ok (.getfield 78, 3) := by decide +kernel
theorem dX6_doEvent_16 : decode cX6_doEvent 16 = .ok (.iload_n 1, 1) := by decide +kernel
theorem dX6_doEvent_17 : decode cX6_doEvent 17 = .ok (.iaload, 1) := by decide +kernel
theorem dX6_doEvent_18 : decode cX6_doEvent 18 = .ok (.bipush 10, 2) := by decide +kernel
theorem dX6_doEvent_20 : decode cX6_doEvent 20 = .ok (.invokestatic 56, 3) := by decide +kernel
theorem dX6_doEvent_23 : decode cX6_doEvent 23 = .ok (.ifCond .ne 4, 3) := by decide +kernel
theorem dX6_doEvent_26 : decode cX6_doEvent 26 = .ok (.return_, 1) := by decide +kernel
theorem dX6_doEvent_27 : decode cX6_doEvent 27 = .ok (.aload_n 0, 1) := by decide +kernel
theorem dX6_doEvent_28 : decode cX6_doEvent 28 = .ok (.getfield 22, 3) := by decide +kernel
theorem dX6_doEvent_31 : decode cX6_doEvent 31 = .ok (.getfield 78, 3) := by decide +kernel
theorem dX6_doEvent_34 : decode cX6_doEvent 34 = .ok (.iload_n 1, 1) := by decide +kernel
theorem dX6_doEvent_35 : decode cX6_doEvent 35 = .ok (.iaload, 1) := by decide +kernel
theorem dX6_doEvent_36 : decode cX6_doEvent 36 = .ok (.istore_n 2, 1) := by decide +kernel
theorem dX6_doEvent_37 : decode cX6_doEvent 37 = .ok (.aload_n 0, 1) := by decide +kernel
theorem dX6_doEvent_38 : decode cX6_doEvent 38 = .ok (.getfield 22, 3) := by decide +kernel
theorem dX6_doEvent_41 : decode cX6_doEvent 41 = .ok (.getfield 81, 3) := by decide +kernel
theorem dX6_doEvent_44 : decode cX6_doEvent 44 = .ok (.iload_n 1, 1) := by decide +kernel
theorem dX6_doEvent_45 : decode cX6_doEvent 45 = .ok (.iaload, 1) := by decide +kernel
theorem dX6_doEvent_46 : decode cX6_doEvent 46 = .ok (.istore_n 3, 1) := by decide +kernel
theorem dX6_doEvent_47 : decode cX6_doEvent 47 = .ok (.aload_n 0, 1) := by decide +kernel
theorem dX6_doEvent_48 : decode cX6_doEvent 48 = .ok (.getfield 22, 3) := by decide +kernel
theorem dX6_doEvent_51 : decode cX6_doEvent 51 = .ok (.getfield 84, 3) := by decide +kernel
theorem dX6_doEvent_54 : decode cX6_doEvent 54 = .ok (.iload_n 1, 1) := by decide +kernel
theorem dX6_doEvent_55 : decode cX6_doEvent 55 = .ok (.iaload, 1) := by decide +kernel
theorem dX6_doEvent_56 : decode cX6_doEvent 56 = .ok (.tableswitch 89 0 4 #[36, 46, 56, 65, 80], 36) := by decide +kernel
theorem dX6_doEvent_92 : decode cX6_doEvent 92 = .ok (.aload_n 0, 1) := by decide +kernel
theorem dX6_doEvent_93 : decode cX6_doEvent 93 = .ok (.getfield 15, 3) := by decide +kernel
theorem dX6_doEvent_96 : decode cX6_doEvent 96 = .ok (.iload_n 2, 1) := by decide +kernel
theorem dX6_doEvent_97 : decode cX6_doEvent 97 = .ok (.iload_n 3, 1) := by decide +kernel
theorem dX6_doEvent_98 : decode cX6_doEvent 98 = .ok (.iastore, 1) := by decide +kernel
theorem dX6_doEvent_99 : decode cX6_doEvent 99 = .ok (.goto 46, 3) := by decide +kernel
theorem dX6_doEvent_102 : decode cX6_doEvent 102 = .ok (.aload_n 0, 1) := by decide +kernel
theorem dX6_doEvent_103 : decode cX6_doEvent 103 = .ok (.getfield 15, 3) := by decide +kernel
theorem dX6_doEvent_106 : decode cX6_doEvent 106 = .ok (.iload_n 2, 1) := by decide +kernel
theorem dX6_doEvent_107 : decode cX6_doEvent 107 = .ok (.iconst (-1), 1) := by decide +kernel
theorem dX6_doEvent_108 : decode cX6_doEvent 108 = .ok (.iastore, 1) := by decide +kernel
theorem dX6_doEvent_109 : decode cX6_doEvent 109 = .ok (.goto 36, 3) := by decide +kernel
theorem dX6_doEvent_112 : decode cX6_doEvent 112 = .ok (.aload_n 0, 1) := by decide +kernel
theorem dX6_doEvent_113 : decode cX6_doEvent 113 = .ok (.iload_n 2, 1) := by decide +kernel
theorem dX6_doEvent_114 : decode cX6_doEvent 114 = .ok (.iload_n 3, 1) := by decide +kernel
theorem dX6_doEvent_115 : decode cX6_doEvent 115 = .ok (.invokevirtual 87, 3) := by decide +kernel
theorem dX6_doEvent_118 : decode cX6_doEvent 118 = .ok (.goto 27, 3) := by decide +kernel
theorem dX6_doEvent_121 : decode cX6_doEvent 121 = .ok (.aload_n 0, 1) := by decide +kernel
theorem dX6_doEvent_122 : decode cX6_doEvent 122 = .ok (.iload_n 2, 1) := by decide +kernel
theorem dX6_doEvent_123 : decode cX6_doEvent 123 = .ok (.aload_n 0, 1) := by decide +kernel
theorem dX6_doEvent_124 : decode cX6_doEvent 124 = .ok (.getfield 18, 3) := by decide +kernel
theorem dX6_doEvent_127 : decode cX6_doEvent 127 = .ok (.getfield 91, 3) := by decide +kernel
theorem dX6_doEvent_130 : decode cX6_doEvent 130 = .ok (.invokevirtual 94, 3) := by decide +kernel
theorem dX6_doEvent_133 : decode cX6_doEvent 133 = .ok (.goto 12, 3) := by decide +kernel
theorem dX6_doEvent_136 : decode cX6_doEvent 136 = .ok (.aload_n 0, 1) := by decide +kernel
theorem dX6_doEvent_137 : decode cX6_doEvent 137 = .ok (.iload_n 2, 1) := by decide +kernel
theorem dX6_doEvent_138 : decode cX6_doEvent 138 = .ok (.iload_n 3, 1) := by decide +kernel
theorem dX6_doEvent_139 : decode cX6_doEvent 139 = .ok (.invokevirtual 94, 3) := by decide +kernel
theorem dX6_doEvent_142 : decode cX6_doEvent 142 = .ok (.goto 3, 3) := by decide +kernel
theorem dX6_doEvent_145 : decode cX6_doEvent 145 = .ok (.return_, 1) := by decide +kernel
theorem dX6_touch_0 : decode cX6_touch 0 = .ok (.iload_n 1, 1) := by decide +kernel
theorem dX6_touch_1 : decode cX6_touch 1 = .ok (.bipush 10, 2) := by decide +kernel
theorem dX6_touch_3 : decode cX6_touch 3 = .ok (.invokestatic 56, 3) := by decide +kernel
theorem dX6_touch_6 : decode cX6_touch 6 = .ok (.ifCond .eq 12, 3) := by decide +kernel
theorem dX6_touch_9 : decode cX6_touch 9 = .ok (.iload_n 2, 1) := by decide +kernel
theorem dX6_touch_10 : decode cX6_touch 10 = .ok (.bipush 10, 2) := by decide +kernel
theorem dX6_touch_12 : decode cX6_touch 12 = .ok (.invokestatic 56, 3) := by decide +kernel
theorem dX6_touch_15 : decode cX6_touch 15 = .ok (.ifCond .ne 4, 3) := by decide +kernel
theorem dX6_touch_18 : decode cX6_touch 18 = .ok (.return_, 1) := by decide +kernel
theorem dX6_touch_19 : decode cX6_touch 19 = .ok (.iconst 0, 1) := by decide +kernel
theorem dX6_touch_20 : decode cX6_touch 20 = .ok (.istore_n 3, 1) := by decide +kernel
theorem dX6_touch_21 : decode cX6_touch 21 = .ok (.iload_n 3, 1) := by decide +kernel
theorem dX6_touch_22 : decode cX6_touch 22 = .ok (.bipush 10, 2) := by decide +kernel
theorem dX6_touch_24 : decode cX6_touch 24 = .ok (.if_icmp .ge 153, 3) := by decide +kernel
theorem dX6_touch_27 : decode cX6_touch 27 = .ok (.aload_n 0, 1) := by decide +kernel
theorem dX6_touch_28 : decode cX6_touch 28 = .ok (.getfield 9, 3) := by decide +kernel
theorem dX6_touch_31 : decode cX6_touch 31 = .ok (.iload_n 1, 1) := by decide +kernel
theorem dX6_touch_32 : decode cX6_touch 32 = .ok (.bipush 10, 2) := by decide +kernel
theorem dX6_touch_34 : decode cX6_touch 34 = .ok (.imul, 1) := by decide +kernel
theorem dX6_touch_35 : decode cX6_touch 35 = .ok (.iload_n 3, 1) := by decide +kernel
theorem dX6_touch_36 : decode cX6_touch 36 = .ok (.iadd, 1) := by decide +kernel
theorem dX6_touch_37 : decode cX6_touch 37 = .ok (.iaload, 1) := by decide +kernel
theorem dX6_touch_38 : decode cX6_touch 38 = .ok (.istore 4, 2) := by decide +kernel
theorem dX6_touch_40 : decode cX6_touch 40 = .ok (.aload_n 0, 1) := by decide +kernel
theorem dX6_touch_41 : decode cX6_touch 41 = .ok (.getfield 9, 3) := by decide +kernel
theorem dX6_touch_44 : decode cX6_touch 44 = .ok (.iload_n 2, 1) := by decide +kernel
theorem dX6_touch_45 : decode cX6_touch 45 = .ok (.bipush 10, 2) := by decide +kernel
theorem dX6_touch_47 : decode cX6_touch 47 = .ok (.imul, 1) := by decide +kernel
theorem dX6_touch_48 : decode cX6_touch 48 = .ok (.iload_n 3, 1) := by decide +kernel
theorem dX6_touch_49 : decode cX6_touch 49 = .ok (.iadd, 1) := by decide +kernel
theorem dX6_touch_50 : decode cX6_touch 50 = .ok (.iaload, 1) := by decide +kernel
theorem dX6_touch_51 : decode cX6_touch 51 = .ok (.istore 5, 2) := by decide +kernel
theorem dX6_touch_53 : decode cX6_touch 53 = .ok (.iload 4, 2) := by decide +kernel
theorem dX6_touch_55 : decode cX6_touch 55 = .ok (.aload_n 0, 1) := by decide +kernel
theorem dX6_touch_56 : decode cX6_touch 56 = .ok (.getfield 18, 3) := by decide +kernel
theorem dX6_touch_59 : decode cX6_touch 59 = .ok (.getfield 97, 3) := by decide +kernel
theorem dX6_touch_62 : decode cX6_touch 62 = .ok (.imul, 1) := by decide +kernel
theorem dX6_touch_63 : decode cX6_touch 63 = .ok (.bipush 16, 2) := by decide +kernel
theorem dX6_touch_65 : decode cX6_touch 65 = .ok (.idiv, 1) := by decide +kernel
theorem dX6_touch_66 : decode cX6_touch 66 = .ok (.istore 6, 2) := by decide +kernel
theorem dX6_touch_68 : decode cX6_touch 68 = .ok (.iload 5, 2) := by decide +kernel
theorem dX6_touch_70 : decode cX6_touch 70 = .ok (.aload_n 0, 1) := by decide +kernel
theorem dX6_touch_71 : decode cX6_touch 71 = .ok (.getfield 18, 3) := by decide +kernel
theorem dX6_touch_74 : decode cX6_touch 74 = .ok (.getfield 97, 3) := by decide +kernel
theorem dX6_touch_77 : decode cX6_touch 77 = .ok (.imul, 1) := by decide +kernel
theorem dX6_touch_78 : decode cX6_touch 78 = .ok (.bipush 16, 2) := by decide +kernel
theorem dX6_touch_80 : decode cX6_touch 80 = .ok (.idiv, 1) := by decide +kernel
theorem dX6_touch_81 : decode cX6_touch 81 = .ok (.istore 7, 2) := by decide +kernel
theorem dX6_touch_83 : decode cX6_touch 83 = .ok (.iload 7, 2) := by decide +kernel
theorem dX6_touch_85 : decode cX6_touch 85 = .ok (.aload_n 0, 1) := by decide +kernel
theorem dX6_touch_86 : decode cX6_touch 86 = .ok (.getfield 18, 3) := by decide +kernel
theorem dX6_touch_89 : decode cX6_touch 89 = .ok (.aload_n 0, 1) := by decide +kernel
theorem dX6_touch_90 : decode cX6_touch 90 = .ok (.getfield 15, 3) := by decide +kernel
theorem dX6_touch_93 : decode cX6_touch 93 = .ok (.iload_n 2, 1) := by decide +kernel
theorem dX6_touch_94 : decode cX6_touch 94 = .ok (.iaload, 1) := by decide +kernel
theorem dX6_touch_95 : decode cX6_touch 95 = .ok (.iload_n 3, 1) := by decide +kernel
theorem dX6_touch_96 : decode cX6_touch 96 = .ok (.invokevirtual 100, 3) := by decide +kernel
theorem dX6_touch_99 : decode cX6_touch 99 = .ok (.iadd, 1) := by decide +kernel
theorem dX6_touch_100 : decode cX6_touch 100 = .ok (.istore 8, 2) := by decide +kernel
theorem dX6_touch_102 : decode cX6_touch 102 = .ok (.iload 6, 2) := by decide +kernel
theorem dX6_touch_104 : decode cX6_touch 104 = .ok (.aload_n 0, 1) := by decide +kernel
theorem dX6_touch_105 : decode cX6_touch 105 = .ok (.getfield 18, 3) := by decide +kernel
theorem dX6_touch_108 : decode cX6_touch 108 = .ok (.aload_n 0, 1) := by decide +kernel
theorem dX6_touch_109 : decode cX6_touch 109 = .ok (.getfield 15, 3) := by decide +kernel
theorem dX6_touch_112 : decode cX6_touch 112 = .ok (.iload_n 1, 1) := by decide +kernel
theorem dX6_touch_113 : decode cX6_touch 113 = .ok (.iaload, 1) := by decide +kernel
theorem dX6_touch_114 : decode cX6_touch 114 = .ok (.iload_n 3, 1) := by decide +kernel
theorem dX6_touch_115 : decode cX6_touch 115 = .ok (.invokevirtual 100, 3) := by decide +kernel
theorem dX6_touch_118 : decode cX6_touch 118 = .ok (.iadd, 1) := by decide +kernel
theorem dX6_touch_119 : decode cX6_touch 119 = .ok (.istore 9, 2) := by decide +kernel
theorem dX6_touch_121 : decode cX6_touch 121 = .ok (.aload_n 0, 1) := by decide +kernel
theorem dX6_touch_122 : decode cX6_touch 122 = .ok (.getfield 9, 3) := by decide +kernel
theorem dX6_touch_125 : decode cX6_touch 125 = .ok (.iload_n 1, 1) := by decide +kernel
theorem dX6_touch_126 : decode cX6_touch 126 = .ok (.bipush 10, 2) := by decide +kernel
theorem dX6_touch_128 : decode cX6_touch 128 = .ok (.imul, 1) := by decide +kernel
theorem dX6_touch_129 : decode cX6_touch 129 = .ok (.iload_n 3, 1) := by decide +kernel
theorem dX6_touch_130 : decode cX6_touch 130 = .ok (.iadd, 1) := by decide +kernel
theorem dX6_touch_131 : decode cX6_touch 131 = .ok (.iload 4, 2) := by decide +kernel
theorem dX6_touch_133 : decode cX6_touch 133 = .ok (.iload 6, 2) := by decide +kernel
theorem dX6_touch_135 : decode cX6_touch 135 = .ok (.isub, 1) := by decide +kernel
theorem dX6_touch_136 : decode cX6_touch 136 = .ok (.iload 8, 2) := by decide +kernel
theorem dX6_touch_138 : decode cX6_touch 138 = .ok (.iadd, 1) := by decide +kernel
theorem dX6_touch_139 : decode cX6_touch 139 = .ok (.sipush 9999, 3) := by decide +kernel
theorem dX6_touch_142 : decode cX6_touch 142 = .ok (.invokestatic 73, 3) := by decide +kernel
theorem dX6_touch_145 : decode cX6_touch 145 = .ok (.iastore, 1) := by decide +kernel
theorem dX6_touch_146 : decode cX6_touch 146 = .ok (.aload_n 0, 1) := by decide +kernel
theorem dX6_touch_147 : decode cX6_touch 147 = .ok (.getfield 9, 3) := by decide +kernel
theorem dX6_touch_150 : decode cX6_touch 150 = .ok (.iload_n 2, 1) := by decide +kernel
theorem dX6_touch_151 : decode cX6_touch 151 = .ok (.bipush 10, 2) := by decide +kernel
theorem dX6_touch_153 : decode cX6_touch 153 = .ok (.imul, 1) := by decide +kernel
theorem dX6_touch_154 : decode cX6_touch 154 = .ok (.iload_n 3, 1) := by decide +kernel
theorem dX6_touch_155 : decode cX6_touch 155 = .ok (.iadd, 1) := by decide +kernel
theorem dX6_touch_156 : decode cX6_touch 156 = .ok (.iload 5, 2) := by decide +kernel
theorem dX6_touch_158 : decode cX6_touch 158 = .ok (.iload 7, 2) := by decide +kernel
theorem dX6_touch_160 : decode cX6_touch 160 = .ok (.isub, 1) := by decide +kernel
theorem dX6_touch_161 : decode cX6_touch 161 = .ok (.iload 9, 2) := by decide +kernel
theorem dX6_touch_163 : decode cX6_touch 163 = .ok (.iadd, 1) := by decide +kernel
theorem dX6_touch_164 : decode cX6_touch 164 = .ok (.sipush 9999, 3) := by decide +kernel
theorem dX6_touch_167 : decode cX6_touch 167 = .ok (.invokestatic 73, 3) := by decide +kernel
theorem dX6_touch_170 : decode cX6_touch 170 = .ok (.iastore, 1) := by decide +kernel
theorem dX6_touch_171 : decode cX6_touch 171 = .ok (.iinc 3 1, 3) := by decide +kernel
theorem dX6_touch_174 : decode cX6_touch 174 = .ok (.goto (-153), 3) := by decide +kernel
theorem dX6_touch_177 : decode cX6_touch 177 = .ok (.aload_n 0, 1) := by decide +kernel
theorem dX6_touch_178 : decode cX6_touch 178 = .ok (.dup, 1) := by decide +kernel
theorem dX6_touch_179 : decode cX6_touch 179 = .ok (.getfield 32, 3) := by decide +kernel
theorem dX6_touch_182 : decode cX6_touch 182 = .ok (.iconst 1, 1) := by decide +kernel
theorem dX6_touch_183 : decode cX6_touch 183 = .ok (.iload_n 1, 1) := by decide +kernel
theorem dX6_touch_184 : decode cX6_touch 184 = .ok (.ishl, 1) := by decide +kernel
theorem dX6_touch_185 : decode cX6_touch 185 = .ok (.iconst 1, 1) := by decide +kernel
theorem dX6_touch_186 : decode cX6_touch 186 = .ok (.iload_n 2, 1) := by decide +kernel
theorem dX6_touch_187 : decode cX6_touch 187 = .ok (.ishl, 1) := by decide +kernel
theorem dX6_touch_188 : decode cX6_touch 188 = .ok (.ior, 1) := by decide +kernel
theorem dX6_touch_189 : decode cX6_touch 189 = .ok (.ior, 1) := by decide +kernel
theorem dX6_touch_190 : decode cX6_touch 190 = .ok (.putfield 32, 3) := by decide +kernel
theorem dX6_touch_193 : decode cX6_touch 193 = .ok (.return_, 1) := by decide +kernel
theorem dX6_keep_0 : decode cX6_keep 0 = .ok (.iconst 0, 1) := by decide +kernel
theorem dX6_keep_1 : decode cX6_keep 1 = .ok (.istore_n 3, 1) := by decide +kernel
theorem dX6_keep_2 : decode cX6_keep 2 = .ok (.iload_n 3, 1) := by decide +kernel
theorem dX6_keep_3 : decode cX6_keep 3 = .ok (.bipush 10, 2) := by decide +kernel
theorem dX6_keep_5 : decode cX6_keep 5 = .ok (.if_icmp .ge 45, 3) := by decide +kernel
theorem dX6_keep_8 : decode cX6_keep 8 = .ok (.iload_n 1, 1) := by decide +kernel
theorem dX6_keep_9 : decode cX6_keep 9 = .ok (.bipush 10, 2) := by decide +kernel
theorem dX6_keep_11 : decode cX6_keep 11 = .ok (.invokestatic 56, 3) := by decide +kernel
theorem dX6_keep_14 : decode cX6_keep 14 = .ok (.ifCond .eq 36, 3) := by decide +kernel
theorem dX6_keep_17 : decode cX6_keep 17 = .ok (.aload_n 0, 1) := by decide +kernel
theorem dX6_keep_18 : decode cX6_keep 18 = .ok (.getfield 9, 3) := by decide +kernel
theorem dX6_keep_21 : decode cX6_keep 21 = .ok (.iload_n 1, 1) := by decide +kernel
theorem dX6_keep_22 : decode cX6_keep 22 = .ok (.bipush 10, 2) := by decide +kernel
theorem dX6_keep_24 : decode cX6_keep 24 = .ok (.imul, 1) := by decide +kernel
theorem dX6_keep_25 : decode cX6_keep 25 = .ok (.iload_n 3, 1) := by decide +kernel
theorem dX6_keep_26 : decode cX6_keep 26 = .ok (.iadd, 1) := by decide +kernel
theorem dX6_keep_27 : decode cX6_keep 27 = .ok (.aload_n 0, 1) := by decide +kernel
theorem dX6_keep_28 : decode cX6_keep 28 = .ok (.getfield 9, 3) := by decide +kernel
theorem dX6_keep_31 : decode cX6_keep 31 = .ok (.iload_n 1, 1) := by decide +kernel
theorem dX6_keep_32 : decode cX6_keep 32 = .ok (.bipush 10, 2) := by decide +kernel
theorem dX6_keep_34 : decode cX6_keep 34 = .ok (.imul, 1) := by decide +kernel
theorem dX6_keep_35 : decode cX6_keep 35 = .ok (.iload_n 3, 1) := by decide +kernel
theorem dX6_keep_36 : decode cX6_keep 36 = .ok (.iadd, 1) := by decide +kernel
theorem dX6_keep_37 : decode cX6_keep 37 = .ok (.iaload, 1) := by decide +kernel
theorem dX6_keep_38 : decode cX6_keep 38 = .ok (.iload_n 2, 1) := by decide +kernel
theorem dX6_keep_39 : decode cX6_keep 39 = .ok (.imul, 1) := by decide +kernel
theorem dX6_keep_40 : decode cX6_keep 40 = .ok (.bipush 16, 2) := by decide +kernel
theorem dX6_keep_42 : decode cX6_keep 42 = .ok (.idiv, 1) := by decide +kernel
theorem dX6_keep_43 : decode cX6_keep 43 = .ok (.iastore, 1) := by decide +kernel
theorem dX6_keep_44 : decode cX6_keep 44 = .ok (.iinc 3 1, 3) := by decide +kernel
theorem dX6_keep_47 : decode cX6_keep 47 = .ok (.goto (-45), 3) := by decide +kernel
theorem dX6_keep_50 : decode cX6_keep 50 = .ok (.return_, 1) := by decide +kernel
theorem dX6_loseByHour_0 : decode cX6_loseByHour 0 = .ok (.iconst 0, 1) := by decide +kernel
theorem dX6_loseByHour_1 : decode cX6_loseByHour 1 = .ok (.istore_n 1, 1) := by decide +kernel
theorem dX6_loseByHour_2 : decode cX6_loseByHour 2 = .ok (.iload_n 1, 1) := by decide +kernel
theorem dX6_loseByHour_3 : decode cX6_loseByHour 3 = .ok (.bipush 10, 2) := by decide +kernel
theorem dX6_loseByHour_5 : decode cX6_loseByHour 5 = .ok (.if_icmp .ge 75, 3) := by decide +kernel
theorem dX6_loseByHour_8 : decode cX6_loseByHour 8 = .ok (.aload_n 0, 1) := by decide +kernel
theorem dX6_loseByHour_9 : decode cX6_loseByHour 9 = .ok (.getfield 32, 3) := by decide +kernel
theorem dX6_loseByHour_12 : decode cX6_loseByHour 12 = .ok (.iload_n 1, 1) := by decide +kernel
theorem dX6_loseByHour_13 : decode cX6_loseByHour 13 = .ok (.ishr, 1) := by decide +kernel
theorem dX6_loseByHour_14 : decode cX6_loseByHour 14 = .ok (.iconst 1, 1) := by decide +kernel
theorem dX6_loseByHour_15 : decode cX6_loseByHour 15 = .ok (.iand, 1) := by decide +kernel
theorem dX6_loseByHour_16 : decode cX6_loseByHour 16 = .ok (.iconst 1, 1) := by decide +kernel
theorem dX6_loseByHour_17 : decode cX6_loseByHour 17 = .ok (.if_icmp .ne 57, 3) := by decide +kernel
theorem dX6_loseByHour_20 : decode cX6_loseByHour 20 = .ok (.iconst 0, 1) := by decide +kernel
theorem dX6_loseByHour_21 : decode cX6_loseByHour 21 = .ok (.istore_n 2, 1) := by decide +kernel
theorem dX6_loseByHour_22 : decode cX6_loseByHour 22 = .ok (.iload_n 2, 1) := by decide +kernel
theorem dX6_loseByHour_23 : decode cX6_loseByHour 23 = .ok (.bipush 10, 2) := by decide +kernel
theorem dX6_loseByHour_25 : decode cX6_loseByHour 25 = .ok (.if_icmp .ge 49, 3) := by decide +kernel
theorem dX6_loseByHour_28 : decode cX6_loseByHour 28 = .ok (.iload_n 1, 1) := by decide +kernel
theorem dX6_loseByHour_29 : decode cX6_loseByHour 29 = .ok (.bipush 10, 2) := by decide +kernel
theorem dX6_loseByHour_31 : decode cX6_loseByHour 31 = .ok (.imul, 1) := by decide +kernel
theorem dX6_loseByHour_32 : decode cX6_loseByHour 32 = .ok (.iload_n 2, 1) := by decide +kernel
theorem dX6_loseByHour_33 : decode cX6_loseByHour 33 = .ok (.iadd, 1) := by decide +kernel
theorem dX6_loseByHour_34 : decode cX6_loseByHour 34 = .ok (.istore_n 3, 1) := by decide +kernel
theorem dX6_loseByHour_35 : decode cX6_loseByHour 35 = .ok (.aload_n 0, 1) := by decide +kernel
theorem dX6_loseByHour_36 : decode cX6_loseByHour 36 = .ok (.getfield 9, 3) := by decide +kernel
theorem dX6_loseByHour_39 : decode cX6_loseByHour 39 = .ok (.iload_n 3, 1) := by decide +kernel
theorem dX6_loseByHour_40 : decode cX6_loseByHour 40 = .ok (.iaload, 1) := by decide +kernel
theorem dX6_loseByHour_41 : decode cX6_loseByHour 41 = .ok (.ifCond .le 27, 3) := by decide +kernel
theorem dX6_loseByHour_44 : decode cX6_loseByHour 44 = .ok (.aload_n 0, 1) := by decide +kernel
theorem dX6_loseByHour_45 : decode cX6_loseByHour 45 = .ok (.getfield 9, 3) := by decide +kernel
theorem dX6_loseByHour_48 : decode cX6_loseByHour 48 = .ok (.iload_n 3, 1) := by decide +kernel
theorem dX6_loseByHour_49 : decode cX6_loseByHour 49 = .ok (.aload_n 0, 1) := by decide +kernel
theorem dX6_loseByHour_50 : decode cX6_loseByHour 50 = .ok (.getfield 9, 3) := by decide +kernel
theorem dX6_loseByHour_53 : decode cX6_loseByHour 53 = .ok (.iload_n 3, 1) := by decide +kernel
theorem dX6_loseByHour_54 : decode cX6_loseByHour 54 = .ok (.iaload, 1) := by decide +kernel
theorem dX6_loseByHour_55 : decode cX6_loseByHour 55 = .ok (.aload_n 0, 1) := by decide +kernel
theorem dX6_loseByHour_56 : decode cX6_loseByHour 56 = .ok (.getfield 18, 3) := by decide +kernel
theorem dX6_loseByHour_59 : decode cX6_loseByHour 59 = .ok (.iload_n 2, 1) := by decide +kernel
theorem dX6_loseByHour_60 : decode cX6_loseByHour 60 = .ok (.invokevirtual 103, 3) := by decide +kernel
theorem dX6_loseByHour_63 : decode cX6_loseByHour 63 = .ok (.imul, 1) := by decide +kernel
theorem dX6_loseByHour_64 : decode cX6_loseByHour 64 = .ok (.bipush 16, 2) := by decide +kernel
theorem dX6_loseByHour_66 : decode cX6_loseByHour 66 = .ok (.idiv, 1) := by decide +kernel
theorem dX6_loseByHour_67 : decode cX6_loseByHour 67 = .ok (.iastore, 1) := by decide +kernel
theorem dX6_loseByHour_68 : decode cX6_loseByHour 68 = .ok (.iinc 2 1, 3) := by decide +kernel
theorem dX6_loseByHour_71 : decode cX6_loseByHour 71 = .ok (.goto (-49), 3) := by decide +kernel
theorem dX6_loseByHour_74 : decode cX6_loseByHour 74 = .ok (.iinc 1 1, 3) := by decide +kernel
theorem dX6_loseByHour_77 : decode cX6_loseByHour 77 = .ok (.goto (-75), 3) := by decide +kernel
theorem dX6_loseByHour_80 : decode cX6_loseByHour 80 = .ok (.return_, 1) := by decide +kernel
theorem dX7_init_0 : decode cX7_init 0 = .ok (.aload_n 0, 1) := by decide +kernel
theorem dX7_init_1 : decode cX7_init 1 = .ok (.invokespecial 3, 3) := by decide +kernel
theorem dX7_init_4 : decode cX7_init 4 = .ok (.aload_n 0, 1) := by decide +kernel
theorem dX7_init_5 : decode cX7_init 5 = .ok (.bipush 40, 2) := by decide +kernel
