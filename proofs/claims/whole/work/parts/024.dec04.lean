theorem dX12_drop_11 : decode cX12_drop 11 = .ok (.ifCond .ne 7, 3) := by decide +kernel
theorem dX12_drop_14 : decode cX12_drop 14 = .ok (.iconst 1, 1) := by decide +kernel
theorem dX12_drop_15 : decode cX12_drop 15 = .ok (.goto 4, 3) := by decide +kernel
theorem dX12_drop_18 : decode cX12_drop 18 = .ok (.iconst 0, 1) := by decide +kernel
theorem dX12_drop_19 : decode cX12_drop 19 = .ok (.iconst 1, 1) := by decide +kernel
theorem dX12_drop_20 : decode cX12_drop 20 = .ok (.invokevirtual 170, 3) := by decide +kernel
theorem dX12_drop_23 : decode cX12_drop 23 = .ok (.ifCond .eq 5, 3) := by decide +kernel
theorem dX12_drop_26 : decode cX12_drop 26 = .ok (.iconst 0, 1) := by decide +kernel
theorem dX12_drop_27 : decode cX12_drop 27 = .ok (.ireturn, 1) := by decide +kernel
theorem dX12_drop_28 : decode cX12_drop 28 = .ok (.iload_n 1, 1) := by decide +kernel
theorem dX12_drop_29 : decode cX12_drop 29 = .ok (.istore_n 2, 1) := by decide +kernel
theorem dX12_drop_30 : decode cX12_drop 30 = .ok (.iload_n 2, 1) := by decide +kernel
theorem dX12_drop_31 : decode cX12_drop 31 = .ok (.iconst 1, 1) := by decide +kernel
theorem dX12_drop_32 : decode cX12_drop 32 = .ok (.iadd, 1) := by decide +kernel
theorem dX12_drop_33 : decode cX12_drop 33 = .ok (.aload_n 0, 1) := by decide +kernel
theorem dX12_drop_34 : decode cX12_drop 34 = .ok (.getfield 247, 3) := by decide +kernel
theorem dX12_drop_37 : decode cX12_drop 37 = .ok (.if_icmp .ge 40, 3) := by decide +kernel
theorem dX12_drop_40 : decode cX12_drop 40 = .ok (.iconst 0, 1) := by decide +kernel
theorem dX12_drop_41 : decode cX12_drop 41 = .ok (.istore_n 3, 1) := by decide +kernel
theorem dX12_drop_42 : decode cX12_drop 42 = .ok (.iload_n 3, 1) := by decide +kernel
theorem dX12_drop_43 : decode cX12_drop 43 = .ok (.iconst 4, 1) := by decide +kernel
theorem dX12_drop_44 : decode cX12_drop 44 = .ok (.if_icmp .ge 27, 3) := by decide +kernel
theorem dX12_drop_47 : decode cX12_drop 47 = .ok (.aload_n 0, 1) := by decide +kernel
theorem dX12_drop_48 : decode cX12_drop 48 = .ok (.getfield 55, 3) := by decide +kernel
theorem dX12_drop_51 : decode cX12_drop 51 = .ok (.iload_n 2, 1) := by decide +kernel
theorem dX12_drop_52 : decode cX12_drop 52 = .ok (.aaload, 1) := by decide +kernel
theorem dX12_drop_53 : decode cX12_drop 53 = .ok (.iload_n 3, 1) := by decide +kernel
theorem dX12_drop_54 : decode cX12_drop 54 = .ok (.aload_n 0, 1) := by decide +kernel
theorem dX12_drop_55 : decode cX12_drop 55 = .ok (.getfield 55, 3) := by decide +kernel
theorem dX12_drop_58 : decode cX12_drop 58 = .ok (.iload_n 2, 1) := by decide +kernel
theorem dX12_drop_59 : decode cX12_drop 59 = .ok (.iconst 1, 1) := by decide +kernel
theorem dX12_drop_60 : decode cX12_drop 60 = .ok (.iadd, 1) := by decide +kernel
theorem dX12_drop_61 : decode cX12_drop 61 = .ok (.aaload, 1) := by decide +kernel
theorem dX12_drop_62 : decode cX12_drop 62 = .ok (.iload_n 3, 1) := by decide +kernel
theorem dX12_drop_63 : decode cX12_drop 63 = .ok (.iaload, 1) := by decide +kernel
theorem dX12_drop_64 : decode cX12_drop 64 = .ok (.iastore, 1) := by decide +kernel
theorem dX12_drop_65 : decode cX12_drop 65 = .ok (.iinc 3 1, 3) := by decide +kernel
theorem dX12_drop_68 : decode cX12_drop 68 = .ok (.goto (-26), 3) := by decide +kernel
theorem dX12_drop_71 : decode cX12_drop 71 = .ok (.iinc 2 1, 3) := by decide +kernel
theorem dX12_drop_74 : decode cX12_drop 74 = .ok (.goto (-44), 3) := by decide +kernel
theorem dX12_drop_77 : decode cX12_drop 77 = .ok (.aload_n 0, 1) := by decide +kernel
theorem dX12_drop_78 : decode cX12_drop 78 = .ok (.dup, 1) := by decide +kernel
theorem dX12_drop_79 : decode cX12_drop 79 = .ok (.getfield 247, 3) := by decide +kernel
theorem dX12_drop_82 : decode cX12_drop 82 = .ok (.iconst 1, 1) := by decide +kernel
theorem dX12_drop_83 : decode cX12_drop 83 = .ok (.isub, 1) := by decide +kernel
theorem dX12_drop_84 : decode cX12_drop 84 = .ok (.putfield 247, 3) := by decide +kernel
theorem dX12_drop_87 : decode cX12_drop 87 = .ok (.aload_n 0, 1) := by decide +kernel
theorem dX12_drop_88 : decode cX12_drop 88 = .ok (.getfield 247, 3) := by decide +kernel
theorem dX12_drop_91 : decode cX12_drop 91 = .ok (.ireturn, 1) := by decide +kernel
theorem dX12_times_0 : decode cX12_times 0 = .ok (.lconst 0, 1) := by decide +kernel
theorem dX12_times_1 : decode cX12_times 1 = .ok (.lstore_n 3, 1) := by decide +kernel
theorem dX12_times_2 : decode cX12_times 2 = .ok (.iconst 0, 1) := by decide +kernel
theorem dX12_times_3 : decode cX12_times 3 = .ok (.istore 5, 2) := by decide +kernel
theorem dX12_times_5 : decode cX12_times 5 = .ok (.iload 5, 2) := by decide +kernel
theorem dX12_times_7 : decode cX12_times 7 = .ok (.sipush 330, 3) := by decide +kernel
theorem dX12_times_10 : decode cX12_times 10 = .ok (.if_icmp .ge 49, 3) := by decide +kernel
theorem dX12_times_13 : decode cX12_times 13 = .ok (.aload_n 0, 1) := by decide +kernel
theorem dX12_times_14 : decode cX12_times 14 = .ok (.getfield 91, 3) := by decide +kernel
theorem dX12_times_17 : decode cX12_times 17 = .ok (.iload_n 1, 1) := by decide +kernel
theorem dX12_times_18 : decode cX12_times 18 = .ok (.aaload, 1) := by decide +kernel
theorem dX12_times_19 : decode cX12_times 19 = .ok (.iload 5, 2) := by decide +kernel
theorem dX12_times_21 : decode cX12_times 21 = .ok (.iaload, 1) := by decide +kernel
theorem dX12_times_22 : decode cX12_times 22 = .ok (.i2l, 1) := by decide +kernel
theorem dX12_times_23 : decode cX12_times 23 = .ok (.iload_n 2, 1) := by decide +kernel
theorem dX12_times_24 : decode cX12_times 24 = .ok (.i2l, 1) := by decide +kernel
theorem dX12_times_25 : decode cX12_times 25 = .ok (.lmul, 1) := by decide +kernel
theorem dX12_times_26 : decode cX12_times 26 = .ok (.lload_n 3, 1) := by decide +kernel
theorem dX12_times_27 : decode cX12_times 27 = .ok (.ladd, 1) := by decide +kernel
theorem dX12_times_28 : decode cX12_times 28 = .ok (.lstore 6, 2) := by decide +kernel
theorem dX12_times_30 : decode cX12_times 30 = .ok (.aload_n 0, 1) := by decide +kernel
theorem dX12_times_31 : decode cX12_times 31 = .ok (.getfield 91, 3) := by decide +kernel
theorem dX12_times_34 : decode cX12_times 34 = .ok (.iload_n 1, 1) := by decide +kernel
theorem dX12_times_35 : decode cX12_times 35 = .ok (.aaload, 1) := by decide +kernel
theorem dX12_times_36 : decode cX12_times 36 = .ok (.iload 5, 2) := by decide +kernel
theorem dX12_times_38 : decode cX12_times 38 = .ok (.lload 6, 2) := by decide +kernel
theorem dX12_times_40 : decode cX12_times 40 = .ok (.ldc2_w 253, 3) := by decide +kernel
theorem dX12_times_43 : decode cX12_times 43 = .ok (.lrem, 1) := by decide +kernel
theorem dX12_times_44 : decode cX12_times 44 = .ok (.l2i, 1) := by decide +kernel
theorem dX12_times_45 : decode cX12_times 45 = .ok (.iastore, 1) := by decide +kernel
theorem dX12_times_46 : decode cX12_times 46 = .ok (.lload 6, 2) := by decide +kernel
theorem dX12_times_48 : decode cX12_times 48 = .ok (.ldc2_w 253, 3) := by decide +kernel
theorem dX12_times_51 : decode cX12_times 51 = .ok (.ldiv, 1) := by decide +kernel
theorem dX12_times_52 : decode cX12_times 52 = .ok (.lstore_n 3, 1) := by decide +kernel
theorem dX12_times_53 : decode cX12_times 53 = .ok (.iinc 5 1, 3) := by decide +kernel
theorem dX12_times_56 : decode cX12_times 56 = .ok (.goto (-51), 3) := by decide +kernel
theorem dX12_times_59 : decode cX12_times 59 = .ok (.return_, 1) := by decide +kernel
theorem dX12_parts_0 : decode cX12_parts 0 = .ok (.iconst 0, 1) := by decide +kernel
theorem dX12_parts_1 : decode cX12_parts 1 = .ok (.istore_n 3, 1) := by decide +kernel
theorem dX12_parts_2 : decode cX12_parts 2 = .ok (.sipush 329, 3) := by decide +kernel
theorem dX12_parts_5 : decode cX12_parts 5 = .ok (.istore 4, 2) := by decide +kernel
theorem dX12_parts_7 : decode cX12_parts 7 = .ok (.iload 4, 2) := by decide +kernel
theorem dX12_parts_9 : decode cX12_parts 9 = .ok (.ifCond .lt 44, 3) := by decide +kernel
theorem dX12_parts_12 : decode cX12_parts 12 = .ok (.iload_n 3, 1) := by decide +kernel
theorem dX12_parts_13 : decode cX12_parts 13 = .ok (.sipush 10000, 3) := by decide +kernel
theorem dX12_parts_16 : decode cX12_parts 16 = .ok (.imul, 1) := by decide +kernel
theorem dX12_parts_17 : decode cX12_parts 17 = .ok (.aload_n 0, 1) := by decide +kernel
theorem dX12_parts_18 : decode cX12_parts 18 = .ok (.getfield 91, 3) := by decide +kernel
theorem dX12_parts_21 : decode cX12_parts 21 = .ok (.iload_n 1, 1) := by decide +kernel
theorem dX12_parts_22 : decode cX12_parts 22 = .ok (.aaload, 1) := by decide +kernel
theorem dX12_parts_23 : decode cX12_parts 23 = .ok (.iload 4, 2) := by decide +kernel
theorem dX12_parts_25 : decode cX12_parts 25 = .ok (.iaload, 1) := by decide +kernel
theorem dX12_parts_26 : decode cX12_parts 26 = .ok (.iadd, 1) := by decide +kernel
theorem dX12_parts_27 : decode cX12_parts 27 = .ok (.istore 5, 2) := by decide +kernel
theorem dX12_parts_29 : decode cX12_parts 29 = .ok (.aload_n 0, 1) := by decide +kernel
theorem dX12_parts_30 : decode cX12_parts 30 = .ok (.getfield 91, 3) := by decide +kernel
theorem dX12_parts_33 : decode cX12_parts 33 = .ok (.iload_n 1, 1) := by decide +kernel
theorem dX12_parts_34 : decode cX12_parts 34 = .ok (.aaload, 1) := by decide +kernel
theorem dX12_parts_35 : decode cX12_parts 35 = .ok (.iload 4, 2) := by decide +kernel
theorem dX12_parts_37 : decode cX12_parts 37 = .ok (.iload 5, 2) := by decide +kernel
theorem dX12_parts_39 : decode cX12_parts 39 = .ok (.iload_n 2, 1) := by decide +kernel
theorem dX12_parts_40 : decode cX12_parts 40 = .ok (.idiv, 1) := by decide +kernel
theorem dX12_parts_41 : decode cX12_parts 41 = .ok (.iastore, 1) := by decide +kernel
theorem dX12_parts_42 : decode cX12_parts 42 = .ok (.iload 5, 2) := by decide +kernel
theorem dX12_parts_44 : decode cX12_parts 44 = .ok (.iload_n 2, 1) := by decide +kernel
theorem dX12_parts_45 : decode cX12_parts 45 = .ok (.irem, 1) := by decide +kernel
theorem dX12_parts_46 : decode cX12_parts 46 = .ok (.istore_n 3, 1) := by decide +kernel
theorem dX12_parts_47 : decode cX12_parts 47 = .ok (.iinc 4 (-1), 3) := by decide +kernel
theorem dX12_parts_50 : decode cX12_parts 50 = .ok (.goto (-43), 3) := by decide +kernel
theorem dX12_parts_53 : decode cX12_parts 53 = .ok (.return_, 1) := by decide +kernel
theorem dX12_countsIn_0 : decode cX12_countsIn 0 = .ok (.aload_n 0, 1) := by decide +kernel
theorem dX12_countsIn_1 : decode cX12_countsIn 1 = .ok (.dup, 1) := by decide +kernel
theorem dX12_countsIn_2 : decode cX12_countsIn 2 = .ok (.getfield 255, 3) := by decide +kernel
theorem dX12_countsIn_5 : decode cX12_countsIn 5 = .ok (.iload_n 3, 1) := by decide +kernel
theorem dX12_countsIn_6 : decode cX12_countsIn 6 = .ok (.iadd, 1) := by decide +kernel
theorem dX12_countsIn_7 : decode cX12_countsIn 7 = .ok (.putfield 255, 3) := by decide +kernel
theorem dX12_countsIn_10 : decode cX12_countsIn 10 = .ok (.iload_n 2, 1) := by decide +kernel
theorem dX12_countsIn_11 : decode cX12_countsIn 11 = .ok (.iload_n 3, 1) := by decide +kernel
theorem dX12_countsIn_12 : decode cX12_countsIn 12 = .ok (.if_icmp .le 10, 3) := by decide +kernel
theorem dX12_countsIn_15 : decode cX12_countsIn 15 = .ok (.aload_n 0, 1) := by decide +kernel
theorem dX12_countsIn_16 : decode cX12_countsIn 16 = .ok (.iload_n 1, 1) := by decide +kernel
theorem dX12_countsIn_17 : decode cX12_countsIn 17 = .ok (.iconst 0, 1) := by decide +kernel
theorem dX12_countsIn_18 : decode cX12_countsIn 18 = .ok (.invokevirtual 258, 3) := by decide +kernel
theorem dX12_countsIn_21 : decode cX12_countsIn 21 = .ok (.return_, 1) := by decide +kernel
theorem dX12_countsIn_22 : decode cX12_countsIn 22 = .ok (.iconst 0, 1) := by decide +kernel
theorem dX12_countsIn_23 : decode cX12_countsIn 23 = .ok (.istore 4, 2) := by decide +kernel
theorem dX12_countsIn_25 : decode cX12_countsIn 25 = .ok (.iload 4, 2) := by decide +kernel
theorem dX12_countsIn_27 : decode cX12_countsIn 27 = .ok (.iload_n 2, 1) := by decide +kernel
theorem dX12_countsIn_28 : decode cX12_countsIn 28 = .ok (.if_icmp .ge 27, 3) := by decide +kernel
theorem dX12_countsIn_31 : decode cX12_countsIn 31 = .ok (.aload_n 0, 1) := by decide +kernel
theorem dX12_countsIn_32 : decode cX12_countsIn 32 = .ok (.iload_n 1, 1) := by decide +kernel
theorem dX12_countsIn_33 : decode cX12_countsIn 33 = .ok (.iload_n 3, 1) := by decide +kernel
theorem dX12_countsIn_34 : decode cX12_countsIn 34 = .ok (.iload 4, 2) := by decide +kernel
theorem dX12_countsIn_36 : decode cX12_countsIn 36 = .ok (.isub, 1) := by decide +kernel
theorem dX12_countsIn_37 : decode cX12_countsIn 37 = .ok (.invokevirtual 258, 3) := by decide +kernel
theorem dX12_countsIn_40 : decode cX12_countsIn 40 = .ok (.aload_n 0, 1) := by decide +kernel
theorem dX12_countsIn_41 : decode cX12_countsIn 41 = .ok (.iload_n 1, 1) := by decide +kernel
theorem dX12_countsIn_42 : decode cX12_countsIn 42 = .ok (.iload 4, 2) := by decide +kernel
theorem dX12_countsIn_44 : decode cX12_countsIn 44 = .ok (.iconst 1, 1) := by decide +kernel
theorem dX12_countsIn_45 : decode cX12_countsIn 45 = .ok (.iadd, 1) := by decide +kernel
theorem dX12_countsIn_46 : decode cX12_countsIn 46 = .ok (.invokevirtual 261, 3) := by decide +kernel
theorem dX12_countsIn_49 : decode cX12_countsIn 49 = .ok (.iinc 4 1, 3) := by decide +kernel
theorem dX12_countsIn_52 : decode cX12_countsIn 52 = .ok (.goto (-27), 3) := by decide +kernel
theorem dX12_countsIn_55 : decode cX12_countsIn 55 = .ok (.iconst 0, 1) := by decide +kernel
theorem dX12_countsIn_56 : decode cX12_countsIn 56 = .ok (.istore 4, 2) := by decide +kernel
theorem dX12_countsIn_58 : decode cX12_countsIn 58 = .ok (.iload 4, 2) := by decide +kernel
theorem dX12_countsIn_60 : decode cX12_countsIn 60 = .ok (.iload_n 3, 1) := by decide +kernel
theorem dX12_countsIn_61 : decode cX12_countsIn 61 = .ok (.if_icmp .ge 34, 3) := by decide +kernel
theorem dX12_countsIn_64 : decode cX12_countsIn 64 = .ok (.aload_n 0, 1) := by decide +kernel
theorem dX12_countsIn_65 : decode cX12_countsIn 65 = .ok (.iload_n 1, 1) := by decide +kernel
theorem dX12_countsIn_66 : decode cX12_countsIn 66 = .ok (.iload 4, 2) := by decide +kernel
theorem dX12_countsIn_68 : decode cX12_countsIn 68 = .ok (.iload_n 2, 1) := by decide +kernel
theorem dX12_countsIn_69 : decode cX12_countsIn 69 = .ok (.if_icmp .ge 10, 3) := by decide +kernel
theorem dX12_countsIn_72 : decode cX12_countsIn 72 = .ok (.aload_n 0, 1) := by decide +kernel
theorem dX12_countsIn_73 : decode cX12_countsIn 73 = .ok (.getfield 17, 3) := by decide +kernel
theorem dX12_countsIn_76 : decode cX12_countsIn 76 = .ok (.goto 10, 3) := by decide +kernel
theorem dX12_countsIn_79 : decode cX12_countsIn 79 = .ok (.bipush 16, 2) := by decide +kernel
theorem dX12_countsIn_81 : decode cX12_countsIn 81 = .ok (.aload_n 0, 1) := by decide +kernel
theorem dX12_countsIn_82 : decode cX12_countsIn 82 = .ok (.getfield 17, 3) := by decide +kernel
theorem dX12_countsIn_85 : decode cX12_countsIn 85 = .ok (.isub, 1) := by decide +kernel
theorem dX12_countsIn_86 : decode cX12_countsIn 86 = .ok (.invokevirtual 258, 3) := by decide +kernel
theorem dX12_countsIn_89 : decode cX12_countsIn 89 = .ok (.iinc 4 1, 3) := by decide +kernel
theorem dX12_countsIn_92 : decode cX12_countsIn 92 = .ok (.goto (-34), 3) := by decide +kernel
theorem dX12_countsIn_95 : decode cX12_countsIn 95 = .ok (.return_, 1) := by decide +kernel
theorem dX12_numbers_0 : decode cX12_numbers 0 = .ok (.aload_n 0, 1) := by decide +kernel
theorem dX12_numbers_1 : decode cX12_numbers 1 = .ok (.iconst 0, 1) := by decide +kernel
theorem dX12_numbers_2 : decode cX12_numbers 2 = .ok (.putfield 255, 3) := by decide +kernel
theorem dX12_numbers_5 : decode cX12_numbers 5 = .ok (.iconst 0, 1) := by decide +kernel
theorem dX12_numbers_6 : decode cX12_numbers 6 = .ok (.istore 4, 2) := by decide +kernel
theorem dX12_numbers_8 : decode cX12_numbers 8 = .ok (.iload 4, 2) := by decide +kernel
theorem dX12_numbers_10 : decode cX12_numbers 10 = .ok (.sipush 330, 3) := by decide +kernel
theorem dX12_numbers_13 : decode cX12_numbers 13 = .ok (.if_icmp .ge 28, 3) := by decide +kernel
theorem dX12_numbers_16 : decode cX12_numbers 16 = .ok (.aload_n 0, 1) := by decide +kernel
theorem dX12_numbers_17 : decode cX12_numbers 17 = .ok (.getfield 91, 3) := by decide +kernel
theorem dX12_numbers_20 : decode cX12_numbers 20 = .ok (.iload_n 1, 1) := by decide +kernel
theorem dX12_numbers_21 : decode cX12_numbers 21 = .ok (.aaload, 1) := by decide +kernel
theorem dX12_numbers_22 : decode cX12_numbers 22 = .ok (.iload 4, 2) := by decide +kernel
theorem dX12_numbers_24 : decode cX12_numbers 24 = .ok (.iload 4, 2) := by decide +kernel
theorem dX12_numbers_26 : decode cX12_numbers 26 = .ok (.ifCond .ne 7, 3) := by decide +kernel
theorem dX12_numbers_29 : decode cX12_numbers 29 = .ok (.iconst 1, 1) := by decide +kernel
theorem dX12_numbers_30 : decode cX12_numbers 30 = .ok (.goto 4, 3) := by decide +kernel
theorem dX12_numbers_33 : decode cX12_numbers 33 = .ok (.iconst 0, 1) := by decide +kernel
theorem dX12_numbers_34 : decode cX12_numbers 34 = .ok (.iastore, 1) := by decide +kernel
theorem dX12_numbers_35 : decode cX12_numbers 35 = .ok (.iinc 4 1, 3) := by decide +kernel
theorem dX12_numbers_38 : decode cX12_numbers 38 = .ok (.goto (-30), 3) := by decide +kernel
theorem dX12_numbers_41 : decode cX12_numbers 41 = .ok (.iconst 0, 1) := by decide +kernel
theorem dX12_numbers_42 : decode cX12_numbers 42 = .ok (.istore 4, 2) := by decide +kernel
theorem dX12_numbers_44 : decode cX12_numbers 44 = .ok (.iload 4, 2) := by decide +kernel
theorem dX12_numbers_46 : decode cX12_numbers 46 = .ok (.aload_n 0, 1) := by decide +kernel
theorem dX12_numbers_47 : decode cX12_numbers 47 = .ok (.getfield 247, 3) := by decide +kernel
theorem dX12_numbers_50 : decode cX12_numbers 50 = .ok (.if_icmp .ge 73, 3) := by decide +kernel
theorem dX12_numbers_53 : decode cX12_numbers 53 = .ok (.iload_n 3, 1) := by decide +kernel
theorem dX12_numbers_54 : decode cX12_numbers 54 = .ok (.iconst (-1), 1) := by decide +kernel
theorem dX12_numbers_55 : decode cX12_numbers 55 = .ok (.if_icmp .eq 12, 3) := by decide +kernel
theorem dX12_numbers_58 : decode cX12_numbers 58 = .ok (.iload 4, 2) := by decide +kernel
theorem dX12_numbers_60 : decode cX12_numbers 60 = .ok (.iload_n 3, 1) := by decide +kernel
theorem dX12_numbers_61 : decode cX12_numbers 61 = .ok (.if_icmp .eq 6, 3) := by decide +kernel
theorem dX12_numbers_64 : decode cX12_numbers 64 = .ok (.goto 53, 3) := by decide +kernel
theorem dX12_numbers_67 : decode cX12_numbers 67 = .ok (.aload_n 0, 1) := by decide +kernel
theorem dX12_numbers_68 : decode cX12_numbers 68 = .ok (.iload_n 2, 1) := by decide +kernel
theorem dX12_numbers_69 : decode cX12_numbers 69 = .ok (.aload_n 0, 1) := by decide +kernel
theorem dX12_numbers_70 : decode cX12_numbers 70 = .ok (.getfield 55, 3) := by decide +kernel
theorem dX12_numbers_73 : decode cX12_numbers 73 = .ok (.iload 4, 2) := by decide +kernel
theorem dX12_numbers_75 : decode cX12_numbers 75 = .ok (.aaload, 1) := by decide +kernel
theorem dX12_numbers_76 : decode cX12_numbers 76 = .ok (.iconst 1, 1) := by decide +kernel
theorem dX12_numbers_77 : decode cX12_numbers 77 = .ok (.iaload, 1) := by decide +kernel
theorem dX12_numbers_78 : decode cX12_numbers 78 = .ok (.invokevirtual 241, 3) := by decide +kernel
theorem dX12_numbers_81 : decode cX12_numbers 81 = .ok (.aload_n 0, 1) := by decide +kernel
theorem dX12_numbers_82 : decode cX12_numbers 82 = .ok (.iload_n 1, 1) := by decide +kernel
theorem dX12_numbers_83 : decode cX12_numbers 83 = .ok (.aload_n 0, 1) := by decide +kernel
theorem dX12_numbers_84 : decode cX12_numbers 84 = .ok (.getfield 55, 3) := by decide +kernel
theorem dX12_numbers_87 : decode cX12_numbers 87 = .ok (.iload 4, 2) := by decide +kernel
theorem dX12_numbers_89 : decode cX12_numbers 89 = .ok (.aaload, 1) := by decide +kernel
theorem dX12_numbers_90 : decode cX12_numbers 90 = .ok (.iconst 3, 1) := by decide +kernel
theorem dX12_numbers_91 : decode cX12_numbers 91 = .ok (.iaload, 1) := by decide +kernel
theorem dX12_numbers_92 : decode cX12_numbers 92 = .ok (.aload_n 0, 1) := by decide +kernel
theorem dX12_numbers_93 : decode cX12_numbers 93 = .ok (.aload_n 0, 1) := by decide +kernel
theorem dX12_numbers_94 : decode cX12_numbers 94 = .ok (.getfield 55, 3) := by decide +kernel
theorem dX12_numbers_97 : decode cX12_numbers 97 = .ok (.iload 4, 2) := by decide +kernel
theorem dX12_numbers_99 : decode cX12_numbers 99 = .ok (.aaload, 1) := by decide +kernel
theorem dX12_numbers_100 : decode cX12_numbers 100 = .ok (.iconst 0, 1) := by decide +kernel
theorem dX12_numbers_101 : decode cX12_numbers 101 = .ok (.iaload, 1) := by decide +kernel
theorem dX12_numbers_102 : decode cX12_numbers 102 = .ok (.aload_n 0, 1) := by decide +kernel
theorem dX12_numbers_103 : decode cX12_numbers 103 = .ok (.getfield 55, 3) := by decide +kernel
theorem dX12_numbers_106 : decode cX12_numbers 106 = .ok (.iload 4, 2) := by decide +kernel
theorem dX12_numbers_108 : decode cX12_numbers 108 = .ok (.aaload, 1) := by decide +kernel
theorem dX12_numbers_109 : decode cX12_numbers 109 = .ok (.iconst 2, 1) := by decide +kernel
theorem dX12_numbers_110 : decode cX12_numbers 110 = .ok (.iaload, 1) := by decide +kernel
theorem dX12_numbers_111 : decode cX12_numbers 111 = .ok (.invokevirtual 244, 3) := by decide +kernel
theorem dX12_numbers_114 : decode cX12_numbers 114 = .ok (.invokevirtual 264, 3) := by decide +kernel
theorem dX12_numbers_117 : decode cX12_numbers 117 = .ok (.iinc 4 1, 3) := by decide +kernel
theorem dX12_numbers_120 : decode cX12_numbers 120 = .ok (.goto (-76), 3) := by decide +kernel
theorem dX12_numbers_123 : decode cX12_numbers 123 = .ok (.return_, 1) := by decide +kernel
theorem dX12_isNothing_0 : decode cX12_isNothing 0 = .ok (.iconst 0, 1) := by decide +kernel
theorem dX12_isNothing_1 : decode cX12_isNothing 1 = .ok (.istore_n 2, 1) := by decide +kernel
theorem dX12_isNothing_2 : decode cX12_isNothing 2 = .ok (.iload_n 2, 1) := by decide +kernel
theorem dX12_isNothing_3 : decode cX12_isNothing 3 = .ok (.sipush 330, 3) := by decide +kernel
theorem dX12_isNothing_6 : decode cX12_isNothing 6 = .ok (.if_icmp .ge 22, 3) := by decide +kernel
theorem dX12_isNothing_9 : decode cX12_isNothing 9 = .ok (.aload_n 0, 1) := by decide +kernel
theorem dX12_isNothing_10 : decode cX12_isNothing 10 = .ok (.getfield 91, 3) := by decide +kernel
theorem dX12_isNothing_13 : decode cX12_isNothing 13 = .ok (.iload_n 1, 1) := by decide +kernel
theorem dX12_isNothing_14 : decode cX12_isNothing 14 = .ok (.aaload, 1) := by decide +kernel
theorem dX12_isNothing_15 : decode cX12_isNothing 15 = .ok (.iload_n 2, 1) := by decide +kernel
theorem dX12_isNothing_16 : decode cX12_isNothing 16 = .ok (.iaload, 1) := by decide +kernel
theorem dX12_isNothing_17 : decode cX12_isNothing 17 = .ok (.ifCond .eq 5, 3) := by decide +kernel
theorem dX12_isNothing_20 : decode cX12_isNothing 20 = .ok (.iconst 0, 1) := by decide +kernel
theorem dX12_isNothing_21 : decode cX12_isNothing 21 = .ok (.ireturn, 1) := by decide +kernel
theorem dX12_isNothing_22 : decode cX12_isNothing 22 = .ok (.iinc 2 1, 3) := by decide +kernel
theorem dX12_isNothing_25 : decode cX12_isNothing 25 = .ok (.goto (-23), 3) := by decide +kernel
theorem dX12_isNothing_28 : decode cX12_isNothing 28 = .ok (.iconst 1, 1) := by decide +kernel
theorem dX12_isNothing_29 : decode cX12_isNothing 29 = .ok (.ireturn, 1) := by decide +kernel
theorem dX12_compare_0 : decode cX12_compare 0 = .ok (.sipush 329, 3) := by decide +kernel
theorem dX12_compare_3 : decode cX12_compare 3 = .ok (.istore_n 3, 1) := by decide +kernel
theorem dX12_compare_4 : decode cX12_compare 4 = .ok (.iload_n 3, 1) := by decide +kernel
theorem dX12_compare_5 : decode cX12_compare 5 = .ok (.ifCond .lt 53, 3) := by decide +kernel
theorem dX12_compare_8 : decode cX12_compare 8 = .ok (.aload_n 0, 1) := by decide +kernel
theorem dX12_compare_9 : decode cX12_compare 9 = .ok (.getfield 91, 3) := by decide +kernel
theorem dX12_compare_12 : decode cX12_compare 12 = .ok (.iload_n 1, 1) := by decide +kernel
theorem dX12_compare_13 : decode cX12_compare 13 = .ok (.aaload, 1) := by decide +kernel
theorem dX12_compare_14 : decode cX12_compare 14 = .ok (.iload_n 3, 1) := by decide +kernel
theorem dX12_compare_15 : decode cX12_compare 15 = .ok (.iaload, 1) := by decide +kernel
theorem dX12_compare_16 : decode cX12_compare 16 = .ok (.aload_n 0, 1) := by decide +kernel
theorem dX12_compare_17 : decode cX12_compare 17 = .ok (.getfield 91, 3) := by decide +kernel
theorem dX12_compare_20 : decode cX12_compare 20 = .ok (.iload_n 2, 1) := by decide +kernel
theorem dX12_compare_21 : decode cX12_compare 21 = .ok (.aaload, 1) := by decide +kernel
theorem dX12_compare_22 : decode cX12_compare 22 = .ok (.iload_n 3, 1) := by decide +kernel
theorem dX12_compare_23 : decode cX12_compare 23 = .ok (.iaload, 1) := by decide +kernel
theorem dX12_compare_24 : decode cX12_compare 24 = .ok (.if_icmp .eq 28, 3) := by decide +kernel
theorem dX12_compare_27 : decode cX12_compare 27 = .ok (.aload_n 0, 1) := by decide +kernel
theorem dX12_compare_28 : decode cX12_compare 28 = .ok (.getfield 91, 3) := by decide +kernel
theorem dX12_compare_31 : decode cX12_compare 31 = .ok (.iload_n 1, 1) := by decide +kernel
theorem dX12_compare_32 : decode cX12_compare 32 = .ok (.aaload, 1) := by decide +kernel
theorem dX12_compare_33 : decode cX12_compare 33 = .ok (.iload_n 3, 1) := by decide +kernel
theorem dX12_compare_34 : decode cX12_compare 34 = .ok (.iaload, 1) := by decide +kernel
theorem dX12_compare_35 : decode cX12_compare 35 = .ok (.aload_n 0, 1) := by decide +kernel
theorem dX12_compare_36 : decode cX12_compare 36 = .ok (.getfield 91, 3) := by decide +kernel
theorem dX12_compare_39 : decode cX12_compare 39 = .ok (.iload_n 2, 1) := by decide +kernel
theorem dX12_compare_40 : decode cX12_compare 40 = .ok (.aaload, 1) := by decide +kernel
theorem dX12_compare_41 : decode cX12_compare 41 = .ok (.iload_n 3, 1) := by decide +kernel
theorem dX12_compare_42 : decode cX12_compare 42 = .ok (.iaload, 1) := by decide +kernel
theorem dX12_compare_43 : decode cX12_compare 43 = .ok (.if_icmp .le 7, 3) := by decide +kernel
theorem dX12_compare_46 : decode cX12_compare 46 = .ok (.iconst 1, 1) := by decide +kernel
theorem dX12_compare_47 : decode cX12_compare 47 = .ok (.goto 4, 3) := by decide +kernel
theorem dX12_compare_50 : decode cX12_compare 50 = .ok (.iconst (-1), 1) := by decide +kernel
theorem dX12_compare_51 : decode cX12_compare 51 = .ok (.ireturn, 1) := by decide +kernel
theorem dX12_compare_52 : decode cX12_compare 52 = .ok (.iinc 3 (-1), 3) := by decide +kernel
theorem dX12_compare_55 : decode cX12_compare 55 = .ok (.goto (-51), 3) := by decide +kernel
theorem dX12_compare_58 : decode cX12_compare 58 = .ok (.iconst 0, 1) := by decide +kernel
theorem dX12_compare_59 : decode cX12_compare 59 = .ok (.ireturn, 1) := by decide +kernel
theorem dX12_levels_0 : decode cX12_levels 0 = .ok (.iconst 0, 1) := by decide +kernel
theorem dX12_levels_1 : decode cX12_levels 1 = .ok (.istore_n 3, 1) := by decide +kernel
theorem dX12_levels_2 : decode cX12_levels 2 = .ok (.iload_n 3, 1) := by decide +kernel
theorem dX12_levels_3 : decode cX12_levels 3 = .ok (.iload_n 2, 1) := by decide +kernel
theorem dX12_levels_4 : decode cX12_levels 4 = .ok (.if_icmp .ge 16, 3) := by decide +kernel
theorem dX12_levels_7 : decode cX12_levels 7 = .ok (.aload_n 0, 1) := by decide +kernel
theorem dX12_levels_8 : decode cX12_levels 8 = .ok (.iconst 0, 1) := by decide +kernel
theorem dX12_levels_9 : decode cX12_levels 9 = .ok (.bipush 16, 2) := by decide +kernel
theorem dX12_levels_11 : decode cX12_levels 11 = .ok (.invokevirtual 258, 3) := by decide +kernel
theorem dX12_levels_14 : decode cX12_levels 14 = .ok (.iinc 3 1, 3) := by decide +kernel
theorem dX12_levels_17 : decode cX12_levels 17 = .ok (.goto (-15), 3) := by decide +kernel
theorem dX12_levels_20 : decode cX12_levels 20 = .ok (.iconst 0, 1) := by decide +kernel
theorem dX12_levels_21 : decode cX12_levels 21 = .ok (.istore_n 3, 1) := by decide +kernel
theorem dX12_levels_22 : decode cX12_levels 22 = .ok (.iload_n 3, 1) := by decide +kernel
theorem dX12_levels_23 : decode cX12_levels 23 = .ok (.iload_n 1, 1) := by decide +kernel
theorem dX12_levels_24 : decode cX12_levels 24 = .ok (.if_icmp .ge 16, 3) := by decide +kernel
theorem dX12_levels_27 : decode cX12_levels 27 = .ok (.aload_n 0, 1) := by decide +kernel
theorem dX12_levels_28 : decode cX12_levels 28 = .ok (.iconst 1, 1) := by decide +kernel
theorem dX12_levels_29 : decode cX12_levels 29 = .ok (.bipush 16, 2) := by decide +kernel
theorem dX12_levels_31 : decode cX12_levels 31 = .ok (.invokevirtual 258, 3) := by decide +kernel
theorem dX12_levels_34 : decode cX12_levels 34 = .ok (.iinc 3 1, 3) := by decide +kernel
theorem dX12_levels_37 : decode cX12_levels 37 = .ok (.goto (-15), 3) := by decide +kernel
theorem dX12_levels_40 : decode cX12_levels 40 = .ok (.return_, 1) := by decide +kernel
theorem dX12_worthNow_0 : decode cX12_worthNow 0 = .ok (.aload_n 0, 1) := by decide +kernel
theorem dX12_worthNow_1 : decode cX12_worthNow 1 = .ok (.iconst 0, 1) := by decide +kernel
theorem dX12_worthNow_2 : decode cX12_worthNow 2 = .ok (.invokevirtual 268, 3) := by decide +kernel
theorem dX12_worthNow_5 : decode cX12_worthNow 5 = .ok (.ifCond .eq 5, 3) := by decide +kernel
theorem dX12_worthNow_8 : decode cX12_worthNow 8 = .ok (.iconst 0, 1) := by decide +kernel
theorem dX12_worthNow_9 : decode cX12_worthNow 9 = .ok (.ireturn, 1) := by decide +kernel
theorem dX12_worthNow_10 : decode cX12_worthNow 10 = .ok (.aload_n 0, 1) := by decide +kernel
theorem dX12_worthNow_11 : decode cX12_worthNow 11 = .ok (.iconst 1, 1) := by decide +kernel
theorem dX12_worthNow_12 : decode cX12_worthNow 12 = .ok (.invokevirtual 268, 3) := by decide +kernel
theorem dX12_worthNow_15 : decode cX12_worthNow 15 = .ok (.ifCond .eq 7, 3) := by decide +kernel
theorem dX12_worthNow_18 : decode cX12_worthNow 18 = .ok (.ldc_w 271, 3) := by decide +kernel
theorem dX12_worthNow_21 : decode cX12_worthNow 21 = .ok (.ireturn, 1) := by decide +kernel
theorem dX12_worthNow_22 : decode cX12_worthNow 22 = .ok (.iconst 0, 1) := by decide +kernel
theorem dX12_worthNow_23 : decode cX12_worthNow 23 = .ok (.istore_n 1, 1) := by decide +kernel
theorem dX12_worthNow_24 : decode cX12_worthNow 24 = .ok (.ldc_w 271, 3) := by decide +kernel
theorem dX12_worthNow_27 : decode cX12_worthNow 27 = .ok (.istore_n 2, 1) := by decide +kernel
theorem dX12_worthNow_28 : decode cX12_worthNow 28 = .ok (.iload_n 1, 1) := by decide +kernel
theorem dX12_worthNow_29 : decode cX12_worthNow 29 = .ok (.iload_n 2, 1) := by decide +kernel
theorem dX12_worthNow_30 : decode cX12_worthNow 30 = .ok (.if_icmp .ge 73, 3) := by decide +kernel
theorem dX12_worthNow_33 : decode cX12_worthNow 33 = .ok (.iload_n 1, 1) := by decide +kernel
theorem dX12_worthNow_34 : decode cX12_worthNow 34 = .ok (.iload_n 2, 1) := by decide +kernel
theorem dX12_worthNow_35 : decode cX12_worthNow 35 = .ok (.iadd, 1) := by decide +kernel
theorem dX12_worthNow_36 : decode cX12_worthNow 36 = .ok (.iconst 1, 1) := by decide +kernel
theorem dX12_worthNow_37 : decode cX12_worthNow 37 = .ok (.iadd, 1) := by decide +kernel
theorem dX12_worthNow_38 : decode cX12_worthNow 38 = .ok (.iconst 2, 1) := by decide +kernel
theorem dX12_worthNow_39 : decode cX12_worthNow 39 = .ok (.idiv, 1) := by decide +kernel
theorem dX12_worthNow_40 : decode cX12_worthNow 40 = .ok (.istore_n 3, 1) := by decide +kernel
theorem dX12_worthNow_41 : decode cX12_worthNow 41 = .ok (.iconst 0, 1) := by decide +kernel
theorem dX12_worthNow_42 : decode cX12_worthNow 42 = .ok (.istore 4, 2) := by decide +kernel
theorem dX12_worthNow_44 : decode cX12_worthNow 44 = .ok (.iload 4, 2) := by decide +kernel
theorem dX12_worthNow_46 : decode cX12_worthNow 46 = .ok (.sipush 330, 3) := by decide +kernel
theorem dX12_worthNow_49 : decode cX12_worthNow 49 = .ok (.if_icmp .ge 27, 3) := by decide +kernel
theorem dX12_worthNow_52 : decode cX12_worthNow 52 = .ok (.aload_n 0, 1) := by decide +kernel
theorem dX12_worthNow_53 : decode cX12_worthNow 53 = .ok (.getfield 91, 3) := by decide +kernel
theorem dX12_worthNow_56 : decode cX12_worthNow 56 = .ok (.iconst 2, 1) := by decide +kernel
theorem dX12_worthNow_57 : decode cX12_worthNow 57 = .ok (.aaload, 1) := by decide +kernel
theorem dX12_worthNow_58 : decode cX12_worthNow 58 = .ok (.iload 4, 2) := by decide +kernel
theorem dX12_worthNow_60 : decode cX12_worthNow 60 = .ok (.aload_n 0, 1) := by decide +kernel
theorem dX12_worthNow_61 : decode cX12_worthNow 61 = .ok (.getfield 91, 3) := by decide +kernel
theorem dX12_worthNow_64 : decode cX12_worthNow 64 = .ok (.iconst 1, 1) := by decide +kernel
theorem dX12_worthNow_65 : decode cX12_worthNow 65 = .ok (.aaload, 1) := by decide +kernel
theorem dX12_worthNow_66 : decode cX12_worthNow 66 = .ok (.iload 4, 2) := by decide +kernel
theorem dX12_worthNow_68 : decode cX12_worthNow 68 = .ok (.iaload, 1) := by decide +kernel
theorem dX12_worthNow_69 : decode cX12_worthNow 69 = .ok (.iastore, 1) := by decide +kernel
theorem dX12_worthNow_70 : decode cX12_worthNow 70 = .ok (.iinc 4 1, 3) := by decide +kernel
theorem dX12_worthNow_73 : decode cX12_worthNow 73 = .ok (.goto (-29), 3) := by decide +kernel
theorem dX12_worthNow_76 : decode cX12_worthNow 76 = .ok (.aload_n 0, 1) := by decide +kernel
theorem dX12_worthNow_77 : decode cX12_worthNow 77 = .ok (.iconst 2, 1) := by decide +kernel
theorem dX12_worthNow_78 : decode cX12_worthNow 78 = .ok (.iload_n 3, 1) := by decide +kernel
theorem dX12_worthNow_79 : decode cX12_worthNow 79 = .ok (.invokevirtual 258, 3) := by decide +kernel
theorem dX12_worthNow_82 : decode cX12_worthNow 82 = .ok (.aload_n 0, 1) := by decide +kernel
theorem dX12_worthNow_83 : decode cX12_worthNow 83 = .ok (.iconst 0, 1) := by decide +kernel
theorem dX12_worthNow_84 : decode cX12_worthNow 84 = .ok (.iconst 2, 1) := by decide +kernel
theorem dX12_worthNow_85 : decode cX12_worthNow 85 = .ok (.invokevirtual 272, 3) := by decide +kernel
theorem dX12_worthNow_88 : decode cX12_worthNow 88 = .ok (.ifCond .lt 8, 3) := by decide +kernel
theorem dX12_worthNow_91 : decode cX12_worthNow 91 = .ok (.iload_n 3, 1) := by decide +kernel
theorem dX12_worthNow_92 : decode cX12_worthNow 92 = .ok (.istore_n 1, 1) := by decide +kernel
theorem dX12_worthNow_93 : decode cX12_worthNow 93 = .ok (.goto 7, 3) := by decide +kernel
theorem dX12_worthNow_96 : decode cX12_worthNow 96 = .ok (.iload_n 3, 1) := by decide +kernel
theorem dX12_worthNow_97 : decode cX12_worthNow 97 = .ok (.iconst 1, 1) := by decide +kernel
theorem dX12_worthNow_98 : decode cX12_worthNow 98 = .ok (.isub, 1) := by decide +kernel
theorem dX12_worthNow_99 : decode cX12_worthNow 99 = .ok (.istore_n 2, 1) := by decide +kernel
theorem dX12_worthNow_100 : decode cX12_worthNow 100 = .ok (.goto (-72), 3) := by decide +kernel
theorem dX12_worthNow_103 : decode cX12_worthNow 103 = .ok (.iload_n 1, 1) := by decide +kernel
theorem dX12_worthNow_104 : decode cX12_worthNow 104 = .ok (.ireturn, 1) := by decide +kernel
theorem dX12_scale_0 : decode cX12_scale 0 = .ok (.aload_n 0, 1) := by decide +kernel
theorem dX12_scale_1 : decode cX12_scale 1 = .ok (.iconst 0, 1) := by decide +kernel
theorem dX12_scale_2 : decode cX12_scale 2 = .ok (.putfield 94, 3) := by decide +kernel
theorem dX12_scale_5 : decode cX12_scale 5 = .ok (.aload_n 0, 1) := by decide +kernel
theorem dX12_scale_6 : decode cX12_scale 6 = .ok (.aload_n 0, 1) := by decide +kernel
theorem dX12_scale_7 : decode cX12_scale 7 = .ok (.iload_n 1, 1) := by decide +kernel
theorem dX12_scale_8 : decode cX12_scale 8 = .ok (.invokevirtual 235, 3) := by decide +kernel
theorem dX12_scale_11 : decode cX12_scale 11 = .ok (.ifCond .ne 7, 3) := by decide +kernel
theorem dX12_scale_14 : decode cX12_scale 14 = .ok (.iconst 1, 1) := by decide +kernel
theorem dX12_scale_15 : decode cX12_scale 15 = .ok (.goto 4, 3) := by decide +kernel
theorem dX12_scale_18 : decode cX12_scale 18 = .ok (.iconst 0, 1) := by decide +kernel
theorem dX12_scale_19 : decode cX12_scale 19 = .ok (.iconst 1, 1) := by decide +kernel
theorem dX12_scale_20 : decode cX12_scale 20 = .ok (.invokevirtual 170, 3) := by decide +kernel
theorem dX12_scale_23 : decode cX12_scale 23 = .ok (.ifCond .eq 5, 3) := by decide +kernel
theorem dX12_scale_26 : decode cX12_scale 26 = .ok (.iconst 0, 1) := by decide +kernel
theorem dX12_scale_27 : decode cX12_scale 27 = .ok (.ireturn, 1) := by decide +kernel
theorem dX12_scale_28 : decode cX12_scale 28 = .ok (.aload_n 0, 1) := by decide +kernel
theorem dX12_scale_29 : decode cX12_scale 29 = .ok (.iconst 0, 1) := by decide +kernel
theorem dX12_scale_30 : decode cX12_scale 30 = .ok (.iload_n 1, 1) := by decide +kernel
theorem dX12_scale_31 : decode cX12_scale 31 = .ok (.iconst (-1), 1) := by decide +kernel
theorem dX12_scale_32 : decode cX12_scale 32 = .ok (.invokevirtual 275, 3) := by decide +kernel
theorem dX12_scale_35 : decode cX12_scale 35 = .ok (.aload_n 0, 1) := by decide +kernel
theorem dX12_scale_36 : decode cX12_scale 36 = .ok (.getfield 255, 3) := by decide +kernel
theorem dX12_scale_39 : decode cX12_scale 39 = .ok (.ireturn, 1) := by decide +kernel
theorem dX12_digitsNow_0 : decode cX12_digitsNow 0 = .ok (.sipush 329, 3) := by decide +kernel
theorem dX12_digitsNow_3 : decode cX12_digitsNow 3 = .ok (.istore_n 1, 1) := by decide +kernel
theorem dX12_digitsNow_4 : decode cX12_digitsNow 4 = .ok (.iload_n 1, 1) := by decide +kernel
theorem dX12_digitsNow_5 : decode cX12_digitsNow 5 = .ok (.ifCond .le 20, 3) := by decide +kernel
theorem dX12_digitsNow_8 : decode cX12_digitsNow 8 = .ok (.aload_n 0, 1) := by decide +kernel
theorem dX12_digitsNow_9 : decode cX12_digitsNow 9 = .ok (.getfield 91, 3) := by decide +kernel
theorem dX12_digitsNow_12 : decode cX12_digitsNow 12 = .ok (.iconst 0, 1) := by decide +kernel
theorem dX12_digitsNow_13 : decode cX12_digitsNow 13 = .ok (.aaload, 1) := by decide +kernel
theorem dX12_digitsNow_14 : decode cX12_digitsNow 14 = .ok (.iload_n 1, 1) := by decide +kernel
theorem dX12_digitsNow_15 : decode cX12_digitsNow 15 = .ok (.iaload, 1) := by decide +kernel
theorem dX12_digitsNow_16 : decode cX12_digitsNow 16 = .ok (.ifCond .ne 9, 3) := by decide +kernel
theorem dX12_digitsNow_19 : decode cX12_digitsNow 19 = .ok (.iinc 1 (-1), 3) := by decide +kernel
theorem dX12_digitsNow_22 : decode cX12_digitsNow 22 = .ok (.goto (-18), 3) := by decide +kernel
theorem dX12_digitsNow_25 : decode cX12_digitsNow 25 = .ok (.iconst 4, 1) := by decide +kernel
theorem dX12_digitsNow_26 : decode cX12_digitsNow 26 = .ok (.iload_n 1, 1) := by decide +kernel
theorem dX12_digitsNow_27 : decode cX12_digitsNow 27 = .ok (.imul, 1) := by decide +kernel
theorem dX12_digitsNow_28 : decode cX12_digitsNow 28 = .ok (.iconst 1, 1) := by decide +kernel
theorem dX12_digitsNow_29 : decode cX12_digitsNow 29 = .ok (.iadd, 1) := by decide +kernel
theorem dX12_digitsNow_30 : decode cX12_digitsNow 30 = .ok (.istore_n 2, 1) := by decide +kernel
theorem dX12_digitsNow_31 : decode cX12_digitsNow 31 = .ok (.aload_n 0, 1) := by decide +kernel
theorem dX12_digitsNow_32 : decode cX12_digitsNow 32 = .ok (.getfield 91, 3) := by decide +kernel
theorem dX12_digitsNow_35 : decode cX12_digitsNow 35 = .ok (.iconst 0, 1) := by decide +kernel
theorem dX12_digitsNow_36 : decode cX12_digitsNow 36 = .ok (.aaload, 1) := by decide +kernel
theorem dX12_digitsNow_37 : decode cX12_digitsNow 37 = .ok (.iload_n 1, 1) := by decide +kernel
theorem dX12_digitsNow_38 : decode cX12_digitsNow 38 = .ok (.iaload, 1) := by decide +kernel
theorem dX12_digitsNow_39 : decode cX12_digitsNow 39 = .ok (.bipush 10, 2) := by decide +kernel
theorem dX12_digitsNow_41 : decode cX12_digitsNow 41 = .ok (.idiv, 1) := by decide +kernel
theorem dX12_digitsNow_42 : decode cX12_digitsNow 42 = .ok (.istore_n 3, 1) := by decide +kernel
theorem dX12_digitsNow_43 : decode cX12_digitsNow 43 = .ok (.iload_n 3, 1) := by decide +kernel
theorem dX12_digitsNow_44 : decode cX12_digitsNow 44 = .ok (.ifCond .le 14, 3) := by decide +kernel
theorem dX12_digitsNow_47 : decode cX12_digitsNow 47 = .ok (.iinc 2 1, 3) := by decide +kernel
theorem dX12_digitsNow_50 : decode cX12_digitsNow 50 = .ok (.iload_n 3, 1) := by decide +kernel
theorem dX12_digitsNow_51 : decode cX12_digitsNow 51 = .ok (.bipush 10, 2) := by decide +kernel
theorem dX12_digitsNow_53 : decode cX12_digitsNow 53 = .ok (.idiv, 1) := by decide +kernel
theorem dX12_digitsNow_54 : decode cX12_digitsNow 54 = .ok (.istore_n 3, 1) := by decide +kernel
theorem dX12_digitsNow_55 : decode cX12_digitsNow 55 = .ok (.goto (-12), 3) := by decide +kernel
theorem dX12_digitsNow_58 : decode cX12_digitsNow 58 = .ok (.iload_n 2, 1) := by decide +kernel
theorem dX12_digitsNow_59 : decode cX12_digitsNow 59 = .ok (.ireturn, 1) := by decide +kernel
theorem dX12_digits_0 : decode cX12_digits 0 = .ok (.aload_n 0, 1) := by decide +kernel
theorem dX12_digits_1 : decode cX12_digits 1 = .ok (.iconst 0, 1) := by decide +kernel
theorem dX12_digits_2 : decode cX12_digits 2 = .ok (.putfield 94, 3) := by decide +kernel
theorem dX12_digits_5 : decode cX12_digits 5 = .ok (.aload_n 0, 1) := by decide +kernel
theorem dX12_digits_6 : decode cX12_digits 6 = .ok (.aload_n 0, 1) := by decide +kernel
theorem dX12_digits_7 : decode cX12_digits 7 = .ok (.iload_n 1, 1) := by decide +kernel
theorem dX12_digits_8 : decode cX12_digits 8 = .ok (.invokevirtual 235, 3) := by decide +kernel
theorem dX12_digits_11 : decode cX12_digits 11 = .ok (.ifCond .ne 7, 3) := by decide +kernel
theorem dX12_digits_14 : decode cX12_digits 14 = .ok (.iconst 1, 1) := by decide +kernel
theorem dX12_digits_15 : decode cX12_digits 15 = .ok (.goto 4, 3) := by decide +kernel
theorem dX12_digits_18 : decode cX12_digits 18 = .ok (.iconst 0, 1) := by decide +kernel
theorem dX12_digits_19 : decode cX12_digits 19 = .ok (.iconst 1, 1) := by decide +kernel
theorem dX12_digits_20 : decode cX12_digits 20 = .ok (.invokevirtual 170, 3) := by decide +kernel
theorem dX12_digits_23 : decode cX12_digits 23 = .ok (.ifCond .eq 5, 3) := by decide +kernel
theorem dX12_digits_26 : decode cX12_digits 26 = .ok (.iconst 0, 1) := by decide +kernel
theorem dX12_digits_27 : decode cX12_digits 27 = .ok (.ireturn, 1) := by decide +kernel
theorem dX12_digits_28 : decode cX12_digits 28 = .ok (.aload_n 0, 1) := by decide +kernel
theorem dX12_digits_29 : decode cX12_digits 29 = .ok (.iconst 0, 1) := by decide +kernel
theorem dX12_digits_30 : decode cX12_digits 30 = .ok (.iload_n 1, 1) := by decide +kernel
theorem dX12_digits_31 : decode cX12_digits 31 = .ok (.iconst (-1), 1) := by decide +kernel
theorem dX12_digits_32 : decode cX12_digits 32 = .ok (.invokevirtual 275, 3) := by decide +kernel
theorem dX12_digits_35 : decode cX12_digits 35 = .ok (.aload_n 0, 1) := by decide +kernel
theorem dX12_digits_36 : decode cX12_digits 36 = .ok (.invokevirtual 278, 3) := by decide +kernel
theorem dX12_digits_39 : decode cX12_digits 39 = .ok (.ireturn, 1) := by decide +kernel
theorem dX12_digit_0 : decode cX12_digit 0 = .ok (.aload_n 0, 1) := by decide +kernel
theorem dX12_digit_1 : decode cX12_digit 1 = .ok (.iconst 0, 1) := by decide +kernel
theorem dX12_digit_2 : decode cX12_digit 2 = .ok (.putfield 94, 3) := by decide +kernel
theorem dX12_digit_5 : decode cX12_digit 5 = .ok (.aload_n 0, 1) := by decide +kernel
theorem dX12_digit_6 : decode cX12_digit 6 = .ok (.aload_n 0, 1) := by decide +kernel
theorem dX12_digit_7 : decode cX12_digit 7 = .ok (.iload_n 1, 1) := by decide +kernel
theorem dX12_digit_8 : decode cX12_digit 8 = .ok (.invokevirtual 235, 3) := by decide +kernel
theorem dX12_digit_11 : decode cX12_digit 11 = .ok (.ifCond .ne 7, 3) := by decide +kernel
theorem dX12_digit_14 : decode cX12_digit 14 = .ok (.iconst 1, 1) := by decide +kernel
theorem dX12_digit_15 : decode cX12_digit 15 = .ok (.goto 4, 3) := by decide +kernel
theorem dX12_digit_18 : decode cX12_digit 18 = .ok (.iconst 0, 1) := by decide +kernel
theorem dX12_digit_19 : decode cX12_digit 19 = .ok (.iconst 1, 1) := by decide +kernel
theorem dX12_digit_20 : decode cX12_digit 20 = .ok (.invokevirtual 170, 3) := by decide +kernel
theorem dX12_digit_23 : decode cX12_digit 23 = .ok (.ifCond .eq 5, 3) := by decide +kernel
theorem dX12_digit_26 : decode cX12_digit 26 = .ok (.iconst 0, 1) := by decide +kernel
theorem dX12_digit_27 : decode cX12_digit 27 = .ok (.ireturn, 1) := by decide +kernel
theorem dX12_digit_28 : decode cX12_digit 28 = .ok (.aload_n 0, 1) := by decide +kernel
theorem dX12_digit_29 : decode cX12_digit 29 = .ok (.iconst 0, 1) := by decide +kernel
theorem dX12_digit_30 : decode cX12_digit 30 = .ok (.iload_n 1, 1) := by decide +kernel
theorem dX12_digit_31 : decode cX12_digit 31 = .ok (.iconst (-1), 1) := by decide +kernel
theorem dX12_digit_32 : decode cX12_digit 32 = .ok (.invokevirtual 275, 3) := by decide +kernel
theorem dX12_digit_35 : decode cX12_digit 35 = .ok (.iload_n 2, 1) := by decide +kernel
theorem dX12_digit_36 : decode cX12_digit 36 = .ok (.iconst 0, 1) := by decide +kernel
theorem dX12_digit_37 : decode cX12_digit 37 = .ok (.aload_n 0, 1) := by decide +kernel
theorem dX12_digit_38 : decode cX12_digit 38 = .ok (.invokevirtual 278, 3) := by decide +kernel
theorem dX12_digit_41 : decode cX12_digit 41 = .ok (.iconst 1, 1) := by decide +kernel
theorem dX12_digit_42 : decode cX12_digit 42 = .ok (.isub, 1) := by decide +kernel
theorem dX12_digit_43 : decode cX12_digit 43 = .ok (.invokestatic 128, 3) := by decide +kernel
theorem dX12_digit_46 : decode cX12_digit 46 = .ok (.ifCond .ne 5, 3) := by decide +kernel
theorem dX12_digit_49 : decode cX12_digit 49 = .ok (.iconst (-1), 1) := by decide +kernel
theorem dX12_digit_50 : decode cX12_digit 50 = .ok (.ireturn, 1) := by decide +kernel
theorem dX12_digit_51 : decode cX12_digit 51 = .ok (.aload_n 0, 1) := by decide +kernel
theorem dX12_digit_52 : decode cX12_digit 52 = .ok (.getfield 91, 3) := by decide +kernel
theorem dX12_digit_55 : decode cX12_digit 55 = .ok (.iconst 0, 1) := by decide +kernel
theorem dX12_digit_56 : decode cX12_digit 56 = .ok (.aaload, 1) := by decide +kernel
theorem dX12_digit_57 : decode cX12_digit 57 = .ok (.iload_n 2, 1) := by decide +kernel
theorem dX12_digit_58 : decode cX12_digit 58 = .ok (.iconst 4, 1) := by decide +kernel
theorem dX12_digit_59 : decode cX12_digit 59 = .ok (.idiv, 1) := by decide +kernel
theorem dX12_digit_60 : decode cX12_digit 60 = .ok (.iaload, 1) := by decide +kernel
theorem dX12_digit_61 : decode cX12_digit 61 = .ok (.istore_n 3, 1) := by decide +kernel
theorem dX12_digit_62 : decode cX12_digit 62 = .ok (.iconst 0, 1) := by decide +kernel
theorem dX12_digit_63 : decode cX12_digit 63 = .ok (.istore 4, 2) := by decide +kernel
theorem dX12_digit_65 : decode cX12_digit 65 = .ok (.iload 4, 2) := by decide +kernel
theorem dX12_digit_67 : decode cX12_digit 67 = .ok (.iload_n 2, 1) := by decide +kernel
theorem dX12_digit_68 : decode cX12_digit 68 = .ok (.iconst 4, 1) := by decide +kernel
theorem dX12_digit_69 : decode cX12_digit 69 = .ok (.irem, 1) := by decide +kernel
theorem dX12_digit_70 : decode cX12_digit 70 = .ok (.if_icmp .ge 14, 3) := by decide +kernel
theorem dX12_digit_73 : decode cX12_digit 73 = .ok (.iload_n 3, 1) := by decide +kernel
theorem dX12_digit_74 : decode cX12_digit 74 = .ok (.bipush 10, 2) := by decide +kernel
theorem dX12_digit_76 : decode cX12_digit 76 = .ok (.idiv, 1) := by decide +kernel
theorem dX12_digit_77 : decode cX12_digit 77 = .ok (.istore_n 3, 1) := by decide +kernel
theorem dX12_digit_78 : decode cX12_digit 78 = .ok (.iinc 4 1, 3) := by decide +kernel
theorem dX12_digit_81 : decode cX12_digit 81 = .ok (.goto (-16), 3) := by decide +kernel
theorem dX12_digit_84 : decode cX12_digit 84 = .ok (.iload_n 3, 1) := by decide +kernel
theorem dX12_digit_85 : decode cX12_digit 85 = .ok (.bipush 10, 2) := by decide +kernel
theorem dX12_digit_87 : decode cX12_digit 87 = .ok (.irem, 1) := by decide +kernel
theorem dX12_digit_88 : decode cX12_digit 88 = .ok (.ireturn, 1) := by decide +kernel
theorem dX12_two_0 : decode cX12_two 0 = .ok (.aload_n 0, 1) := by decide +kernel
theorem dX12_two_1 : decode cX12_two 1 = .ok (.iconst 0, 1) := by decide +kernel
theorem dX12_two_2 : decode cX12_two 2 = .ok (.iload_n 1, 1) := by decide +kernel
theorem dX12_two_3 : decode cX12_two 3 = .ok (.iload_n 3, 1) := by decide +kernel
theorem dX12_two_4 : decode cX12_two 4 = .ok (.invokevirtual 275, 3) := by decide +kernel
theorem dX12_two_7 : decode cX12_two 7 = .ok (.aload_n 0, 1) := by decide +kernel
theorem dX12_two_8 : decode cX12_two 8 = .ok (.getfield 255, 3) := by decide +kernel
theorem dX12_two_11 : decode cX12_two 11 = .ok (.istore 4, 2) := by decide +kernel
theorem dX12_two_13 : decode cX12_two 13 = .ok (.aload_n 0, 1) := by decide +kernel
theorem dX12_two_14 : decode cX12_two 14 = .ok (.iconst 1, 1) := by decide +kernel
theorem dX12_two_15 : decode cX12_two 15 = .ok (.iload_n 2, 1) := by decide +kernel
theorem dX12_two_16 : decode cX12_two 16 = .ok (.iload_n 3, 1) := by decide +kernel
theorem dX12_two_17 : decode cX12_two 17 = .ok (.invokevirtual 275, 3) := by decide +kernel
theorem dX12_two_20 : decode cX12_two 20 = .ok (.aload_n 0, 1) := by decide +kernel
theorem dX12_two_21 : decode cX12_two 21 = .ok (.iload 4, 2) := by decide +kernel
theorem dX12_two_23 : decode cX12_two 23 = .ok (.aload_n 0, 1) := by decide +kernel
theorem dX12_two_24 : decode cX12_two 24 = .ok (.getfield 255, 3) := by decide +kernel
theorem dX12_two_27 : decode cX12_two 27 = .ok (.invokevirtual 281, 3) := by decide +kernel
theorem dX12_two_30 : decode cX12_two 30 = .ok (.return_, 1) := by decide +kernel
theorem dX12_weighed_0 : decode cX12_weighed 0 = .ok (.aload_n 0, 1) := by decide +kernel
theorem dX12_weighed_1 : decode cX12_weighed 1 = .ok (.iconst 0, 1) := by decide +kernel
theorem dX12_weighed_2 : decode cX12_weighed 2 = .ok (.putfield 94, 3) := by decide +kernel
theorem dX12_weighed_5 : decode cX12_weighed 5 = .ok (.aload_n 0, 1) := by decide +kernel
theorem dX12_weighed_6 : decode cX12_weighed 6 = .ok (.aload_n 0, 1) := by decide +kernel
theorem dX12_weighed_7 : decode cX12_weighed 7 = .ok (.iload_n 1, 1) := by decide +kernel
theorem dX12_weighed_8 : decode cX12_weighed 8 = .ok (.invokevirtual 235, 3) := by decide +kernel
theorem dX12_weighed_11 : decode cX12_weighed 11 = .ok (.ifCond .eq 11, 3) := by decide +kernel
theorem dX12_weighed_14 : decode cX12_weighed 14 = .ok (.aload_n 0, 1) := by decide +kernel
theorem dX12_weighed_15 : decode cX12_weighed 15 = .ok (.iload_n 2, 1) := by decide +kernel
theorem dX12_weighed_16 : decode cX12_weighed 16 = .ok (.invokevirtual 235, 3) := by decide +kernel
theorem dX12_weighed_19 : decode cX12_weighed 19 = .ok (.ifCond .ne 7, 3) := by decide +kernel
theorem dX12_weighed_22 : decode cX12_weighed 22 = .ok (.iconst 1, 1) := by decide +kernel
theorem dX12_weighed_23 : decode cX12_weighed 23 = .ok (.goto 4, 3) := by decide +kernel
theorem dX12_weighed_26 : decode cX12_weighed 26 = .ok (.iconst 0, 1) := by decide +kernel
theorem dX12_weighed_27 : decode cX12_weighed 27 = .ok (.iconst 1, 1) := by decide +kernel
theorem dX12_weighed_28 : decode cX12_weighed 28 = .ok (.invokevirtual 170, 3) := by decide +kernel
theorem dX12_weighed_31 : decode cX12_weighed 31 = .ok (.ifCond .eq 5, 3) := by decide +kernel
theorem dX12_weighed_34 : decode cX12_weighed 34 = .ok (.iconst 0, 1) := by decide +kernel
theorem dX12_weighed_35 : decode cX12_weighed 35 = .ok (.ireturn, 1) := by decide +kernel
theorem dX12_weighed_36 : decode cX12_weighed 36 = .ok (.aload_n 0, 1) := by decide +kernel
theorem dX12_weighed_37 : decode cX12_weighed 37 = .ok (.iload_n 1, 1) := by decide +kernel
theorem dX12_weighed_38 : decode cX12_weighed 38 = .ok (.iload_n 2, 1) := by decide +kernel
theorem dX12_weighed_39 : decode cX12_weighed 39 = .ok (.iconst (-1), 1) := by decide +kernel
theorem dX12_weighed_40 : decode cX12_weighed 40 = .ok (.invokevirtual 284, 3) := by decide +kernel
theorem dX12_weighed_43 : decode cX12_weighed 43 = .ok (.aload_n 0, 1) := by decide +kernel
theorem dX12_weighed_44 : decode cX12_weighed 44 = .ok (.iconst 0, 1) := by decide +kernel
theorem dX12_weighed_45 : decode cX12_weighed 45 = .ok (.iconst 1, 1) := by decide +kernel
theorem dX12_weighed_46 : decode cX12_weighed 46 = .ok (.invokevirtual 272, 3) := by decide +kernel
theorem dX12_weighed_49 : decode cX12_weighed 49 = .ok (.ireturn, 1) := by decide +kernel
theorem dX12_worthOf_0 : decode cX12_worthOf 0 = .ok (.aload_n 0, 1) := by decide +kernel
theorem dX12_worthOf_1 : decode cX12_worthOf 1 = .ok (.iload_n 1, 1) := by decide +kernel
theorem dX12_worthOf_2 : decode cX12_worthOf 2 = .ok (.iload_n 2, 1) := by decide +kernel
theorem dX12_worthOf_3 : decode cX12_worthOf 3 = .ok (.iload_n 3, 1) := by decide +kernel
theorem dX12_worthOf_4 : decode cX12_worthOf 4 = .ok (.invokevirtual 284, 3) := by decide +kernel
theorem dX12_worthOf_7 : decode cX12_worthOf 7 = .ok (.aload_n 0, 1) := by decide +kernel
theorem dX12_worthOf_8 : decode cX12_worthOf 8 = .ok (.invokevirtual 287, 3) := by decide +kernel
theorem dX12_worthOf_11 : decode cX12_worthOf 11 = .ok (.ireturn, 1) := by decide +kernel
theorem dX12_worth_0 : decode cX12_worth 0 = .ok (.aload_n 0, 1) := by decide +kernel
theorem dX12_worth_1 : decode cX12_worth 1 = .ok (.iconst 0, 1) := by decide +kernel
theorem dX12_worth_2 : decode cX12_worth 2 = .ok (.putfield 94, 3) := by decide +kernel
theorem dX12_worth_5 : decode cX12_worth 5 = .ok (.aload_n 0, 1) := by decide +kernel
theorem dX12_worth_6 : decode cX12_worth 6 = .ok (.aload_n 0, 1) := by decide +kernel
theorem dX12_worth_7 : decode cX12_worth 7 = .ok (.iload_n 1, 1) := by decide +kernel
theorem dX12_worth_8 : decode cX12_worth 8 = .ok (.invokevirtual 235, 3) := by decide +kernel
theorem dX12_worth_11 : decode cX12_worth 11 = .ok (.ifCond .eq 11, 3) := by decide +kernel
theorem dX12_worth_14 : decode cX12_worth 14 = .ok (.aload_n 0, 1) := by decide +kernel
theorem dX12_worth_15 : decode cX12_worth 15 = .ok (.iload_n 2, 1) := by decide +kernel
theorem dX12_worth_16 : decode cX12_worth 16 = .ok (.invokevirtual 235, 3) := by decide +kernel
theorem dX12_worth_19 : decode cX12_worth 19 = .ok (.ifCond .ne 7, 3) := by decide +kernel
theorem dX12_worth_22 : decode cX12_worth 22 = .ok (.iconst 1, 1) := by decide +kernel
theorem dX12_worth_23 : decode cX12_worth 23 = .ok (.goto 4, 3) := by decide +kernel
theorem dX12_worth_26 : decode cX12_worth 26 = .ok (.iconst 0, 1) := by decide +kernel
theorem dX12_worth_27 : decode cX12_worth 27 = .ok (.iconst 1, 1) := by decide +kernel
theorem dX12_worth_28 : decode cX12_worth 28 = .ok (.invokevirtual 170, 3) := by decide +kernel
theorem dX12_worth_31 : decode cX12_worth 31 = .ok (.ifCond .eq 5, 3) := by decide +kernel
theorem dX12_worth_34 : decode cX12_worth 34 = .ok (.iconst 0, 1) := by decide +kernel
theorem dX12_worth_35 : decode cX12_worth 35 = .ok (.ireturn, 1) := by decide +kernel
theorem dX12_worth_36 : decode cX12_worth 36 = .ok (.aload_n 0, 1) := by decide +kernel
theorem dX12_worth_37 : decode cX12_worth 37 = .ok (.iload_n 1, 1) := by decide +kernel
theorem dX12_worth_38 : decode cX12_worth 38 = .ok (.iload_n 2, 1) := by decide +kernel
theorem dX12_worth_39 : decode cX12_worth 39 = .ok (.iconst (-1), 1) := by decide +kernel
theorem dX12_worth_40 : decode cX12_worth 40 = .ok (.invokevirtual 290, 3) := by decide +kernel
theorem dX12_worth_43 : decode cX12_worth 43 = .ok (.ireturn, 1) := by decide +kernel
theorem dX12_part_0 : decode cX12_part 0 = .ok (.aload_n 0, 1) := by decide +kernel
theorem dX12_part_1 : decode cX12_part 1 = .ok (.iconst 0, 1) := by decide +kernel
theorem dX12_part_2 : decode cX12_part 2 = .ok (.putfield 94, 3) := by decide +kernel
theorem dX12_part_5 : decode cX12_part 5 = .ok (.aload_n 0, 1) := by decide +kernel
theorem dX12_part_6 : decode cX12_part 6 = .ok (.aload_n 0, 1) := by decide +kernel
theorem dX12_part_7 : decode cX12_part 7 = .ok (.iload_n 1, 1) := by decide +kernel
theorem dX12_part_8 : decode cX12_part 8 = .ok (.invokevirtual 235, 3) := by decide +kernel
theorem dX12_part_11 : decode cX12_part 11 = .ok (.ifCond .eq 11, 3) := by decide +kernel
theorem dX12_part_14 : decode cX12_part 14 = .ok (.aload_n 0, 1) := by decide +kernel
theorem dX12_part_15 : decode cX12_part 15 = .ok (.iload_n 2, 1) := by decide +kernel
theorem dX12_part_16 : decode cX12_part 16 = .ok (.invokevirtual 235, 3) := by decide +kernel
theorem dX12_part_19 : decode cX12_part 19 = .ok (.ifCond .ne 7, 3) := by decide +kernel
theorem dX12_part_22 : decode cX12_part 22 = .ok (.iconst 1, 1) := by decide +kernel
theorem dX12_part_23 : decode cX12_part 23 = .ok (.goto 4, 3) := by decide +kernel
theorem dX12_part_26 : decode cX12_part 26 = .ok (.iconst 0, 1) := by decide +kernel
theorem dX12_part_27 : decode cX12_part 27 = .ok (.iconst 1, 1) := by decide +kernel
theorem dX12_part_28 : decode cX12_part 28 = .ok (.invokevirtual 170, 3) := by decide +kernel
theorem dX12_part_31 : decode cX12_part 31 = .ok (.ifCond .ne 24, 3) := by decide +kernel
theorem dX12_part_34 : decode cX12_part 34 = .ok (.aload_n 0, 1) := by decide +kernel
theorem dX12_part_35 : decode cX12_part 35 = .ok (.aload_n 0, 1) := by decide +kernel
theorem dX12_part_36 : decode cX12_part 36 = .ok (.iload_n 3, 1) := by decide +kernel
theorem dX12_part_37 : decode cX12_part 37 = .ok (.invokevirtual 250, 3) := by decide +kernel
theorem dX12_part_40 : decode cX12_part 40 = .ok (.ifCond .ne 7, 3) := by decide +kernel
theorem dX12_part_43 : decode cX12_part 43 = .ok (.iconst 1, 1) := by decide +kernel
theorem dX12_part_44 : decode cX12_part 44 = .ok (.goto 4, 3) := by decide +kernel
theorem dX12_part_47 : decode cX12_part 47 = .ok (.iconst 0, 1) := by decide +kernel
theorem dX12_part_48 : decode cX12_part 48 = .ok (.iconst 2, 1) := by decide +kernel
theorem dX12_part_49 : decode cX12_part 49 = .ok (.invokevirtual 170, 3) := by decide +kernel
theorem dX12_part_52 : decode cX12_part 52 = .ok (.ifCond .eq 5, 3) := by decide +kernel
theorem dX12_part_55 : decode cX12_part 55 = .ok (.iconst 0, 1) := by decide +kernel
theorem dX12_part_56 : decode cX12_part 56 = .ok (.ireturn, 1) := by decide +kernel
theorem dX12_part_57 : decode cX12_part 57 = .ok (.aload_n 0, 1) := by decide +kernel
theorem dX12_part_58 : decode cX12_part 58 = .ok (.iload_n 1, 1) := by decide +kernel
theorem dX12_part_59 : decode cX12_part 59 = .ok (.iload_n 2, 1) := by decide +kernel
theorem dX12_part_60 : decode cX12_part 60 = .ok (.iload_n 3, 1) := by decide +kernel
theorem dX12_part_61 : decode cX12_part 61 = .ok (.invokevirtual 290, 3) := by decide +kernel
theorem dX12_part_64 : decode cX12_part 64 = .ok (.ireturn, 1) := by decide +kernel
theorem dX12_events_0 : decode cX12_events 0 = .ok (.aload_n 0, 1) := by decide +kernel
theorem dX12_events_1 : decode cX12_events 1 = .ok (.iconst 0, 1) := by decide +kernel
theorem dX12_events_2 : decode cX12_events 2 = .ok (.putfield 94, 3) := by decide +kernel
theorem dX12_events_5 : decode cX12_events 5 = .ok (.aload_n 0, 1) := by decide +kernel
theorem dX12_events_6 : decode cX12_events 6 = .ok (.aload_n 0, 1) := by decide +kernel
theorem dX12_events_7 : decode cX12_events 7 = .ok (.iload_n 1, 1) := by decide +kernel
theorem dX12_events_8 : decode cX12_events 8 = .ok (.invokevirtual 235, 3) := by decide +kernel
theorem dX12_events_11 : decode cX12_events 11 = .ok (.ifCond .ne 7, 3) := by decide +kernel
theorem dX12_events_14 : decode cX12_events 14 = .ok (.iconst 1, 1) := by decide +kernel
theorem dX12_events_15 : decode cX12_events 15 = .ok (.goto 4, 3) := by decide +kernel
theorem dX12_events_18 : decode cX12_events 18 = .ok (.iconst 0, 1) := by decide +kernel
theorem dX12_events_19 : decode cX12_events 19 = .ok (.iconst 1, 1) := by decide +kernel
theorem dX12_events_20 : decode cX12_events 20 = .ok (.invokevirtual 170, 3) := by decide +kernel
theorem dX12_events_23 : decode cX12_events 23 = .ok (.ifCond .eq 5, 3) := by decide +kernel
theorem dX12_events_26 : decode cX12_events 26 = .ok (.iconst 0, 1) := by decide +kernel
theorem dX12_events_27 : decode cX12_events 27 = .ok (.ireturn, 1) := by decide +kernel
theorem dX12_events_28 : decode cX12_events 28 = .ok (.aload_n 0, 1) := by decide +kernel
theorem dX12_events_29 : decode cX12_events 29 = .ok (.getfield 46, 3) := by decide +kernel
theorem dX12_events_32 : decode cX12_events 32 = .ok (.iload_n 1, 1) := by decide +kernel
theorem dX12_events_33 : decode cX12_events 33 = .ok (.iaload, 1) := by decide +kernel
theorem dX12_events_34 : decode cX12_events 34 = .ok (.ireturn, 1) := by decide +kernel
theorem dX12_counts_0 : decode cX12_counts 0 = .ok (.aload_n 0, 1) := by decide +kernel
theorem dX12_counts_1 : decode cX12_counts 1 = .ok (.iconst 0, 1) := by decide +kernel
theorem dX12_counts_2 : decode cX12_counts 2 = .ok (.putfield 94, 3) := by decide +kernel
theorem dX12_counts_5 : decode cX12_counts 5 = .ok (.aload_n 0, 1) := by decide +kernel
theorem dX12_counts_6 : decode cX12_counts 6 = .ok (.aload_n 0, 1) := by decide +kernel
theorem dX12_counts_7 : decode cX12_counts 7 = .ok (.iload_n 1, 1) := by decide +kernel
theorem dX12_counts_8 : decode cX12_counts 8 = .ok (.invokevirtual 235, 3) := by decide +kernel
theorem dX12_counts_11 : decode cX12_counts 11 = .ok (.ifCond .ne 7, 3) := by decide +kernel
theorem dX12_counts_14 : decode cX12_counts 14 = .ok (.iconst 1, 1) := by decide +kernel
theorem dX12_counts_15 : decode cX12_counts 15 = .ok (.goto 4, 3) := by decide +kernel
theorem dX12_counts_18 : decode cX12_counts 18 = .ok (.iconst 0, 1) := by decide +kernel
theorem dX12_counts_19 : decode cX12_counts 19 = .ok (.iconst 1, 1) := by decide +kernel
theorem dX12_counts_20 : decode cX12_counts 20 = .ok (.invokevirtual 170, 3) := by decide +kernel
theorem dX12_counts_23 : decode cX12_counts 23 = .ok (.ifCond .ne 32, 3) := by decide +kernel
theorem dX12_counts_26 : decode cX12_counts 26 = .ok (.aload_n 0, 1) := by decide +kernel
theorem dX12_counts_27 : decode cX12_counts 27 = .ok (.iload_n 2, 1) := by decide +kernel
theorem dX12_counts_28 : decode cX12_counts 28 = .ok (.iconst 0, 1) := by decide +kernel
theorem dX12_counts_29 : decode cX12_counts 29 = .ok (.aload_n 0, 1) := by decide +kernel
theorem dX12_counts_30 : decode cX12_counts 30 = .ok (.getfield 46, 3) := by decide +kernel
theorem dX12_counts_33 : decode cX12_counts 33 = .ok (.iload_n 1, 1) := by decide +kernel
theorem dX12_counts_34 : decode cX12_counts 34 = .ok (.iaload, 1) := by decide +kernel
theorem dX12_counts_35 : decode cX12_counts 35 = .ok (.iconst 1, 1) := by decide +kernel
theorem dX12_counts_36 : decode cX12_counts 36 = .ok (.isub, 1) := by decide +kernel
theorem dX12_counts_37 : decode cX12_counts 37 = .ok (.invokestatic 128, 3) := by decide +kernel
theorem dX12_counts_40 : decode cX12_counts 40 = .ok (.ifCond .ne 7, 3) := by decide +kernel
theorem dX12_counts_43 : decode cX12_counts 43 = .ok (.iconst 1, 1) := by decide +kernel
theorem dX12_counts_44 : decode cX12_counts 44 = .ok (.goto 4, 3) := by decide +kernel
theorem dX12_counts_47 : decode cX12_counts 47 = .ok (.iconst 0, 1) := by decide +kernel
theorem dX12_counts_48 : decode cX12_counts 48 = .ok (.iconst 2, 1) := by decide +kernel
theorem dX12_counts_49 : decode cX12_counts 49 = .ok (.invokevirtual 170, 3) := by decide +kernel
theorem dX12_counts_52 : decode cX12_counts 52 = .ok (.ifCond .eq 5, 3) := by decide +kernel
theorem dX12_counts_55 : decode cX12_counts 55 = .ok (.iconst 0, 1) := by decide +kernel
theorem dX12_counts_56 : decode cX12_counts 56 = .ok (.ireturn, 1) := by decide +kernel
theorem dX12_counts_57 : decode cX12_counts 57 = .ok (.aload_n 0, 1) := by decide +kernel
theorem dX12_counts_58 : decode cX12_counts 58 = .ok (.iconst 0, 1) := by decide +kernel
theorem dX12_counts_59 : decode cX12_counts 59 = .ok (.iload_n 1, 1) := by decide +kernel
theorem dX12_counts_60 : decode cX12_counts 60 = .ok (.iconst (-1), 1) := by decide +kernel
theorem dX12_counts_61 : decode cX12_counts 61 = .ok (.invokevirtual 275, 3) := by decide +kernel
theorem dX12_counts_64 : decode cX12_counts 64 = .ok (.aload_n 0, 1) := by decide +kernel
theorem dX12_counts_65 : decode cX12_counts 65 = .ok (.getfield 255, 3) := by decide +kernel
theorem dX12_counts_68 : decode cX12_counts 68 = .ok (.istore_n 3, 1) := by decide +kernel
theorem dX12_counts_69 : decode cX12_counts 69 = .ok (.aload_n 0, 1) := by decide +kernel
theorem dX12_counts_70 : decode cX12_counts 70 = .ok (.iload_n 2, 1) := by decide +kernel
theorem dX12_counts_71 : decode cX12_counts 71 = .ok (.putfield 82, 3) := by decide +kernel
theorem dX12_counts_74 : decode cX12_counts 74 = .ok (.aload_n 0, 1) := by decide +kernel
theorem dX12_counts_75 : decode cX12_counts 75 = .ok (.iconst 1, 1) := by decide +kernel
theorem dX12_counts_76 : decode cX12_counts 76 = .ok (.iload_n 1, 1) := by decide +kernel
theorem dX12_counts_77 : decode cX12_counts 77 = .ok (.iconst (-1), 1) := by decide +kernel
theorem dX12_counts_78 : decode cX12_counts 78 = .ok (.invokevirtual 275, 3) := by decide +kernel
theorem dX12_counts_81 : decode cX12_counts 81 = .ok (.aload_n 0, 1) := by decide +kernel
theorem dX12_counts_82 : decode cX12_counts 82 = .ok (.invokevirtual 293, 3) := by decide +kernel
theorem dX12_counts_85 : decode cX12_counts 85 = .ok (.aload_n 0, 1) := by decide +kernel
theorem dX12_counts_86 : decode cX12_counts 86 = .ok (.iload_n 3, 1) := by decide +kernel
theorem dX12_counts_87 : decode cX12_counts 87 = .ok (.aload_n 0, 1) := by decide +kernel
theorem dX12_counts_88 : decode cX12_counts 88 = .ok (.getfield 255, 3) := by decide +kernel
theorem dX12_counts_91 : decode cX12_counts 91 = .ok (.invokevirtual 281, 3) := by decide +kernel
theorem dX12_counts_94 : decode cX12_counts 94 = .ok (.aload_n 0, 1) := by decide +kernel
theorem dX12_counts_95 : decode cX12_counts 95 = .ok (.invokevirtual 287, 3) := by decide +kernel
theorem dX12_counts_98 : decode cX12_counts 98 = .ok (.ireturn, 1) := by decide +kernel
theorem dX12_needed_0 : decode cX12_needed 0 = .ok (.aload_n 0, 1) := by decide +kernel
theorem dX12_needed_1 : decode cX12_needed 1 = .ok (.iconst 0, 1) := by decide +kernel
theorem dX12_needed_2 : decode cX12_needed 2 = .ok (.putfield 94, 3) := by decide +kernel
theorem dX12_needed_5 : decode cX12_needed 5 = .ok (.aload_n 0, 1) := by decide +kernel
theorem dX12_needed_6 : decode cX12_needed 6 = .ok (.aload_n 0, 1) := by decide +kernel
theorem dX12_needed_7 : decode cX12_needed 7 = .ok (.iload_n 1, 1) := by decide +kernel
theorem dX12_needed_8 : decode cX12_needed 8 = .ok (.invokevirtual 235, 3) := by decide +kernel
theorem dX12_needed_11 : decode cX12_needed 11 = .ok (.ifCond .ne 7, 3) := by decide +kernel
theorem dX12_needed_14 : decode cX12_needed 14 = .ok (.iconst 1, 1) := by decide +kernel
theorem dX12_needed_15 : decode cX12_needed 15 = .ok (.goto 4, 3) := by decide +kernel
theorem dX12_needed_18 : decode cX12_needed 18 = .ok (.iconst 0, 1) := by decide +kernel
theorem dX12_needed_19 : decode cX12_needed 19 = .ok (.iconst 1, 1) := by decide +kernel
theorem dX12_needed_20 : decode cX12_needed 20 = .ok (.invokevirtual 170, 3) := by decide +kernel
theorem dX12_needed_23 : decode cX12_needed 23 = .ok (.ifCond .eq 5, 3) := by decide +kernel
theorem dX12_needed_26 : decode cX12_needed 26 = .ok (.iconst 0, 1) := by decide +kernel
theorem dX12_needed_27 : decode cX12_needed 27 = .ok (.ireturn, 1) := by decide +kernel
theorem dX12_needed_28 : decode cX12_needed 28 = .ok (.aload_n 0, 1) := by decide +kernel
theorem dX12_needed_29 : decode cX12_needed 29 = .ok (.iconst 0, 1) := by decide +kernel
theorem dX12_needed_30 : decode cX12_needed 30 = .ok (.iload_n 1, 1) := by decide +kernel
theorem dX12_needed_31 : decode cX12_needed 31 = .ok (.iconst (-1), 1) := by decide +kernel
theorem dX12_needed_32 : decode cX12_needed 32 = .ok (.invokevirtual 275, 3) := by decide +kernel
theorem dX12_needed_35 : decode cX12_needed 35 = .ok (.aload_n 0, 1) := by decide +kernel
theorem dX12_needed_36 : decode cX12_needed 36 = .ok (.iconst 0, 1) := by decide +kernel
theorem dX12_needed_37 : decode cX12_needed 37 = .ok (.invokevirtual 268, 3) := by decide +kernel
theorem dX12_needed_40 : decode cX12_needed 40 = .ok (.ifCond .eq 5, 3) := by decide +kernel
theorem dX12_needed_43 : decode cX12_needed 43 = .ok (.iconst (-1), 1) := by decide +kernel
theorem dX12_needed_44 : decode cX12_needed 44 = .ok (.ireturn, 1) := by decide +kernel
theorem dX12_needed_45 : decode cX12_needed 45 = .ok (.iconst 0, 1) := by decide +kernel
theorem dX12_needed_46 : decode cX12_needed 46 = .ok (.istore_n 3, 1) := by decide +kernel
theorem dX12_needed_47 : decode cX12_needed 47 = .ok (.iconst 0, 1) := by decide +kernel
theorem dX12_needed_48 : decode cX12_needed 48 = .ok (.istore 4, 2) := by decide +kernel
theorem dX12_needed_50 : decode cX12_needed 50 = .ok (.iload 4, 2) := by decide +kernel
theorem dX12_needed_52 : decode cX12_needed 52 = .ok (.aload_n 0, 1) := by decide +kernel
theorem dX12_needed_53 : decode cX12_needed 53 = .ok (.getfield 46, 3) := by decide +kernel
theorem dX12_needed_56 : decode cX12_needed 56 = .ok (.iload_n 1, 1) := by decide +kernel
theorem dX12_needed_57 : decode cX12_needed 57 = .ok (.iaload, 1) := by decide +kernel
theorem dX12_needed_58 : decode cX12_needed 58 = .ok (.if_icmp .ge 48, 3) := by decide +kernel
theorem dX12_needed_61 : decode cX12_needed 61 = .ok (.aload_n 0, 1) := by decide +kernel
theorem dX12_needed_62 : decode cX12_needed 62 = .ok (.iload 4, 2) := by decide +kernel
theorem dX12_needed_64 : decode cX12_needed 64 = .ok (.putfield 82, 3) := by decide +kernel
theorem dX12_needed_67 : decode cX12_needed 67 = .ok (.aload_n 0, 1) := by decide +kernel
theorem dX12_needed_68 : decode cX12_needed 68 = .ok (.iconst 0, 1) := by decide +kernel
theorem dX12_needed_69 : decode cX12_needed 69 = .ok (.iload_n 1, 1) := by decide +kernel
theorem dX12_needed_70 : decode cX12_needed 70 = .ok (.iconst (-1), 1) := by decide +kernel
theorem dX12_needed_71 : decode cX12_needed 71 = .ok (.invokevirtual 275, 3) := by decide +kernel
theorem dX12_needed_74 : decode cX12_needed 74 = .ok (.aload_n 0, 1) := by decide +kernel
theorem dX12_needed_75 : decode cX12_needed 75 = .ok (.invokevirtual 293, 3) := by decide +kernel
theorem dX12_needed_78 : decode cX12_needed 78 = .ok (.aload_n 0, 1) := by decide +kernel
theorem dX12_needed_79 : decode cX12_needed 79 = .ok (.iconst 0, 1) := by decide +kernel
theorem dX12_needed_80 : decode cX12_needed 80 = .ok (.invokevirtual 268, 3) := by decide +kernel
theorem dX12_needed_83 : decode cX12_needed 83 = .ok (.ifCond .ne 6, 3) := by decide +kernel
theorem dX12_needed_86 : decode cX12_needed 86 = .ok (.goto 14, 3) := by decide +kernel
theorem dX12_needed_89 : decode cX12_needed 89 = .ok (.iload_n 3, 1) := by decide +kernel
theorem dX12_needed_90 : decode cX12_needed 90 = .ok (.iload_n 2, 1) := by decide +kernel
theorem dX12_needed_91 : decode cX12_needed 91 = .ok (.if_icmp .ne 6, 3) := by decide +kernel
theorem dX12_needed_94 : decode cX12_needed 94 = .ok (.iload 4, 2) := by decide +kernel
theorem dX12_needed_96 : decode cX12_needed 96 = .ok (.ireturn, 1) := by decide +kernel
theorem dX12_needed_97 : decode cX12_needed 97 = .ok (.iinc 3 1, 3) := by decide +kernel
theorem dX12_needed_100 : decode cX12_needed 100 = .ok (.iinc 4 1, 3) := by decide +kernel
theorem dX12_needed_103 : decode cX12_needed 103 = .ok (.goto (-53), 3) := by decide +kernel
theorem dX12_needed_106 : decode cX12_needed 106 = .ok (.iconst (-1), 1) := by decide +kernel
theorem dX12_needed_107 : decode cX12_needed 107 = .ok (.ireturn, 1) := by decide +kernel
theorem dX12_byWay_0 : decode cX12_byWay 0 = .ok (.aload_n 0, 1) := by decide +kernel
theorem dX12_byWay_1 : decode cX12_byWay 1 = .ok (.iconst 0, 1) := by decide +kernel
theorem dX12_byWay_2 : decode cX12_byWay 2 = .ok (.putfield 94, 3) := by decide +kernel
theorem dX12_byWay_5 : decode cX12_byWay 5 = .ok (.aload_n 0, 1) := by decide +kernel
theorem dX12_byWay_6 : decode cX12_byWay 6 = .ok (.aload_n 0, 1) := by decide +kernel
theorem dX12_byWay_7 : decode cX12_byWay 7 = .ok (.iload_n 1, 1) := by decide +kernel
theorem dX12_byWay_8 : decode cX12_byWay 8 = .ok (.invokevirtual 235, 3) := by decide +kernel
theorem dX12_byWay_11 : decode cX12_byWay 11 = .ok (.ifCond .ne 7, 3) := by decide +kernel
theorem dX12_byWay_14 : decode cX12_byWay 14 = .ok (.iconst 1, 1) := by decide +kernel
theorem dX12_byWay_15 : decode cX12_byWay 15 = .ok (.goto 4, 3) := by decide +kernel
theorem dX12_byWay_18 : decode cX12_byWay 18 = .ok (.iconst 0, 1) := by decide +kernel
theorem dX12_byWay_19 : decode cX12_byWay 19 = .ok (.iconst 1, 1) := by decide +kernel
theorem dX12_byWay_20 : decode cX12_byWay 20 = .ok (.invokevirtual 170, 3) := by decide +kernel
theorem dX12_byWay_23 : decode cX12_byWay 23 = .ok (.ifCond .ne 67, 3) := by decide +kernel
theorem dX12_byWay_26 : decode cX12_byWay 26 = .ok (.aload_n 0, 1) := by decide +kernel
theorem dX12_byWay_27 : decode cX12_byWay 27 = .ok (.iload_n 2, 1) := by decide +kernel
theorem dX12_byWay_28 : decode cX12_byWay 28 = .ok (.iload 5, 2) := by decide +kernel
theorem dX12_byWay_30 : decode cX12_byWay 30 = .ok (.iload 6, 2) := by decide +kernel
theorem dX12_byWay_32 : decode cX12_byWay 32 = .ok (.iconst 2, 1) := by decide +kernel
theorem dX12_byWay_33 : decode cX12_byWay 33 = .ok (.invokevirtual 238, 3) := by decide +kernel
theorem dX12_byWay_36 : decode cX12_byWay 36 = .ok (.ifCond .ne 54, 3) := by decide +kernel
theorem dX12_byWay_39 : decode cX12_byWay 39 = .ok (.aload_n 0, 1) := by decide +kernel
theorem dX12_byWay_40 : decode cX12_byWay 40 = .ok (.iload_n 3, 1) := by decide +kernel
theorem dX12_byWay_41 : decode cX12_byWay 41 = .ok (.iconst 0, 1) := by decide +kernel
theorem dX12_byWay_42 : decode cX12_byWay 42 = .ok (.bipush 9, 2) := by decide +kernel
theorem dX12_byWay_44 : decode cX12_byWay 44 = .ok (.invokestatic 128, 3) := by decide +kernel
theorem dX12_byWay_47 : decode cX12_byWay 47 = .ok (.ifCond .eq 31, 3) := by decide +kernel
theorem dX12_byWay_50 : decode cX12_byWay 50 = .ok (.iload 4, 2) := by decide +kernel
theorem dX12_byWay_52 : decode cX12_byWay 52 = .ok (.iconst 0, 1) := by decide +kernel
theorem dX12_byWay_53 : decode cX12_byWay 53 = .ok (.bipush 9, 2) := by decide +kernel
theorem dX12_byWay_55 : decode cX12_byWay 55 = .ok (.invokestatic 128, 3) := by decide +kernel
theorem dX12_byWay_58 : decode cX12_byWay 58 = .ok (.ifCond .eq 20, 3) := by decide +kernel
theorem dX12_byWay_61 : decode cX12_byWay 61 = .ok (.iload_n 2, 1) := by decide +kernel
theorem dX12_byWay_62 : decode cX12_byWay 62 = .ok (.iload_n 3, 1) := by decide +kernel
theorem dX12_byWay_63 : decode cX12_byWay 63 = .ok (.if_icmp .eq 15, 3) := by decide +kernel
theorem dX12_byWay_66 : decode cX12_byWay 66 = .ok (.iload_n 3, 1) := by decide +kernel
theorem dX12_byWay_67 : decode cX12_byWay 67 = .ok (.iload 4, 2) := by decide +kernel
theorem dX12_byWay_69 : decode cX12_byWay 69 = .ok (.if_icmp .eq 9, 3) := by decide +kernel
theorem dX12_byWay_72 : decode cX12_byWay 72 = .ok (.iload_n 2, 1) := by decide +kernel
theorem dX12_byWay_73 : decode cX12_byWay 73 = .ok (.iload 4, 2) := by decide +kernel
theorem dX12_byWay_75 : decode cX12_byWay 75 = .ok (.if_icmp .ne 7, 3) := by decide +kernel
theorem dX12_byWay_78 : decode cX12_byWay 78 = .ok (.iconst 1, 1) := by decide +kernel
theorem dX12_byWay_79 : decode cX12_byWay 79 = .ok (.goto 4, 3) := by decide +kernel
theorem dX12_byWay_82 : decode cX12_byWay 82 = .ok (.iconst 0, 1) := by decide +kernel
theorem dX12_byWay_83 : decode cX12_byWay 83 = .ok (.iconst 2, 1) := by decide +kernel
theorem dX12_byWay_84 : decode cX12_byWay 84 = .ok (.invokevirtual 170, 3) := by decide +kernel
theorem dX12_byWay_87 : decode cX12_byWay 87 = .ok (.ifCond .eq 5, 3) := by decide +kernel
theorem dX12_byWay_90 : decode cX12_byWay 90 = .ok (.iconst 0, 1) := by decide +kernel
theorem dX12_byWay_91 : decode cX12_byWay 91 = .ok (.ireturn, 1) := by decide +kernel
theorem dX12_byWay_92 : decode cX12_byWay 92 = .ok (.aload_n 0, 1) := by decide +kernel
theorem dX12_byWay_93 : decode cX12_byWay 93 = .ok (.iload_n 2, 1) := by decide +kernel
theorem dX12_byWay_94 : decode cX12_byWay 94 = .ok (.putfield 88, 3) := by decide +kernel
theorem dX12_byWay_97 : decode cX12_byWay 97 = .ok (.aload_n 0, 1) := by decide +kernel
theorem dX12_byWay_98 : decode cX12_byWay 98 = .ok (.iload_n 3, 1) := by decide +kernel
theorem dX12_byWay_99 : decode cX12_byWay 99 = .ok (.putfield 212, 3) := by decide +kernel
theorem dX12_byWay_102 : decode cX12_byWay 102 = .ok (.aload_n 0, 1) := by decide +kernel
theorem dX12_byWay_103 : decode cX12_byWay 103 = .ok (.iload 4, 2) := by decide +kernel
theorem dX12_byWay_105 : decode cX12_byWay 105 = .ok (.putfield 205, 3) := by decide +kernel
theorem dX12_byWay_108 : decode cX12_byWay 108 = .ok (.aload_n 0, 1) := by decide +kernel
theorem dX12_byWay_109 : decode cX12_byWay 109 = .ok (.iload_n 1, 1) := by decide +kernel
theorem dX12_byWay_110 : decode cX12_byWay 110 = .ok (.iload 6, 2) := by decide +kernel
theorem dX12_byWay_112 : decode cX12_byWay 112 = .ok (.invokevirtual 241, 3) := by decide +kernel
theorem dX12_byWay_115 : decode cX12_byWay 115 = .ok (.aload_n 0, 1) := by decide +kernel
theorem dX12_byWay_116 : decode cX12_byWay 116 = .ok (.invokevirtual 293, 3) := by decide +kernel
theorem dX12_byWay_119 : decode cX12_byWay 119 = .ok (.aload_n 0, 1) := by decide +kernel
theorem dX12_byWay_120 : decode cX12_byWay 120 = .ok (.getfield 76, 3) := by decide +kernel
theorem dX12_byWay_123 : decode cX12_byWay 123 = .ok (.iload_n 3, 1) := by decide +kernel
theorem dX12_byWay_124 : decode cX12_byWay 124 = .ok (.aaload, 1) := by decide +kernel
theorem dX12_byWay_125 : decode cX12_byWay 125 = .ok (.iload 5, 2) := by decide +kernel
theorem dX12_byWay_127 : decode cX12_byWay 127 = .ok (.iaload, 1) := by decide +kernel
theorem dX12_byWay_128 : decode cX12_byWay 128 = .ok (.ireturn, 1) := by decide +kernel
theorem dX12_bench_0 : decode cX12_bench 0 = .ok (.aload_n 0, 1) := by decide +kernel
theorem dX12_bench_1 : decode cX12_bench 1 = .ok (.iconst 0, 1) := by decide +kernel
theorem dX12_bench_2 : decode cX12_bench 2 = .ok (.putfield 94, 3) := by decide +kernel
theorem dX12_bench_5 : decode cX12_bench 5 = .ok (.aload_n 0, 1) := by decide +kernel
theorem dX12_bench_6 : decode cX12_bench 6 = .ok (.aload_n 0, 1) := by decide +kernel
theorem dX12_bench_7 : decode cX12_bench 7 = .ok (.iload_n 1, 1) := by decide +kernel
theorem dX12_bench_8 : decode cX12_bench 8 = .ok (.invokevirtual 235, 3) := by decide +kernel
theorem dX12_bench_11 : decode cX12_bench 11 = .ok (.ifCond .ne 7, 3) := by decide +kernel
theorem dX12_bench_14 : decode cX12_bench 14 = .ok (.iconst 1, 1) := by decide +kernel
theorem dX12_bench_15 : decode cX12_bench 15 = .ok (.goto 4, 3) := by decide +kernel
theorem dX12_bench_18 : decode cX12_bench 18 = .ok (.iconst 0, 1) := by decide +kernel
theorem dX12_bench_19 : decode cX12_bench 19 = .ok (.iconst 1, 1) := by decide +kernel
theorem dX12_bench_20 : decode cX12_bench 20 = .ok (.invokevirtual 170, 3) := by decide +kernel
theorem dX12_bench_23 : decode cX12_bench 23 = .ok (.ifCond .ne 43, 3) := by decide +kernel
theorem dX12_bench_26 : decode cX12_bench 26 = .ok (.aload_n 0, 1) := by decide +kernel
theorem dX12_bench_27 : decode cX12_bench 27 = .ok (.iload_n 2, 1) := by decide +kernel
theorem dX12_bench_28 : decode cX12_bench 28 = .ok (.iconst 0, 1) := by decide +kernel
theorem dX12_bench_29 : decode cX12_bench 29 = .ok (.iload 4, 2) := by decide +kernel
theorem dX12_bench_31 : decode cX12_bench 31 = .ok (.iconst 2, 1) := by decide +kernel
theorem dX12_bench_32 : decode cX12_bench 32 = .ok (.invokevirtual 238, 3) := by decide +kernel
theorem dX12_bench_35 : decode cX12_bench 35 = .ok (.ifCond .ne 31, 3) := by decide +kernel
theorem dX12_bench_38 : decode cX12_bench 38 = .ok (.aload_n 0, 1) := by decide +kernel
theorem dX12_bench_39 : decode cX12_bench 39 = .ok (.iload_n 3, 1) := by decide +kernel
theorem dX12_bench_40 : decode cX12_bench 40 = .ok (.iconst 0, 1) := by decide +kernel
theorem dX12_bench_41 : decode cX12_bench 41 = .ok (.bipush 9, 2) := by decide +kernel
theorem dX12_bench_43 : decode cX12_bench 43 = .ok (.invokestatic 128, 3) := by decide +kernel
theorem dX12_bench_46 : decode cX12_bench 46 = .ok (.ifCond .eq 8, 3) := by decide +kernel
theorem dX12_bench_49 : decode cX12_bench 49 = .ok (.iload_n 2, 1) := by decide +kernel
theorem dX12_bench_50 : decode cX12_bench 50 = .ok (.iload_n 3, 1) := by decide +kernel
theorem dX12_bench_51 : decode cX12_bench 51 = .ok (.if_icmp .ne 7, 3) := by decide +kernel
theorem dX12_bench_54 : decode cX12_bench 54 = .ok (.iconst 1, 1) := by decide +kernel
theorem dX12_bench_55 : decode cX12_bench 55 = .ok (.goto 4, 3) := by decide +kernel
theorem dX12_bench_58 : decode cX12_bench 58 = .ok (.iconst 0, 1) := by decide +kernel
theorem dX12_bench_59 : decode cX12_bench 59 = .ok (.iconst 2, 1) := by decide +kernel
theorem dX12_bench_60 : decode cX12_bench 60 = .ok (.invokevirtual 170, 3) := by decide +kernel
theorem dX12_bench_63 : decode cX12_bench 63 = .ok (.ifCond .eq 5, 3) := by decide +kernel
theorem dX12_bench_66 : decode cX12_bench 66 = .ok (.iconst 0, 1) := by decide +kernel
theorem dX12_bench_67 : decode cX12_bench 67 = .ok (.ireturn, 1) := by decide +kernel
theorem dX12_bench_68 : decode cX12_bench 68 = .ok (.aload_n 0, 1) := by decide +kernel
theorem dX12_bench_69 : decode cX12_bench 69 = .ok (.iload_n 2, 1) := by decide +kernel
theorem dX12_bench_70 : decode cX12_bench 70 = .ok (.putfield 85, 3) := by decide +kernel
theorem dX12_bench_73 : decode cX12_bench 73 = .ok (.aload_n 0, 1) := by decide +kernel
theorem dX12_bench_74 : decode cX12_bench 74 = .ok (.iload_n 3, 1) := by decide +kernel
theorem dX12_bench_75 : decode cX12_bench 75 = .ok (.putfield 232, 3) := by decide +kernel
theorem dX12_bench_78 : decode cX12_bench 78 = .ok (.aload_n 0, 1) := by decide +kernel
theorem dX12_bench_79 : decode cX12_bench 79 = .ok (.iload 4, 2) := by decide +kernel
theorem dX12_bench_81 : decode cX12_bench 81 = .ok (.putfield 229, 3) := by decide +kernel
theorem dX12_bench_84 : decode cX12_bench 84 = .ok (.aload_n 0, 1) := by decide +kernel
theorem dX12_bench_85 : decode cX12_bench 85 = .ok (.iconst 0, 1) := by decide +kernel
theorem dX12_bench_86 : decode cX12_bench 86 = .ok (.iload_n 1, 1) := by decide +kernel
theorem dX12_bench_87 : decode cX12_bench 87 = .ok (.iconst (-1), 1) := by decide +kernel
theorem dX12_bench_88 : decode cX12_bench 88 = .ok (.invokevirtual 275, 3) := by decide +kernel
theorem dX12_bench_91 : decode cX12_bench 91 = .ok (.aload_n 0, 1) := by decide +kernel
theorem dX12_bench_92 : decode cX12_bench 92 = .ok (.getfield 255, 3) := by decide +kernel
theorem dX12_bench_95 : decode cX12_bench 95 = .ok (.istore 5, 2) := by decide +kernel
theorem dX12_bench_97 : decode cX12_bench 97 = .ok (.aload_n 0, 1) := by decide +kernel
theorem dX12_bench_98 : decode cX12_bench 98 = .ok (.invokevirtual 293, 3) := by decide +kernel
theorem dX12_bench_101 : decode cX12_bench 101 = .ok (.aload_n 0, 1) := by decide +kernel
theorem dX12_bench_102 : decode cX12_bench 102 = .ok (.iconst 1, 1) := by decide +kernel
theorem dX12_bench_103 : decode cX12_bench 103 = .ok (.iload_n 1, 1) := by decide +kernel
theorem dX12_bench_104 : decode cX12_bench 104 = .ok (.iconst (-1), 1) := by decide +kernel
theorem dX12_bench_105 : decode cX12_bench 105 = .ok (.invokevirtual 275, 3) := by decide +kernel
theorem dX12_bench_108 : decode cX12_bench 108 = .ok (.aload_n 0, 1) := by decide +kernel
theorem dX12_bench_109 : decode cX12_bench 109 = .ok (.iload 5, 2) := by decide +kernel
theorem dX12_bench_111 : decode cX12_bench 111 = .ok (.aload_n 0, 1) := by decide +kernel
theorem dX12_bench_112 : decode cX12_bench 112 = .ok (.getfield 255, 3) := by decide +kernel
theorem dX12_bench_115 : decode cX12_bench 115 = .ok (.invokevirtual 281, 3) := by decide +kernel
theorem dX12_bench_118 : decode cX12_bench 118 = .ok (.aload_n 0, 1) := by decide +kernel
theorem dX12_bench_119 : decode cX12_bench 119 = .ok (.invokevirtual 287, 3) := by decide +kernel
theorem dX12_bench_122 : decode cX12_bench 122 = .ok (.ireturn, 1) := by decide +kernel
theorem dX12_leftBehind_0 : decode cX12_leftBehind 0 = .ok (.iload_n 1, 1) := by decide +kernel
theorem dX12_leftBehind_1 : decode cX12_leftBehind 1 = .ok (.istore 4, 2) := by decide +kernel
theorem dX12_leftBehind_3 : decode cX12_leftBehind 3 = .ok (.iconst 0, 1) := by decide +kernel
theorem dX12_leftBehind_4 : decode cX12_leftBehind 4 = .ok (.istore 5, 2) := by decide +kernel
theorem dX12_leftBehind_6 : decode cX12_leftBehind 6 = .ok (.iload 5, 2) := by decide +kernel
theorem dX12_leftBehind_8 : decode cX12_leftBehind 8 = .ok (.iload_n 3, 1) := by decide +kernel
theorem dX12_leftBehind_9 : decode cX12_leftBehind 9 = .ok (.if_icmp .ge 23, 3) := by decide +kernel
theorem dX12_leftBehind_12 : decode cX12_leftBehind 12 = .ok (.iload 4, 2) := by decide +kernel
theorem dX12_leftBehind_14 : decode cX12_leftBehind 14 = .ok (.aload_n 0, 1) := by decide +kernel
theorem dX12_leftBehind_15 : decode cX12_leftBehind 15 = .ok (.getfield 25, 3) := by decide +kernel
theorem dX12_leftBehind_18 : decode cX12_leftBehind 18 = .ok (.iload_n 2, 1) := by decide +kernel
theorem dX12_leftBehind_19 : decode cX12_leftBehind 19 = .ok (.iaload, 1) := by decide +kernel
theorem dX12_leftBehind_20 : decode cX12_leftBehind 20 = .ok (.imul, 1) := by decide +kernel
theorem dX12_leftBehind_21 : decode cX12_leftBehind 21 = .ok (.bipush 16, 2) := by decide +kernel
theorem dX12_leftBehind_23 : decode cX12_leftBehind 23 = .ok (.idiv, 1) := by decide +kernel
theorem dX12_leftBehind_24 : decode cX12_leftBehind 24 = .ok (.istore 4, 2) := by decide +kernel
theorem dX12_leftBehind_26 : decode cX12_leftBehind 26 = .ok (.iinc 5 1, 3) := by decide +kernel
theorem dX12_leftBehind_29 : decode cX12_leftBehind 29 = .ok (.goto (-23), 3) := by decide +kernel
theorem dX12_leftBehind_32 : decode cX12_leftBehind 32 = .ok (.iload 4, 2) := by decide +kernel
theorem dX12_leftBehind_34 : decode cX12_leftBehind 34 = .ok (.ireturn, 1) := by decide +kernel
theorem dX12_after_0 : decode cX12_after 0 = .ok (.aload_n 0, 1) := by decide +kernel
theorem dX12_after_1 : decode cX12_after 1 = .ok (.iconst 0, 1) := by decide +kernel
theorem dX12_after_2 : decode cX12_after 2 = .ok (.putfield 94, 3) := by decide +kernel
theorem dX12_after_5 : decode cX12_after 5 = .ok (.aload_n 0, 1) := by decide +kernel
theorem dX12_after_6 : decode cX12_after 6 = .ok (.iload_n 1, 1) := by decide +kernel
theorem dX12_after_7 : decode cX12_after 7 = .ok (.iconst 0, 1) := by decide +kernel
theorem dX12_after_8 : decode cX12_after 8 = .ok (.bipush 9, 2) := by decide +kernel
theorem dX12_after_10 : decode cX12_after 10 = .ok (.invokestatic 128, 3) := by decide +kernel
theorem dX12_after_13 : decode cX12_after 13 = .ok (.ifCond .eq 24, 3) := by decide +kernel
theorem dX12_after_16 : decode cX12_after 16 = .ok (.iload_n 2, 1) := by decide +kernel
theorem dX12_after_17 : decode cX12_after 17 = .ok (.iconst 0, 1) := by decide +kernel
theorem dX12_after_18 : decode cX12_after 18 = .ok (.sipush 9999, 3) := by decide +kernel
theorem dX12_after_21 : decode cX12_after 21 = .ok (.invokestatic 128, 3) := by decide +kernel
theorem dX12_after_24 : decode cX12_after 24 = .ok (.ifCond .eq 13, 3) := by decide +kernel
theorem dX12_after_27 : decode cX12_after 27 = .ok (.iload_n 3, 1) := by decide +kernel
theorem dX12_after_28 : decode cX12_after 28 = .ok (.iconst 0, 1) := by decide +kernel
theorem dX12_after_29 : decode cX12_after 29 = .ok (.bipush 60, 2) := by decide +kernel
theorem dX12_after_31 : decode cX12_after 31 = .ok (.invokestatic 128, 3) := by decide +kernel
theorem dX12_after_34 : decode cX12_after 34 = .ok (.ifCond .ne 7, 3) := by decide +kernel
theorem dX12_after_37 : decode cX12_after 37 = .ok (.iconst 1, 1) := by decide +kernel
theorem dX12_after_38 : decode cX12_after 38 = .ok (.goto 4, 3) := by decide +kernel
theorem dX12_after_41 : decode cX12_after 41 = .ok (.iconst 0, 1) := by decide +kernel
theorem dX12_after_42 : decode cX12_after 42 = .ok (.iconst 1, 1) := by decide +kernel
theorem dX12_after_43 : decode cX12_after 43 = .ok (.invokevirtual 170, 3) := by decide +kernel
theorem dX12_after_46 : decode cX12_after 46 = .ok (.ifCond .ne 25, 3) := by decide +kernel
theorem dX12_after_49 : decode cX12_after 49 = .ok (.aload_n 0, 1) := by decide +kernel
theorem dX12_after_50 : decode cX12_after 50 = .ok (.aload_n 0, 1) := by decide +kernel
theorem dX12_after_51 : decode cX12_after 51 = .ok (.getfield 25, 3) := by decide +kernel
theorem dX12_after_54 : decode cX12_after 54 = .ok (.iload_n 1, 1) := by decide +kernel
theorem dX12_after_55 : decode cX12_after 55 = .ok (.iaload, 1) := by decide +kernel
theorem dX12_after_56 : decode cX12_after 56 = .ok (.ifCond .ne 7, 3) := by decide +kernel
theorem dX12_after_59 : decode cX12_after 59 = .ok (.iconst 1, 1) := by decide +kernel
theorem dX12_after_60 : decode cX12_after 60 = .ok (.goto 4, 3) := by decide +kernel
theorem dX12_after_63 : decode cX12_after 63 = .ok (.iconst 0, 1) := by decide +kernel
theorem dX12_after_64 : decode cX12_after 64 = .ok (.iconst 1, 1) := by decide +kernel
theorem dX12_after_65 : decode cX12_after 65 = .ok (.invokevirtual 170, 3) := by decide +kernel
theorem dX12_after_68 : decode cX12_after 68 = .ok (.ifCond .eq 5, 3) := by decide +kernel
theorem dX12_after_71 : decode cX12_after 71 = .ok (.iconst 0, 1) := by decide +kernel
theorem dX12_after_72 : decode cX12_after 72 = .ok (.ireturn, 1) := by decide +kernel
theorem dX12_after_73 : decode cX12_after 73 = .ok (.iconst 0, 1) := by decide +kernel
theorem dX12_after_74 : decode cX12_after 74 = .ok (.istore 5, 2) := by decide +kernel
theorem dX12_after_76 : decode cX12_after 76 = .ok (.ldc 127, 2) := by decide +kernel
theorem dX12_after_78 : decode cX12_after 78 = .ok (.istore 6, 2) := by decide +kernel
theorem dX12_after_80 : decode cX12_after 80 = .ok (.iload 4, 2) := by decide +kernel
theorem dX12_after_82 : decode cX12_after 82 = .ok (.ifCond .eq 9, 3) := by decide +kernel
theorem dX12_after_85 : decode cX12_after 85 = .ok (.iload_n 2, 1) := by decide +kernel
theorem dX12_after_86 : decode cX12_after 86 = .ok (.iconst 1, 1) := by decide +kernel
theorem dX12_after_87 : decode cX12_after 87 = .ok (.iadd, 1) := by decide +kernel
theorem dX12_after_88 : decode cX12_after 88 = .ok (.goto 4, 3) := by decide +kernel
theorem dX12_after_91 : decode cX12_after 91 = .ok (.iload_n 2, 1) := by decide +kernel
theorem dX12_after_92 : decode cX12_after 92 = .ok (.istore 7, 2) := by decide +kernel
theorem dX12_after_94 : decode cX12_after 94 = .ok (.iload 5, 2) := by decide +kernel
theorem dX12_after_96 : decode cX12_after 96 = .ok (.iload 6, 2) := by decide +kernel
theorem dX12_after_98 : decode cX12_after 98 = .ok (.if_icmp .ge 41, 3) := by decide +kernel
theorem dX12_after_101 : decode cX12_after 101 = .ok (.iload 5, 2) := by decide +kernel
theorem dX12_after_103 : decode cX12_after 103 = .ok (.iload 6, 2) := by decide +kernel
theorem dX12_after_105 : decode cX12_after 105 = .ok (.iadd, 1) := by decide +kernel
theorem dX12_after_106 : decode cX12_after 106 = .ok (.iconst 2, 1) := by decide +kernel
theorem dX12_after_107 : decode cX12_after 107 = .ok (.idiv, 1) := by decide +kernel
theorem dX12_after_108 : decode cX12_after 108 = .ok (.istore 8, 2) := by decide +kernel
theorem dX12_after_110 : decode cX12_after 110 = .ok (.aload_n 0, 1) := by decide +kernel
theorem dX12_after_111 : decode cX12_after 111 = .ok (.iload 8, 2) := by decide +kernel
theorem dX12_after_113 : decode cX12_after 113 = .ok (.iload_n 1, 1) := by decide +kernel
theorem dX12_after_114 : decode cX12_after 114 = .ok (.iload_n 3, 1) := by decide +kernel
theorem dX12_after_115 : decode cX12_after 115 = .ok (.invokevirtual 296, 3) := by decide +kernel
theorem dX12_after_118 : decode cX12_after 118 = .ok (.iload 7, 2) := by decide +kernel
theorem dX12_after_120 : decode cX12_after 120 = .ok (.if_icmp .lt 10, 3) := by decide +kernel
theorem dX12_after_123 : decode cX12_after 123 = .ok (.iload 8, 2) := by decide +kernel
theorem dX12_after_125 : decode cX12_after 125 = .ok (.istore 6, 2) := by decide +kernel
theorem dX12_after_127 : decode cX12_after 127 = .ok (.goto 9, 3) := by decide +kernel
theorem dX12_after_130 : decode cX12_after 130 = .ok (.iload 8, 2) := by decide +kernel
theorem dX12_after_132 : decode cX12_after 132 = .ok (.iconst 1, 1) := by decide +kernel
theorem dX12_after_133 : decode cX12_after 133 = .ok (.iadd, 1) := by decide +kernel
theorem dX12_after_134 : decode cX12_after 134 = .ok (.istore 5, 2) := by decide +kernel
theorem dX12_after_136 : decode cX12_after 136 = .ok (.goto (-42), 3) := by decide +kernel
theorem dX12_after_139 : decode cX12_after 139 = .ok (.iload 4, 2) := by decide +kernel
theorem dX12_after_141 : decode cX12_after 141 = .ok (.ifCond .eq 10, 3) := by decide +kernel
theorem dX12_after_144 : decode cX12_after 144 = .ok (.iload 5, 2) := by decide +kernel
theorem dX12_after_146 : decode cX12_after 146 = .ok (.iconst 1, 1) := by decide +kernel
theorem dX12_after_147 : decode cX12_after 147 = .ok (.isub, 1) := by decide +kernel
theorem dX12_after_148 : decode cX12_after 148 = .ok (.goto 5, 3) := by decide +kernel
theorem dX12_after_151 : decode cX12_after 151 = .ok (.iload 5, 2) := by decide +kernel
theorem dX12_after_153 : decode cX12_after 153 = .ok (.istore 8, 2) := by decide +kernel
theorem dX12_after_155 : decode cX12_after 155 = .ok (.iload 8, 2) := by decide +kernel
theorem dX12_after_157 : decode cX12_after 157 = .ok (.iconst 0, 1) := by decide +kernel
theorem dX12_after_158 : decode cX12_after 158 = .ok (.ldc_w 299, 3) := by decide +kernel
theorem dX12_after_161 : decode cX12_after 161 = .ok (.invokestatic 128, 3) := by decide +kernel
theorem dX12_after_164 : decode cX12_after 164 = .ok (.ifCond .eq 20, 3) := by decide +kernel
theorem dX12_after_167 : decode cX12_after 167 = .ok (.aload_n 0, 1) := by decide +kernel
theorem dX12_after_168 : decode cX12_after 168 = .ok (.iload 8, 2) := by decide +kernel
theorem dX12_after_170 : decode cX12_after 170 = .ok (.iload_n 1, 1) := by decide +kernel
theorem dX12_after_171 : decode cX12_after 171 = .ok (.iload_n 3, 1) := by decide +kernel
theorem dX12_after_172 : decode cX12_after 172 = .ok (.invokevirtual 296, 3) := by decide +kernel
theorem dX12_after_175 : decode cX12_after 175 = .ok (.iload_n 2, 1) := by decide +kernel
theorem dX12_after_176 : decode cX12_after 176 = .ok (.if_icmp .ne 8, 3) := by decide +kernel
theorem dX12_after_179 : decode cX12_after 179 = .ok (.iload 8, 2) := by decide +kernel
theorem dX12_after_181 : decode cX12_after 181 = .ok (.goto 4, 3) := by decide +kernel
theorem dX12_after_184 : decode cX12_after 184 = .ok (.iconst (-1), 1) := by decide +kernel
theorem dX12_after_185 : decode cX12_after 185 = .ok (.ireturn, 1) := by decide +kernel
theorem dX12_seat_0 : decode cX12_seat 0 = .ok (.aload_n 0, 1) := by decide +kernel
theorem dX12_seat_1 : decode cX12_seat 1 = .ok (.iconst 0, 1) := by decide +kernel
theorem dX12_seat_2 : decode cX12_seat 2 = .ok (.putfield 94, 3) := by decide +kernel
theorem dX12_seat_5 : decode cX12_seat 5 = .ok (.aload_n 0, 1) := by decide +kernel
theorem dX12_seat_6 : decode cX12_seat 6 = .ok (.iload_n 1, 1) := by decide +kernel
theorem dX12_seat_7 : decode cX12_seat 7 = .ok (.iconst 0, 1) := by decide +kernel
theorem dX12_seat_8 : decode cX12_seat 8 = .ok (.sipush 1023, 3) := by decide +kernel
theorem dX12_seat_11 : decode cX12_seat 11 = .ok (.invokestatic 128, 3) := by decide +kernel
theorem dX12_seat_14 : decode cX12_seat 14 = .ok (.ifCond .ne 7, 3) := by decide +kernel
theorem dX12_seat_17 : decode cX12_seat 17 = .ok (.iconst 1, 1) := by decide +kernel
theorem dX12_seat_18 : decode cX12_seat 18 = .ok (.goto 4, 3) := by decide +kernel
theorem dX12_seat_21 : decode cX12_seat 21 = .ok (.iconst 0, 1) := by decide +kernel
theorem dX12_seat_22 : decode cX12_seat 22 = .ok (.iconst 1, 1) := by decide +kernel
theorem dX12_seat_23 : decode cX12_seat 23 = .ok (.invokevirtual 170, 3) := by decide +kernel
theorem dX12_seat_26 : decode cX12_seat 26 = .ok (.ifCond .eq 5, 3) := by decide +kernel
theorem dX12_seat_29 : decode cX12_seat 29 = .ok (.iconst 0, 1) := by decide +kernel
theorem dX12_seat_30 : decode cX12_seat 30 = .ok (.ireturn, 1) := by decide +kernel
theorem dX12_seat_31 : decode cX12_seat 31 = .ok (.aload_n 0, 1) := by decide +kernel
theorem dX12_seat_32 : decode cX12_seat 32 = .ok (.getfield 300, 3) := by decide +kernel
theorem dX12_seat_35 : decode cX12_seat 35 = .ok (.bipush 40, 2) := by decide +kernel
theorem dX12_seat_37 : decode cX12_seat 37 = .ok (.if_icmp .ne 5, 3) := by decide +kernel
theorem dX12_seat_40 : decode cX12_seat 40 = .ok (.iconst (-1), 1) := by decide +kernel
theorem dX12_seat_41 : decode cX12_seat 41 = .ok (.ireturn, 1) := by decide +kernel
theorem dX12_seat_42 : decode cX12_seat 42 = .ok (.aload_n 0, 1) := by decide +kernel
theorem dX12_seat_43 : decode cX12_seat 43 = .ok (.getfield 58, 3) := by decide +kernel
theorem dX12_seat_46 : decode cX12_seat 46 = .ok (.aload_n 0, 1) := by decide +kernel
theorem dX12_seat_47 : decode cX12_seat 47 = .ok (.getfield 300, 3) := by decide +kernel
theorem dX12_seat_50 : decode cX12_seat 50 = .ok (.iload_n 1, 1) := by decide +kernel
theorem dX12_seat_51 : decode cX12_seat 51 = .ok (.iastore, 1) := by decide +kernel
theorem dX12_seat_52 : decode cX12_seat 52 = .ok (.aload_n 0, 1) := by decide +kernel
theorem dX12_seat_53 : decode cX12_seat 53 = .ok (.dup, 1) := by decide +kernel
theorem dX12_seat_54 : decode cX12_seat 54 = .ok (.getfield 300, 3) := by decide +kernel
theorem dX12_seat_57 : decode cX12_seat 57 = .ok (.iconst 1, 1) := by decide +kernel
theorem dX12_seat_58 : decode cX12_seat 58 = .ok (.iadd, 1) := by decide +kernel
theorem dX12_seat_59 : decode cX12_seat 59 = .ok (.putfield 300, 3) := by decide +kernel
theorem dX12_seat_62 : decode cX12_seat 62 = .ok (.aload_n 0, 1) := by decide +kernel
theorem dX12_seat_63 : decode cX12_seat 63 = .ok (.getfield 300, 3) := by decide +kernel
theorem dX12_seat_66 : decode cX12_seat 66 = .ok (.ireturn, 1) := by decide +kernel
theorem dX12_onSeats_0 : decode cX12_onSeats 0 = .ok (.iconst 0, 1) := by decide +kernel
theorem dX12_onSeats_1 : decode cX12_onSeats 1 = .ok (.istore_n 3, 1) := by decide +kernel
theorem dX12_onSeats_2 : decode cX12_onSeats 2 = .ok (.iconst 0, 1) := by decide +kernel
theorem dX12_onSeats_3 : decode cX12_onSeats 3 = .ok (.istore 4, 2) := by decide +kernel
theorem dX12_onSeats_5 : decode cX12_onSeats 5 = .ok (.iload 4, 2) := by decide +kernel
theorem dX12_onSeats_7 : decode cX12_onSeats 7 = .ok (.aload_n 0, 1) := by decide +kernel
theorem dX12_onSeats_8 : decode cX12_onSeats 8 = .ok (.getfield 300, 3) := by decide +kernel
theorem dX12_onSeats_11 : decode cX12_onSeats 11 = .ok (.if_icmp .ge 42, 3) := by decide +kernel
theorem dX12_onSeats_14 : decode cX12_onSeats 14 = .ok (.iload_n 3, 1) := by decide +kernel
theorem dX12_onSeats_15 : decode cX12_onSeats 15 = .ok (.aload_n 0, 1) := by decide +kernel
theorem dX12_onSeats_16 : decode cX12_onSeats 16 = .ok (.getfield 58, 3) := by decide +kernel
theorem dX12_onSeats_19 : decode cX12_onSeats 19 = .ok (.iload 4, 2) := by decide +kernel
theorem dX12_onSeats_21 : decode cX12_onSeats 21 = .ok (.iaload, 1) := by decide +kernel
theorem dX12_onSeats_22 : decode cX12_onSeats 22 = .ok (.iload_n 1, 1) := by decide +kernel
theorem dX12_onSeats_23 : decode cX12_onSeats 23 = .ok (.ishr, 1) := by decide +kernel
theorem dX12_onSeats_24 : decode cX12_onSeats 24 = .ok (.aload_n 0, 1) := by decide +kernel
theorem dX12_onSeats_25 : decode cX12_onSeats 25 = .ok (.getfield 58, 3) := by decide +kernel
theorem dX12_onSeats_28 : decode cX12_onSeats 28 = .ok (.iload 4, 2) := by decide +kernel
theorem dX12_onSeats_30 : decode cX12_onSeats 30 = .ok (.iaload, 1) := by decide +kernel
theorem dX12_onSeats_31 : decode cX12_onSeats 31 = .ok (.iload_n 2, 1) := by decide +kernel
theorem dX12_onSeats_32 : decode cX12_onSeats 32 = .ok (.ishr, 1) := by decide +kernel
theorem dX12_onSeats_33 : decode cX12_onSeats 33 = .ok (.iand, 1) := by decide +kernel
theorem dX12_onSeats_34 : decode cX12_onSeats 34 = .ok (.iconst 1, 1) := by decide +kernel
theorem dX12_onSeats_35 : decode cX12_onSeats 35 = .ok (.iand, 1) := by decide +kernel
theorem dX12_onSeats_36 : decode cX12_onSeats 36 = .ok (.iconst 1, 1) := by decide +kernel
theorem dX12_onSeats_37 : decode cX12_onSeats 37 = .ok (.if_icmp .ne 7, 3) := by decide +kernel
theorem dX12_onSeats_40 : decode cX12_onSeats 40 = .ok (.iconst 1, 1) := by decide +kernel
theorem dX12_onSeats_41 : decode cX12_onSeats 41 = .ok (.goto 4, 3) := by decide +kernel
theorem dX12_onSeats_44 : decode cX12_onSeats 44 = .ok (.iconst 0, 1) := by decide +kernel
theorem dX12_onSeats_45 : decode cX12_onSeats 45 = .ok (.iadd, 1) := by decide +kernel
theorem dX12_onSeats_46 : decode cX12_onSeats 46 = .ok (.istore_n 3, 1) := by decide +kernel
theorem dX12_onSeats_47 : decode cX12_onSeats 47 = .ok (.iinc 4 1, 3) := by decide +kernel
theorem dX12_onSeats_50 : decode cX12_onSeats 50 = .ok (.goto (-45), 3) := by decide +kernel
theorem dX12_onSeats_53 : decode cX12_onSeats 53 = .ok (.iload_n 3, 1) := by decide +kernel
theorem dX12_onSeats_54 : decode cX12_onSeats 54 = .ok (.ireturn, 1) := by decide +kernel
theorem dX12_share_0 : decode cX12_share 0 = .ok (.aload_n 0, 1) := by decide +kernel
theorem dX12_share_1 : decode cX12_share 1 = .ok (.iconst 0, 1) := by decide +kernel
theorem dX12_share_2 : decode cX12_share 2 = .ok (.putfield 94, 3) := by decide +kernel
theorem dX12_share_5 : decode cX12_share 5 = .ok (.aload_n 0, 1) := by decide +kernel
theorem dX12_share_6 : decode cX12_share 6 = .ok (.iload_n 1, 1) := by decide +kernel
theorem dX12_share_7 : decode cX12_share 7 = .ok (.iconst 0, 1) := by decide +kernel
theorem dX12_share_8 : decode cX12_share 8 = .ok (.bipush 9, 2) := by decide +kernel
theorem dX12_share_10 : decode cX12_share 10 = .ok (.invokestatic 128, 3) := by decide +kernel
theorem dX12_share_13 : decode cX12_share 13 = .ok (.ifCond .ne 7, 3) := by decide +kernel
theorem dX12_share_16 : decode cX12_share 16 = .ok (.iconst 1, 1) := by decide +kernel
theorem dX12_share_17 : decode cX12_share 17 = .ok (.goto 4, 3) := by decide +kernel
theorem dX12_share_20 : decode cX12_share 20 = .ok (.iconst 0, 1) := by decide +kernel
theorem dX12_share_21 : decode cX12_share 21 = .ok (.iconst 1, 1) := by decide +kernel
theorem dX12_share_22 : decode cX12_share 22 = .ok (.invokevirtual 170, 3) := by decide +kernel
theorem dX12_share_25 : decode cX12_share 25 = .ok (.ifCond .eq 5, 3) := by decide +kernel
theorem dX12_share_28 : decode cX12_share 28 = .ok (.iconst 0, 1) := by decide +kernel
theorem dX12_share_29 : decode cX12_share 29 = .ok (.ireturn, 1) := by decide +kernel
theorem dX12_share_30 : decode cX12_share 30 = .ok (.aload_n 0, 1) := by decide +kernel
theorem dX12_share_31 : decode cX12_share 31 = .ok (.iload_n 1, 1) := by decide +kernel
theorem dX12_share_32 : decode cX12_share 32 = .ok (.iload_n 1, 1) := by decide +kernel
theorem dX12_share_33 : decode cX12_share 33 = .ok (.invokevirtual 303, 3) := by decide +kernel
theorem dX12_share_36 : decode cX12_share 36 = .ok (.ireturn, 1) := by decide +kernel
theorem dX12_together_0 : decode cX12_together 0 = .ok (.aload_n 0, 1) := by decide +kernel
theorem dX12_together_1 : decode cX12_together 1 = .ok (.iconst 0, 1) := by decide +kernel
theorem dX12_together_2 : decode cX12_together 2 = .ok (.putfield 94, 3) := by decide +kernel
theorem dX12_together_5 : decode cX12_together 5 = .ok (.aload_n 0, 1) := by decide +kernel
theorem dX12_together_6 : decode cX12_together 6 = .ok (.iload_n 1, 1) := by decide +kernel
theorem dX12_together_7 : decode cX12_together 7 = .ok (.iconst 0, 1) := by decide +kernel
theorem dX12_together_8 : decode cX12_together 8 = .ok (.bipush 9, 2) := by decide +kernel
theorem dX12_together_10 : decode cX12_together 10 = .ok (.invokestatic 128, 3) := by decide +kernel
theorem dX12_together_13 : decode cX12_together 13 = .ok (.ifCond .eq 13, 3) := by decide +kernel
theorem dX12_together_16 : decode cX12_together 16 = .ok (.iload_n 2, 1) := by decide +kernel
theorem dX12_together_17 : decode cX12_together 17 = .ok (.iconst 0, 1) := by decide +kernel
theorem dX12_together_18 : decode cX12_together 18 = .ok (.bipush 9, 2) := by decide +kernel
theorem dX12_together_20 : decode cX12_together 20 = .ok (.invokestatic 128, 3) := by decide +kernel
theorem dX12_together_23 : decode cX12_together 23 = .ok (.ifCond .ne 7, 3) := by decide +kernel
theorem dX12_together_26 : decode cX12_together 26 = .ok (.iconst 1, 1) := by decide +kernel
theorem dX12_together_27 : decode cX12_together 27 = .ok (.goto 4, 3) := by decide +kernel
theorem dX12_together_30 : decode cX12_together 30 = .ok (.iconst 0, 1) := by decide +kernel
theorem dX12_together_31 : decode cX12_together 31 = .ok (.iconst 1, 1) := by decide +kernel
theorem dX12_together_32 : decode cX12_together 32 = .ok (.invokevirtual 170, 3) := by decide +kernel
theorem dX12_together_35 : decode cX12_together 35 = .ok (.ifCond .eq 5, 3) := by decide +kernel
theorem dX12_together_38 : decode cX12_together 38 = .ok (.iconst 0, 1) := by decide +kernel
theorem dX12_together_39 : decode cX12_together 39 = .ok (.ireturn, 1) := by decide +kernel
theorem dX12_together_40 : decode cX12_together 40 = .ok (.aload_n 0, 1) := by decide +kernel
theorem dX12_together_41 : decode cX12_together 41 = .ok (.iload_n 1, 1) := by decide +kernel
theorem dX12_together_42 : decode cX12_together 42 = .ok (.iload_n 2, 1) := by decide +kernel
theorem dX12_together_43 : decode cX12_together 43 = .ok (.invokevirtual 303, 3) := by decide +kernel
theorem dX12_together_46 : decode cX12_together 46 = .ok (.aload_n 0, 1) := by decide +kernel
theorem dX12_together_47 : decode cX12_together 47 = .ok (.getfield 300, 3) := by decide +kernel
theorem dX12_together_50 : decode cX12_together 50 = .ok (.imul, 1) := by decide +kernel
theorem dX12_together_51 : decode cX12_together 51 = .ok (.aload_n 0, 1) := by decide +kernel
theorem dX12_together_52 : decode cX12_together 52 = .ok (.iload_n 1, 1) := by decide +kernel
theorem dX12_together_53 : decode cX12_together 53 = .ok (.iload_n 1, 1) := by decide +kernel
theorem dX12_together_54 : decode cX12_together 54 = .ok (.invokevirtual 303, 3) := by decide +kernel
theorem dX12_together_57 : decode cX12_together 57 = .ok (.aload_n 0, 1) := by decide +kernel
theorem dX12_together_58 : decode cX12_together 58 = .ok (.iload_n 2, 1) := by decide +kernel
theorem dX12_together_59 : decode cX12_together 59 = .ok (.iload_n 2, 1) := by decide +kernel
theorem dX12_together_60 : decode cX12_together 60 = .ok (.invokevirtual 303, 3) := by decide +kernel
theorem dX12_together_63 : decode cX12_together 63 = .ok (.imul, 1) := by decide +kernel
theorem dX12_together_64 : decode cX12_together 64 = .ok (.isub, 1) := by decide +kernel
theorem dX12_together_65 : decode cX12_together 65 = .ok (.ireturn, 1) := by decide +kernel
theorem dX12_shop_0 : decode cX12_shop 0 = .ok (.aload_n 0, 1) := by decide +kernel
theorem dX12_shop_1 : decode cX12_shop 1 = .ok (.iconst 0, 1) := by decide +kernel
theorem dX12_shop_2 : decode cX12_shop 2 = .ok (.putfield 94, 3) := by decide +kernel
theorem dX12_shop_5 : decode cX12_shop 5 = .ok (.aload_n 0, 1) := by decide +kernel
theorem dX12_shop_6 : decode cX12_shop 6 = .ok (.iload_n 1, 1) := by decide +kernel
theorem dX12_shop_7 : decode cX12_shop 7 = .ok (.iconst 0, 1) := by decide +kernel
theorem dX12_shop_8 : decode cX12_shop 8 = .ok (.bipush 9, 2) := by decide +kernel
theorem dX12_shop_10 : decode cX12_shop 10 = .ok (.invokestatic 128, 3) := by decide +kernel
theorem dX12_shop_13 : decode cX12_shop 13 = .ok (.ifCond .eq 23, 3) := by decide +kernel
theorem dX12_shop_16 : decode cX12_shop 16 = .ok (.iload_n 3, 1) := by decide +kernel
theorem dX12_shop_17 : decode cX12_shop 17 = .ok (.iconst 1, 1) := by decide +kernel
theorem dX12_shop_18 : decode cX12_shop 18 = .ok (.ldc_w 271, 3) := by decide +kernel
theorem dX12_shop_21 : decode cX12_shop 21 = .ok (.invokestatic 128, 3) := by decide +kernel
theorem dX12_shop_24 : decode cX12_shop 24 = .ok (.ifCond .eq 12, 3) := by decide +kernel
theorem dX12_shop_27 : decode cX12_shop 27 = .ok (.iload_n 2, 1) := by decide +kernel
theorem dX12_shop_28 : decode cX12_shop 28 = .ok (.iconst 0, 1) := by decide +kernel
theorem dX12_shop_29 : decode cX12_shop 29 = .ok (.iload_n 3, 1) := by decide +kernel
theorem dX12_shop_30 : decode cX12_shop 30 = .ok (.invokestatic 128, 3) := by decide +kernel
theorem dX12_shop_33 : decode cX12_shop 33 = .ok (.ifCond .ne 7, 3) := by decide +kernel
theorem dX12_shop_36 : decode cX12_shop 36 = .ok (.iconst 1, 1) := by decide +kernel
theorem dX12_shop_37 : decode cX12_shop 37 = .ok (.goto 4, 3) := by decide +kernel
theorem dX12_shop_40 : decode cX12_shop 40 = .ok (.iconst 0, 1) := by decide +kernel
theorem dX12_shop_41 : decode cX12_shop 41 = .ok (.iconst 1, 1) := by decide +kernel
theorem dX12_shop_42 : decode cX12_shop 42 = .ok (.invokevirtual 170, 3) := by decide +kernel
theorem dX12_shop_45 : decode cX12_shop 45 = .ok (.ifCond .eq 5, 3) := by decide +kernel
theorem dX12_shop_48 : decode cX12_shop 48 = .ok (.iconst 0, 1) := by decide +kernel
theorem dX12_shop_49 : decode cX12_shop 49 = .ok (.ireturn, 1) := by decide +kernel
theorem dX12_shop_50 : decode cX12_shop 50 = .ok (.aload_n 0, 1) := by decide +kernel
theorem dX12_shop_51 : decode cX12_shop 51 = .ok (.getfield 306, 3) := by decide +kernel
theorem dX12_shop_54 : decode cX12_shop 54 = .ok (.bipush 12, 2) := by decide +kernel
theorem dX12_shop_56 : decode cX12_shop 56 = .ok (.if_icmp .ne 5, 3) := by decide +kernel
theorem dX12_shop_59 : decode cX12_shop 59 = .ok (.iconst (-1), 1) := by decide +kernel
theorem dX12_shop_60 : decode cX12_shop 60 = .ok (.ireturn, 1) := by decide +kernel
theorem dX12_shop_61 : decode cX12_shop 61 = .ok (.aload_n 0, 1) := by decide +kernel
theorem dX12_shop_62 : decode cX12_shop 62 = .ok (.getfield 61, 3) := by decide +kernel
theorem dX12_shop_65 : decode cX12_shop 65 = .ok (.aload_n 0, 1) := by decide +kernel
theorem dX12_shop_66 : decode cX12_shop 66 = .ok (.getfield 306, 3) := by decide +kernel
theorem dX12_shop_69 : decode cX12_shop 69 = .ok (.aaload, 1) := by decide +kernel
theorem dX12_shop_70 : decode cX12_shop 70 = .ok (.iconst 0, 1) := by decide +kernel
theorem dX12_shop_71 : decode cX12_shop 71 = .ok (.iload_n 1, 1) := by decide +kernel
theorem dX12_shop_72 : decode cX12_shop 72 = .ok (.iastore, 1) := by decide +kernel
theorem dX12_shop_73 : decode cX12_shop 73 = .ok (.aload_n 0, 1) := by decide +kernel
theorem dX12_shop_74 : decode cX12_shop 74 = .ok (.getfield 61, 3) := by decide +kernel
theorem dX12_shop_77 : decode cX12_shop 77 = .ok (.aload_n 0, 1) := by decide +kernel
theorem dX12_shop_78 : decode cX12_shop 78 = .ok (.getfield 306, 3) := by decide +kernel
theorem dX12_shop_81 : decode cX12_shop 81 = .ok (.aaload, 1) := by decide +kernel
theorem dX12_shop_82 : decode cX12_shop 82 = .ok (.iconst 1, 1) := by decide +kernel
theorem dX12_shop_83 : decode cX12_shop 83 = .ok (.iload_n 2, 1) := by decide +kernel
theorem dX12_shop_84 : decode cX12_shop 84 = .ok (.iastore, 1) := by decide +kernel
theorem dX12_shop_85 : decode cX12_shop 85 = .ok (.aload_n 0, 1) := by decide +kernel
theorem dX12_shop_86 : decode cX12_shop 86 = .ok (.getfield 61, 3) := by decide +kernel
theorem dX12_shop_89 : decode cX12_shop 89 = .ok (.aload_n 0, 1) := by decide +kernel
theorem dX12_shop_90 : decode cX12_shop 90 = .ok (.getfield 306, 3) := by decide +kernel
theorem dX12_shop_93 : decode cX12_shop 93 = .ok (.aaload, 1) := by decide +kernel
theorem dX12_shop_94 : decode cX12_shop 94 = .ok (.iconst 2, 1) := by decide +kernel
theorem dX12_shop_95 : decode cX12_shop 95 = .ok (.iload_n 3, 1) := by decide +kernel
theorem dX12_shop_96 : decode cX12_shop 96 = .ok (.iastore, 1) := by decide +kernel
theorem dX12_shop_97 : decode cX12_shop 97 = .ok (.aload_n 0, 1) := by decide +kernel
theorem dX12_shop_98 : decode cX12_shop 98 = .ok (.dup, 1) := by decide +kernel
theorem dX12_shop_99 : decode cX12_shop 99 = .ok (.getfield 306, 3) := by decide +kernel
theorem dX12_shop_102 : decode cX12_shop 102 = .ok (.iconst 1, 1) := by decide +kernel
theorem dX12_shop_103 : decode cX12_shop 103 = .ok (.iadd, 1) := by decide +kernel
theorem dX12_shop_104 : decode cX12_shop 104 = .ok (.putfield 306, 3) := by decide +kernel
theorem dX12_shop_107 : decode cX12_shop 107 = .ok (.aload_n 0, 1) := by decide +kernel
theorem dX12_shop_108 : decode cX12_shop 108 = .ok (.getfield 306, 3) := by decide +kernel
theorem dX12_shop_111 : decode cX12_shop 111 = .ok (.ireturn, 1) := by decide +kernel
theorem dX12_rare_0 : decode cX12_rare 0 = .ok (.aload_n 0, 1) := by decide +kernel
theorem dX12_rare_1 : decode cX12_rare 1 = .ok (.iconst 0, 1) := by decide +kernel
theorem dX12_rare_2 : decode cX12_rare 2 = .ok (.putfield 94, 3) := by decide +kernel
theorem dX12_rare_5 : decode cX12_rare 5 = .ok (.aload_n 0, 1) := by decide +kernel
theorem dX12_rare_6 : decode cX12_rare 6 = .ok (.iload_n 1, 1) := by decide +kernel
theorem dX12_rare_7 : decode cX12_rare 7 = .ok (.iconst 0, 1) := by decide +kernel
theorem dX12_rare_8 : decode cX12_rare 8 = .ok (.bipush 9, 2) := by decide +kernel
theorem dX12_rare_10 : decode cX12_rare 10 = .ok (.invokestatic 128, 3) := by decide +kernel
theorem dX12_rare_13 : decode cX12_rare 13 = .ok (.ifCond .eq 12, 3) := by decide +kernel
theorem dX12_rare_16 : decode cX12_rare 16 = .ok (.iload_n 2, 1) := by decide +kernel
theorem dX12_rare_17 : decode cX12_rare 17 = .ok (.iconst 0, 1) := by decide +kernel
theorem dX12_rare_18 : decode cX12_rare 18 = .ok (.iconst 2, 1) := by decide +kernel
theorem dX12_rare_19 : decode cX12_rare 19 = .ok (.invokestatic 128, 3) := by decide +kernel
theorem dX12_rare_22 : decode cX12_rare 22 = .ok (.ifCond .ne 7, 3) := by decide +kernel
theorem dX12_rare_25 : decode cX12_rare 25 = .ok (.iconst 1, 1) := by decide +kernel
theorem dX12_rare_26 : decode cX12_rare 26 = .ok (.goto 4, 3) := by decide +kernel
theorem dX12_rare_29 : decode cX12_rare 29 = .ok (.iconst 0, 1) := by decide +kernel
theorem dX12_rare_30 : decode cX12_rare 30 = .ok (.iconst 1, 1) := by decide +kernel
theorem dX12_rare_31 : decode cX12_rare 31 = .ok (.invokevirtual 170, 3) := by decide +kernel
theorem dX12_rare_34 : decode cX12_rare 34 = .ok (.ifCond .eq 5, 3) := by decide +kernel
theorem dX12_rare_37 : decode cX12_rare 37 = .ok (.iconst 0, 1) := by decide +kernel
theorem dX12_rare_38 : decode cX12_rare 38 = .ok (.ireturn, 1) := by decide +kernel
theorem dX12_rare_39 : decode cX12_rare 39 = .ok (.lconst 0, 1) := by decide +kernel
theorem dX12_rare_40 : decode cX12_rare 40 = .ok (.lstore_n 3, 1) := by decide +kernel
theorem dX12_rare_41 : decode cX12_rare 41 = .ok (.lconst 0, 1) := by decide +kernel
theorem dX12_rare_42 : decode cX12_rare 42 = .ok (.lstore 5, 2) := by decide +kernel
theorem dX12_rare_44 : decode cX12_rare 44 = .ok (.iconst (-1), 1) := by decide +kernel
theorem dX12_rare_45 : decode cX12_rare 45 = .ok (.istore 7, 2) := by decide +kernel
theorem dX12_rare_47 : decode cX12_rare 47 = .ok (.iconst (-1), 1) := by decide +kernel
theorem dX12_rare_48 : decode cX12_rare 48 = .ok (.istore 8, 2) := by decide +kernel
theorem dX12_rare_50 : decode cX12_rare 50 = .ok (.iconst 0, 1) := by decide +kernel
theorem dX12_rare_51 : decode cX12_rare 51 = .ok (.istore 9, 2) := by decide +kernel
theorem dX12_rare_53 : decode cX12_rare 53 = .ok (.iload 9, 2) := by decide +kernel
theorem dX12_rare_55 : decode cX12_rare 55 = .ok (.aload_n 0, 1) := by decide +kernel
theorem dX12_rare_56 : decode cX12_rare 56 = .ok (.getfield 306, 3) := by decide +kernel
theorem dX12_rare_59 : decode cX12_rare 59 = .ok (.if_icmp .ge 119, 3) := by decide +kernel
theorem dX12_rare_62 : decode cX12_rare 62 = .ok (.aload_n 0, 1) := by decide +kernel
theorem dX12_rare_63 : decode cX12_rare 63 = .ok (.getfield 61, 3) := by decide +kernel
theorem dX12_rare_66 : decode cX12_rare 66 = .ok (.iload 9, 2) := by decide +kernel
theorem dX12_rare_68 : decode cX12_rare 68 = .ok (.aaload, 1) := by decide +kernel
theorem dX12_rare_69 : decode cX12_rare 69 = .ok (.iconst 0, 1) := by decide +kernel
theorem dX12_rare_70 : decode cX12_rare 70 = .ok (.iaload, 1) := by decide +kernel
theorem dX12_rare_71 : decode cX12_rare 71 = .ok (.iload_n 1, 1) := by decide +kernel
theorem dX12_rare_72 : decode cX12_rare 72 = .ok (.if_icmp .eq 6, 3) := by decide +kernel
theorem dX12_rare_75 : decode cX12_rare 75 = .ok (.goto 97, 3) := by decide +kernel
theorem dX12_rare_78 : decode cX12_rare 78 = .ok (.lload_n 3, 1) := by decide +kernel
theorem dX12_rare_79 : decode cX12_rare 79 = .ok (.aload_n 0, 1) := by decide +kernel
theorem dX12_rare_80 : decode cX12_rare 80 = .ok (.getfield 61, 3) := by decide +kernel
theorem dX12_rare_83 : decode cX12_rare 83 = .ok (.iload 9, 2) := by decide +kernel
theorem dX12_rare_85 : decode cX12_rare 85 = .ok (.aaload, 1) := by decide +kernel
theorem dX12_rare_86 : decode cX12_rare 86 = .ok (.iconst 1, 1) := by decide +kernel
theorem dX12_rare_87 : decode cX12_rare 87 = .ok (.iaload, 1) := by decide +kernel
theorem dX12_rare_88 : decode cX12_rare 88 = .ok (.i2l, 1) := by decide +kernel
theorem dX12_rare_89 : decode cX12_rare 89 = .ok (.ladd, 1) := by decide +kernel
theorem dX12_rare_90 : decode cX12_rare 90 = .ok (.lstore_n 3, 1) := by decide +kernel
theorem dX12_rare_91 : decode cX12_rare 91 = .ok (.lload 5, 2) := by decide +kernel
theorem dX12_rare_93 : decode cX12_rare 93 = .ok (.aload_n 0, 1) := by decide +kernel
theorem dX12_rare_94 : decode cX12_rare 94 = .ok (.getfield 61, 3) := by decide +kernel
theorem dX12_rare_97 : decode cX12_rare 97 = .ok (.iload 9, 2) := by decide +kernel
theorem dX12_rare_99 : decode cX12_rare 99 = .ok (.aaload, 1) := by decide +kernel
theorem dX12_rare_100 : decode cX12_rare 100 = .ok (.iconst 2, 1) := by decide +kernel
theorem dX12_rare_101 : decode cX12_rare 101 = .ok (.iaload, 1) := by decide +kernel
theorem dX12_rare_102 : decode cX12_rare 102 = .ok (.i2l, 1) := by decide +kernel
theorem dX12_rare_103 : decode cX12_rare 103 = .ok (.ladd, 1) := by decide +kernel
theorem dX12_rare_104 : decode cX12_rare 104 = .ok (.lstore 5, 2) := by decide +kernel
theorem dX12_rare_106 : decode cX12_rare 106 = .ok (.ldc2_w 309, 3) := by decide +kernel
theorem dX12_rare_109 : decode cX12_rare 109 = .ok (.aload_n 0, 1) := by decide +kernel
theorem dX12_rare_110 : decode cX12_rare 110 = .ok (.getfield 61, 3) := by decide +kernel
theorem dX12_rare_113 : decode cX12_rare 113 = .ok (.iload 9, 2) := by decide +kernel
theorem dX12_rare_115 : decode cX12_rare 115 = .ok (.aaload, 1) := by decide +kernel
theorem dX12_rare_116 : decode cX12_rare 116 = .ok (.iconst 1, 1) := by decide +kernel
theorem dX12_rare_117 : decode cX12_rare 117 = .ok (.iaload, 1) := by decide +kernel
theorem dX12_rare_118 : decode cX12_rare 118 = .ok (.i2l, 1) := by decide +kernel
theorem dX12_rare_119 : decode cX12_rare 119 = .ok (.lmul, 1) := by decide +kernel
theorem dX12_rare_120 : decode cX12_rare 120 = .ok (.aload_n 0, 1) := by decide +kernel
theorem dX12_rare_121 : decode cX12_rare 121 = .ok (.getfield 61, 3) := by decide +kernel
theorem dX12_rare_124 : decode cX12_rare 124 = .ok (.iload 9, 2) := by decide +kernel
theorem dX12_rare_126 : decode cX12_rare 126 = .ok (.aaload, 1) := by decide +kernel
theorem dX12_rare_127 : decode cX12_rare 127 = .ok (.iconst 2, 1) := by decide +kernel
theorem dX12_rare_128 : decode cX12_rare 128 = .ok (.iaload, 1) := by decide +kernel
theorem dX12_rare_129 : decode cX12_rare 129 = .ok (.i2l, 1) := by decide +kernel
theorem dX12_rare_130 : decode cX12_rare 130 = .ok (.ldiv, 1) := by decide +kernel
theorem dX12_rare_131 : decode cX12_rare 131 = .ok (.l2i, 1) := by decide +kernel
theorem dX12_rare_132 : decode cX12_rare 132 = .ok (.istore 10, 2) := by decide +kernel
theorem dX12_rare_134 : decode cX12_rare 134 = .ok (.iload 7, 2) := by decide +kernel
theorem dX12_rare_136 : decode cX12_rare 136 = .ok (.iconst (-1), 1) := by decide +kernel
theorem dX12_rare_137 : decode cX12_rare 137 = .ok (.if_icmp .eq 10, 3) := by decide +kernel
theorem dX12_rare_140 : decode cX12_rare 140 = .ok (.iload 10, 2) := by decide +kernel
theorem dX12_rare_142 : decode cX12_rare 142 = .ok (.iload 7, 2) := by decide +kernel
theorem dX12_rare_144 : decode cX12_rare 144 = .ok (.if_icmp .ge 8, 3) := by decide +kernel
theorem dX12_rare_147 : decode cX12_rare 147 = .ok (.iload 10, 2) := by decide +kernel
theorem dX12_rare_149 : decode cX12_rare 149 = .ok (.goto 5, 3) := by decide +kernel
theorem dX12_rare_152 : decode cX12_rare 152 = .ok (.iload 7, 2) := by decide +kernel
theorem dX12_rare_154 : decode cX12_rare 154 = .ok (.istore 7, 2) := by decide +kernel
theorem dX12_rare_156 : decode cX12_rare 156 = .ok (.iload 10, 2) := by decide +kernel
theorem dX12_rare_158 : decode cX12_rare 158 = .ok (.iload 8, 2) := by decide +kernel
theorem dX12_rare_160 : decode cX12_rare 160 = .ok (.if_icmp .le 8, 3) := by decide +kernel
theorem dX12_rare_163 : decode cX12_rare 163 = .ok (.iload 10, 2) := by decide +kernel
theorem dX12_rare_165 : decode cX12_rare 165 = .ok (.goto 5, 3) := by decide +kernel
theorem dX12_rare_168 : decode cX12_rare 168 = .ok (.iload 8, 2) := by decide +kernel
theorem dX12_rare_170 : decode cX12_rare 170 = .ok (.istore 8, 2) := by decide +kernel
theorem dX12_rare_172 : decode cX12_rare 172 = .ok (.iinc 9 1, 3) := by decide +kernel
theorem dX12_rare_175 : decode cX12_rare 175 = .ok (.goto (-122), 3) := by decide +kernel
theorem dX12_rare_178 : decode cX12_rare 178 = .ok (.lload 5, 2) := by decide +kernel
theorem dX12_rare_180 : decode cX12_rare 180 = .ok (.lconst 0, 1) := by decide +kernel
theorem dX12_rare_181 : decode cX12_rare 181 = .ok (.lcmp, 1) := by decide +kernel
theorem dX12_rare_182 : decode cX12_rare 182 = .ok (.ifCond .ne 7, 3) := by decide +kernel
theorem dX12_rare_185 : decode cX12_rare 185 = .ok (.iconst (-1), 1) := by decide +kernel
theorem dX12_rare_186 : decode cX12_rare 186 = .ok (.goto 31, 3) := by decide +kernel
theorem dX12_rare_189 : decode cX12_rare 189 = .ok (.iload_n 2, 1) := by decide +kernel
theorem dX12_rare_190 : decode cX12_rare 190 = .ok (.ifCond .ne 15, 3) := by decide +kernel
theorem dX12_rare_193 : decode cX12_rare 193 = .ok (.ldc2_w 309, 3) := by decide +kernel
theorem dX12_rare_196 : decode cX12_rare 196 = .ok (.lload_n 3, 1) := by decide +kernel
theorem dX12_rare_197 : decode cX12_rare 197 = .ok (.lmul, 1) := by decide +kernel
theorem dX12_rare_198 : decode cX12_rare 198 = .ok (.lload 5, 2) := by decide +kernel
theorem dX12_rare_200 : decode cX12_rare 200 = .ok (.ldiv, 1) := by decide +kernel
theorem dX12_rare_201 : decode cX12_rare 201 = .ok (.l2i, 1) := by decide +kernel
theorem dX12_rare_202 : decode cX12_rare 202 = .ok (.goto 15, 3) := by decide +kernel
theorem dX12_rare_205 : decode cX12_rare 205 = .ok (.iload_n 2, 1) := by decide +kernel
theorem dX12_rare_206 : decode cX12_rare 206 = .ok (.iconst 1, 1) := by decide +kernel
theorem dX12_rare_207 : decode cX12_rare 207 = .ok (.if_icmp .ne 8, 3) := by decide +kernel
theorem dX12_rare_210 : decode cX12_rare 210 = .ok (.iload 7, 2) := by decide +kernel
theorem dX12_rare_212 : decode cX12_rare 212 = .ok (.goto 5, 3) := by decide +kernel
theorem dX12_rare_215 : decode cX12_rare 215 = .ok (.iload 8, 2) := by decide +kernel
theorem dX12_rare_217 : decode cX12_rare 217 = .ok (.ireturn, 1) := by decide +kernel
theorem dX12_isLookedAt_0 : decode cX12_isLookedAt 0 = .ok (.iconst 0, 1) := by decide +kernel
theorem dX12_isLookedAt_1 : decode cX12_isLookedAt 1 = .ok (.istore 4, 2) := by decide +kernel
theorem dX12_isLookedAt_3 : decode cX12_isLookedAt 3 = .ok (.iload 4, 2) := by decide +kernel
theorem dX12_isLookedAt_5 : decode cX12_isLookedAt 5 = .ok (.aload_n 0, 1) := by decide +kernel
theorem dX12_isLookedAt_6 : decode cX12_isLookedAt 6 = .ok (.getfield 247, 3) := by decide +kernel
theorem dX12_isLookedAt_9 : decode cX12_isLookedAt 9 = .ok (.if_icmp .ge 58, 3) := by decide +kernel
theorem dX12_isLookedAt_12 : decode cX12_isLookedAt 12 = .ok (.aload_n 0, 1) := by decide +kernel
theorem dX12_isLookedAt_13 : decode cX12_isLookedAt 13 = .ok (.getfield 55, 3) := by decide +kernel
theorem dX12_isLookedAt_16 : decode cX12_isLookedAt 16 = .ok (.iload 4, 2) := by decide +kernel
theorem dX12_isLookedAt_18 : decode cX12_isLookedAt 18 = .ok (.aaload, 1) := by decide +kernel
theorem dX12_isLookedAt_19 : decode cX12_isLookedAt 19 = .ok (.iconst 0, 1) := by decide +kernel
theorem dX12_isLookedAt_20 : decode cX12_isLookedAt 20 = .ok (.iaload, 1) := by decide +kernel
theorem dX12_isLookedAt_21 : decode cX12_isLookedAt 21 = .ok (.iload_n 1, 1) := by decide +kernel
theorem dX12_isLookedAt_22 : decode cX12_isLookedAt 22 = .ok (.if_icmp .ne 39, 3) := by decide +kernel
theorem dX12_isLookedAt_25 : decode cX12_isLookedAt 25 = .ok (.aload_n 0, 1) := by decide +kernel
theorem dX12_isLookedAt_26 : decode cX12_isLookedAt 26 = .ok (.getfield 55, 3) := by decide +kernel
theorem dX12_isLookedAt_29 : decode cX12_isLookedAt 29 = .ok (.iload 4, 2) := by decide +kernel
theorem dX12_isLookedAt_31 : decode cX12_isLookedAt 31 = .ok (.aaload, 1) := by decide +kernel
theorem dX12_isLookedAt_32 : decode cX12_isLookedAt 32 = .ok (.iconst 1, 1) := by decide +kernel
theorem dX12_isLookedAt_33 : decode cX12_isLookedAt 33 = .ok (.iaload, 1) := by decide +kernel
theorem dX12_isLookedAt_34 : decode cX12_isLookedAt 34 = .ok (.iload_n 2, 1) := by decide +kernel
theorem dX12_isLookedAt_35 : decode cX12_isLookedAt 35 = .ok (.if_icmp .ne 26, 3) := by decide +kernel
theorem dX12_isLookedAt_38 : decode cX12_isLookedAt 38 = .ok (.aload_n 0, 1) := by decide +kernel
theorem dX12_isLookedAt_39 : decode cX12_isLookedAt 39 = .ok (.iload_n 3, 1) := by decide +kernel
theorem dX12_isLookedAt_40 : decode cX12_isLookedAt 40 = .ok (.invokevirtual 202, 3) := by decide +kernel
theorem dX12_isLookedAt_43 : decode cX12_isLookedAt 43 = .ok (.aload_n 0, 1) := by decide +kernel
theorem dX12_isLookedAt_44 : decode cX12_isLookedAt 44 = .ok (.getfield 55, 3) := by decide +kernel
theorem dX12_isLookedAt_47 : decode cX12_isLookedAt 47 = .ok (.iload 4, 2) := by decide +kernel
theorem dX12_isLookedAt_49 : decode cX12_isLookedAt 49 = .ok (.aaload, 1) := by decide +kernel
theorem dX12_isLookedAt_50 : decode cX12_isLookedAt 50 = .ok (.iconst 2, 1) := by decide +kernel
theorem dX12_isLookedAt_51 : decode cX12_isLookedAt 51 = .ok (.iaload, 1) := by decide +kernel
theorem dX12_isLookedAt_52 : decode cX12_isLookedAt 52 = .ok (.ishr, 1) := by decide +kernel
theorem dX12_isLookedAt_53 : decode cX12_isLookedAt 53 = .ok (.iconst 1, 1) := by decide +kernel
theorem dX12_isLookedAt_54 : decode cX12_isLookedAt 54 = .ok (.iand, 1) := by decide +kernel
theorem dX12_isLookedAt_55 : decode cX12_isLookedAt 55 = .ok (.iconst 1, 1) := by decide +kernel
theorem dX12_isLookedAt_56 : decode cX12_isLookedAt 56 = .ok (.if_icmp .ne 5, 3) := by decide +kernel
theorem dX12_isLookedAt_59 : decode cX12_isLookedAt 59 = .ok (.iconst 1, 1) := by decide +kernel
theorem dX12_isLookedAt_60 : decode cX12_isLookedAt 60 = .ok (.ireturn, 1) := by decide +kernel
theorem dX12_isLookedAt_61 : decode cX12_isLookedAt 61 = .ok (.iinc 4 1, 3) := by decide +kernel
theorem dX12_isLookedAt_64 : decode cX12_isLookedAt 64 = .ok (.goto (-61), 3) := by decide +kernel
theorem dX12_isLookedAt_67 : decode cX12_isLookedAt 67 = .ok (.iconst 0, 1) := by decide +kernel
theorem dX12_isLookedAt_68 : decode cX12_isLookedAt 68 = .ok (.ireturn, 1) := by decide +kernel
theorem dX12_next_0 : decode cX12_next 0 = .ok (.aload_n 0, 1) := by decide +kernel
theorem dX12_next_1 : decode cX12_next 1 = .ok (.iconst 0, 1) := by decide +kernel
theorem dX12_next_2 : decode cX12_next 2 = .ok (.putfield 94, 3) := by decide +kernel
theorem dX12_next_5 : decode cX12_next 5 = .ok (.aload_n 0, 1) := by decide +kernel
theorem dX12_next_6 : decode cX12_next 6 = .ok (.aload_n 0, 1) := by decide +kernel
theorem dX12_next_7 : decode cX12_next 7 = .ok (.iload_n 1, 1) := by decide +kernel
theorem dX12_next_8 : decode cX12_next 8 = .ok (.invokevirtual 235, 3) := by decide +kernel
theorem dX12_next_11 : decode cX12_next 11 = .ok (.ifCond .eq 11, 3) := by decide +kernel
theorem dX12_next_14 : decode cX12_next 14 = .ok (.aload_n 0, 1) := by decide +kernel
theorem dX12_next_15 : decode cX12_next 15 = .ok (.iload_n 2, 1) := by decide +kernel
theorem dX12_next_16 : decode cX12_next 16 = .ok (.invokevirtual 235, 3) := by decide +kernel
theorem dX12_next_19 : decode cX12_next 19 = .ok (.ifCond .ne 7, 3) := by decide +kernel
theorem dX12_next_22 : decode cX12_next 22 = .ok (.iconst 1, 1) := by decide +kernel
theorem dX12_next_23 : decode cX12_next 23 = .ok (.goto 4, 3) := by decide +kernel
theorem dX12_next_26 : decode cX12_next 26 = .ok (.iconst 0, 1) := by decide +kernel
theorem dX12_next_27 : decode cX12_next 27 = .ok (.iconst 1, 1) := by decide +kernel
theorem dX12_next_28 : decode cX12_next 28 = .ok (.invokevirtual 170, 3) := by decide +kernel
theorem dX12_next_31 : decode cX12_next 31 = .ok (.ifCond .ne 14, 3) := by decide +kernel
theorem dX12_next_34 : decode cX12_next 34 = .ok (.aload_n 0, 1) := by decide +kernel
theorem dX12_next_35 : decode cX12_next 35 = .ok (.iconst 0, 1) := by decide +kernel
theorem dX12_next_36 : decode cX12_next 36 = .ok (.iconst 0, 1) := by decide +kernel
theorem dX12_next_37 : decode cX12_next 37 = .ok (.iload_n 3, 1) := by decide +kernel
theorem dX12_next_38 : decode cX12_next 38 = .ok (.iconst 2, 1) := by decide +kernel
theorem dX12_next_39 : decode cX12_next 39 = .ok (.invokevirtual 238, 3) := by decide +kernel
theorem dX12_next_42 : decode cX12_next 42 = .ok (.ifCond .eq 5, 3) := by decide +kernel
theorem dX12_next_45 : decode cX12_next 45 = .ok (.iconst 0, 1) := by decide +kernel
theorem dX12_next_46 : decode cX12_next 46 = .ok (.ireturn, 1) := by decide +kernel
theorem dX12_next_47 : decode cX12_next 47 = .ok (.iconst (-1), 1) := by decide +kernel
theorem dX12_next_48 : decode cX12_next 48 = .ok (.istore 4, 2) := by decide +kernel
theorem dX12_next_50 : decode cX12_next 50 = .ok (.iconst 0, 1) := by decide +kernel
theorem dX12_next_51 : decode cX12_next 51 = .ok (.istore 5, 2) := by decide +kernel
theorem dX12_next_53 : decode cX12_next 53 = .ok (.iconst 0, 1) := by decide +kernel
theorem dX12_next_54 : decode cX12_next 54 = .ok (.istore 6, 2) := by decide +kernel
theorem dX12_next_56 : decode cX12_next 56 = .ok (.iload 6, 2) := by decide +kernel
theorem dX12_next_58 : decode cX12_next 58 = .ok (.bipush 10, 2) := by decide +kernel
theorem dX12_next_60 : decode cX12_next 60 = .ok (.if_icmp .ge 120, 3) := by decide +kernel
theorem dX12_next_63 : decode cX12_next 63 = .ok (.iconst 0, 1) := by decide +kernel
theorem dX12_next_64 : decode cX12_next 64 = .ok (.istore 7, 2) := by decide +kernel
theorem dX12_next_66 : decode cX12_next 66 = .ok (.iload 7, 2) := by decide +kernel
theorem dX12_next_68 : decode cX12_next 68 = .ok (.bipush 10, 2) := by decide +kernel
theorem dX12_next_70 : decode cX12_next 70 = .ok (.if_icmp .ge 104, 3) := by decide +kernel
theorem dX12_next_73 : decode cX12_next 73 = .ok (.aload_n 0, 1) := by decide +kernel
theorem dX12_next_74 : decode cX12_next 74 = .ok (.iload 6, 2) := by decide +kernel
theorem dX12_next_76 : decode cX12_next 76 = .ok (.iload_n 3, 1) := by decide +kernel
theorem dX12_next_77 : decode cX12_next 77 = .ok (.iload 7, 2) := by decide +kernel
theorem dX12_next_79 : decode cX12_next 79 = .ok (.invokevirtual 311, 3) := by decide +kernel
theorem dX12_next_82 : decode cX12_next 82 = .ok (.ifCond .eq 6, 3) := by decide +kernel
theorem dX12_next_85 : decode cX12_next 85 = .ok (.goto 83, 3) := by decide +kernel
theorem dX12_next_88 : decode cX12_next 88 = .ok (.aload_n 0, 1) := by decide +kernel
theorem dX12_next_89 : decode cX12_next 89 = .ok (.iload_n 1, 1) := by decide +kernel
theorem dX12_next_90 : decode cX12_next 90 = .ok (.iload_n 3, 1) := by decide +kernel
theorem dX12_next_91 : decode cX12_next 91 = .ok (.invokevirtual 241, 3) := by decide +kernel
theorem dX12_next_94 : decode cX12_next 94 = .ok (.aload_n 0, 1) := by decide +kernel
theorem dX12_next_95 : decode cX12_next 95 = .ok (.iload 6, 2) := by decide +kernel
theorem dX12_next_97 : decode cX12_next 97 = .ok (.iload 7, 2) := by decide +kernel
theorem dX12_next_99 : decode cX12_next 99 = .ok (.invokevirtual 244, 3) := by decide +kernel
theorem dX12_next_102 : decode cX12_next 102 = .ok (.istore 8, 2) := by decide +kernel
theorem dX12_next_104 : decode cX12_next 104 = .ok (.aload_n 0, 1) := by decide +kernel
theorem dX12_next_105 : decode cX12_next 105 = .ok (.iload_n 2, 1) := by decide +kernel
theorem dX12_next_106 : decode cX12_next 106 = .ok (.iload_n 3, 1) := by decide +kernel
theorem dX12_next_107 : decode cX12_next 107 = .ok (.invokevirtual 241, 3) := by decide +kernel
theorem dX12_next_110 : decode cX12_next 110 = .ok (.iload 8, 2) := by decide +kernel
theorem dX12_next_112 : decode cX12_next 112 = .ok (.aload_n 0, 1) := by decide +kernel
theorem dX12_next_113 : decode cX12_next 113 = .ok (.iload 6, 2) := by decide +kernel
theorem dX12_next_115 : decode cX12_next 115 = .ok (.iload 7, 2) := by decide +kernel
theorem dX12_next_117 : decode cX12_next 117 = .ok (.invokevirtual 244, 3) := by decide +kernel
theorem dX12_next_120 : decode cX12_next 120 = .ok (.isub, 1) := by decide +kernel
theorem dX12_next_121 : decode cX12_next 121 = .ok (.istore 9, 2) := by decide +kernel
theorem dX12_next_123 : decode cX12_next 123 = .ok (.iload 9, 2) := by decide +kernel
theorem dX12_next_125 : decode cX12_next 125 = .ok (.ifCond .ge 9, 3) := by decide +kernel
theorem dX12_next_128 : decode cX12_next 128 = .ok (.iload 9, 2) := by decide +kernel
theorem dX12_next_130 : decode cX12_next 130 = .ok (.ineg, 1) := by decide +kernel
theorem dX12_next_131 : decode cX12_next 131 = .ok (.goto 5, 3) := by decide +kernel
theorem dX12_next_134 : decode cX12_next 134 = .ok (.iload 9, 2) := by decide +kernel
theorem dX12_next_136 : decode cX12_next 136 = .ok (.istore 9, 2) := by decide +kernel
theorem dX12_next_138 : decode cX12_next 138 = .ok (.iload 9, 2) := by decide +kernel
theorem dX12_next_140 : decode cX12_next 140 = .ok (.iload 5, 2) := by decide +kernel
theorem dX12_next_142 : decode cX12_next 142 = .ok (.if_icmp .gt 6, 3) := by decide +kernel
theorem dX12_next_145 : decode cX12_next 145 = .ok (.goto 23, 3) := by decide +kernel
theorem dX12_next_148 : decode cX12_next 148 = .ok (.iload 9, 2) := by decide +kernel
theorem dX12_next_150 : decode cX12_next 150 = .ok (.istore 5, 2) := by decide +kernel
