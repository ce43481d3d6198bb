theorem dX7_init_7 : decode cX7_init 7 = .ok (.newarray .int, 2) := by decide +kernel
theorem dX7_init_9 : decode cX7_init 9 = .ok (.putfield 9, 3) := by decide +kernel
theorem dX7_init_12 : decode cX7_init 12 = .ok (.return_, 1) := by decide +kernel
theorem dX7_add_0 : decode cX7_add 0 = .ok (.aload_n 0, 1) := by decide +kernel
theorem dX7_add_1 : decode cX7_add 1 = .ok (.getfield 15, 3) := by decide +kernel
theorem dX7_add_4 : decode cX7_add 4 = .ok (.bipush 40, 2) := by decide +kernel
theorem dX7_add_6 : decode cX7_add 6 = .ok (.invokestatic 19, 3) := by decide +kernel
theorem dX7_add_9 : decode cX7_add 9 = .ok (.ifCond .ne 5, 3) := by decide +kernel
theorem dX7_add_12 : decode cX7_add 12 = .ok (.iconst (-1), 1) := by decide +kernel
theorem dX7_add_13 : decode cX7_add 13 = .ok (.ireturn, 1) := by decide +kernel
theorem dX7_add_14 : decode cX7_add 14 = .ok (.aload_n 0, 1) := by decide +kernel
theorem dX7_add_15 : decode cX7_add 15 = .ok (.getfield 9, 3) := by decide +kernel
theorem dX7_add_18 : decode cX7_add 18 = .ok (.aload_n 0, 1) := by decide +kernel
theorem dX7_add_19 : decode cX7_add 19 = .ok (.getfield 15, 3) := by decide +kernel
theorem dX7_add_22 : decode cX7_add 22 = .ok (.iload_n 1, 1) := by decide +kernel
theorem dX7_add_23 : decode cX7_add 23 = .ok (.iastore, 1) := by decide +kernel
theorem dX7_add_24 : decode cX7_add 24 = .ok (.aload_n 0, 1) := by decide +kernel
theorem dX7_add_25 : decode cX7_add 25 = .ok (.dup, 1) := by decide +kernel
theorem dX7_add_26 : decode cX7_add 26 = .ok (.getfield 15, 3) := by decide +kernel
theorem dX7_add_29 : decode cX7_add 29 = .ok (.iconst 1, 1) := by decide +kernel
theorem dX7_add_30 : decode cX7_add 30 = .ok (.iadd, 1) := by decide +kernel
theorem dX7_add_31 : decode cX7_add 31 = .ok (.putfield 15, 3) := by decide +kernel
theorem dX7_add_34 : decode cX7_add 34 = .ok (.aload_n 0, 1) := by decide +kernel
theorem dX7_add_35 : decode cX7_add 35 = .ok (.getfield 15, 3) := by decide +kernel
theorem dX7_add_38 : decode cX7_add 38 = .ok (.ireturn, 1) := by decide +kernel
theorem dX7_copy_0 : decode cX7_copy 0 = .ok (.aload_n 0, 1) := by decide +kernel
theorem dX7_copy_1 : decode cX7_copy 1 = .ok (.iconst 0, 1) := by decide +kernel
theorem dX7_copy_2 : decode cX7_copy 2 = .ok (.putfield 15, 3) := by decide +kernel
theorem dX7_copy_5 : decode cX7_copy 5 = .ok (.iconst 0, 1) := by decide +kernel
theorem dX7_copy_6 : decode cX7_copy 6 = .ok (.istore_n 2, 1) := by decide +kernel
theorem dX7_copy_7 : decode cX7_copy 7 = .ok (.iload_n 2, 1) := by decide +kernel
theorem dX7_copy_8 : decode cX7_copy 8 = .ok (.aload_n 1, 1) := by decide +kernel
theorem dX7_copy_9 : decode cX7_copy 9 = .ok (.getfield 15, 3) := by decide +kernel
theorem dX7_copy_12 : decode cX7_copy 12 = .ok (.if_icmp .ge 26, 3) := by decide +kernel
theorem dX7_copy_15 : decode cX7_copy 15 = .ok (.iload_n 2, 1) := by decide +kernel
theorem dX7_copy_16 : decode cX7_copy 16 = .ok (.bipush 40, 2) := by decide +kernel
theorem dX7_copy_18 : decode cX7_copy 18 = .ok (.if_icmp .ge 20, 3) := by decide +kernel
theorem dX7_copy_21 : decode cX7_copy 21 = .ok (.aload_n 0, 1) := by decide +kernel
theorem dX7_copy_22 : decode cX7_copy 22 = .ok (.aload_n 1, 1) := by decide +kernel
theorem dX7_copy_23 : decode cX7_copy 23 = .ok (.getfield 9, 3) := by decide +kernel
theorem dX7_copy_26 : decode cX7_copy 26 = .ok (.iload_n 2, 1) := by decide +kernel
theorem dX7_copy_27 : decode cX7_copy 27 = .ok (.iaload, 1) := by decide +kernel
theorem dX7_copy_28 : decode cX7_copy 28 = .ok (.invokevirtual 23, 3) := by decide +kernel
theorem dX7_copy_31 : decode cX7_copy 31 = .ok (.pop, 1) := by decide +kernel
theorem dX7_copy_32 : decode cX7_copy 32 = .ok (.iinc 2 1, 3) := by decide +kernel
theorem dX7_copy_35 : decode cX7_copy 35 = .ok (.goto (-28), 3) := by decide +kernel
theorem dX7_copy_38 : decode cX7_copy 38 = .ok (.return_, 1) := by decide +kernel
theorem dX7_having_0 : decode cX7_having 0 = .ok (.iconst 0, 1) := by decide +kernel
theorem dX7_having_1 : decode cX7_having 1 = .ok (.istore_n 2, 1) := by decide +kernel
theorem dX7_having_2 : decode cX7_having 2 = .ok (.iconst 0, 1) := by decide +kernel
theorem dX7_having_3 : decode cX7_having 3 = .ok (.istore_n 3, 1) := by decide +kernel
theorem dX7_having_4 : decode cX7_having 4 = .ok (.iload_n 3, 1) := by decide +kernel
theorem dX7_having_5 : decode cX7_having 5 = .ok (.aload_n 0, 1) := by decide +kernel
theorem dX7_having_6 : decode cX7_having 6 = .ok (.getfield 15, 3) := by decide +kernel
theorem dX7_having_9 : decode cX7_having 9 = .ok (.if_icmp .ge 30, 3) := by decide +kernel
theorem dX7_having_12 : decode cX7_having 12 = .ok (.iload_n 3, 1) := by decide +kernel
theorem dX7_having_13 : decode cX7_having 13 = .ok (.bipush 40, 2) := by decide +kernel
theorem dX7_having_15 : decode cX7_having 15 = .ok (.if_icmp .ge 24, 3) := by decide +kernel
theorem dX7_having_18 : decode cX7_having 18 = .ok (.aload_n 0, 1) := by decide +kernel
theorem dX7_having_19 : decode cX7_having 19 = .ok (.getfield 9, 3) := by decide +kernel
theorem dX7_having_22 : decode cX7_having 22 = .ok (.iload_n 3, 1) := by decide +kernel
theorem dX7_having_23 : decode cX7_having 23 = .ok (.iaload, 1) := by decide +kernel
theorem dX7_having_24 : decode cX7_having 24 = .ok (.iload_n 1, 1) := by decide +kernel
theorem dX7_having_25 : decode cX7_having 25 = .ok (.iand, 1) := by decide +kernel
theorem dX7_having_26 : decode cX7_having 26 = .ok (.iload_n 1, 1) := by decide +kernel
theorem dX7_having_27 : decode cX7_having 27 = .ok (.if_icmp .ne 6, 3) := by decide +kernel
theorem dX7_having_30 : decode cX7_having 30 = .ok (.iinc 2 1, 3) := by decide +kernel
theorem dX7_having_33 : decode cX7_having 33 = .ok (.iinc 3 1, 3) := by decide +kernel
theorem dX7_having_36 : decode cX7_having 36 = .ok (.goto (-32), 3) := by decide +kernel
theorem dX7_having_39 : decode cX7_having 39 = .ok (.iload_n 2, 1) := by decide +kernel
theorem dX7_having_40 : decode cX7_having 40 = .ok (.ireturn, 1) := by decide +kernel
theorem dX8_init_0 : decode cX8_init 0 = .ok (.aload_n 0, 1) := by decide +kernel
theorem dX8_init_1 : decode cX8_init 1 = .ok (.invokespecial 3, 3) := by decide +kernel
theorem dX8_init_4 : decode cX8_init 4 = .ok (.aload_n 0, 1) := by decide +kernel
theorem dX8_init_5 : decode cX8_init 5 = .ok (.bipush 12, 2) := by decide +kernel
theorem dX8_init_7 : decode cX8_init 7 = .ok (.newarray .int, 2) := by decide +kernel
theorem dX8_init_9 : decode cX8_init 9 = .ok (.putfield 9, 3) := by decide +kernel
theorem dX8_init_12 : decode cX8_init 12 = .ok (.aload_n 0, 1) := by decide +kernel
theorem dX8_init_13 : decode cX8_init 13 = .ok (.bipush 12, 2) := by decide +kernel
theorem dX8_init_15 : decode cX8_init 15 = .ok (.newarray .int, 2) := by decide +kernel
theorem dX8_init_17 : decode cX8_init 17 = .ok (.putfield 15, 3) := by decide +kernel
theorem dX8_init_20 : decode cX8_init 20 = .ok (.aload_n 0, 1) := by decide +kernel
theorem dX8_init_21 : decode cX8_init 21 = .ok (.bipush 12, 2) := by decide +kernel
theorem dX8_init_23 : decode cX8_init 23 = .ok (.newarray .int, 2) := by decide +kernel
theorem dX8_init_25 : decode cX8_init 25 = .ok (.putfield 18, 3) := by decide +kernel
theorem dX8_init_28 : decode cX8_init 28 = .ok (.return_, 1) := by decide +kernel
theorem dX8_add_0 : decode cX8_add 0 = .ok (.aload_n 0, 1) := by decide +kernel
theorem dX8_add_1 : decode cX8_add 1 = .ok (.getfield 21, 3) := by decide +kernel
theorem dX8_add_4 : decode cX8_add 4 = .ok (.bipush 12, 2) := by decide +kernel
theorem dX8_add_6 : decode cX8_add 6 = .ok (.invokestatic 25, 3) := by decide +kernel
theorem dX8_add_9 : decode cX8_add 9 = .ok (.ifCond .ne 5, 3) := by decide +kernel
theorem dX8_add_12 : decode cX8_add 12 = .ok (.iconst (-1), 1) := by decide +kernel
theorem dX8_add_13 : decode cX8_add 13 = .ok (.ireturn, 1) := by decide +kernel
theorem dX8_add_14 : decode cX8_add 14 = .ok (.aload_n 0, 1) := by decide +kernel
theorem dX8_add_15 : decode cX8_add 15 = .ok (.getfield 9, 3) := by decide +kernel
theorem dX8_add_18 : decode cX8_add 18 = .ok (.aload_n 0, 1) := by decide +kernel
theorem dX8_add_19 : decode cX8_add 19 = .ok (.getfield 21, 3) := by decide +kernel
theorem dX8_add_22 : decode cX8_add 22 = .ok (.iload_n 1, 1) := by decide +kernel
theorem dX8_add_23 : decode cX8_add 23 = .ok (.iastore, 1) := by decide +kernel
theorem dX8_add_24 : decode cX8_add 24 = .ok (.aload_n 0, 1) := by decide +kernel
theorem dX8_add_25 : decode cX8_add 25 = .ok (.getfield 15, 3) := by decide +kernel
theorem dX8_add_28 : decode cX8_add 28 = .ok (.aload_n 0, 1) := by decide +kernel
theorem dX8_add_29 : decode cX8_add 29 = .ok (.getfield 21, 3) := by decide +kernel
theorem dX8_add_32 : decode cX8_add 32 = .ok (.iload_n 2, 1) := by decide +kernel
theorem dX8_add_33 : decode cX8_add 33 = .ok (.iastore, 1) := by decide +kernel
theorem dX8_add_34 : decode cX8_add 34 = .ok (.aload_n 0, 1) := by decide +kernel
theorem dX8_add_35 : decode cX8_add 35 = .ok (.getfield 18, 3) := by decide +kernel
theorem dX8_add_38 : decode cX8_add 38 = .ok (.aload_n 0, 1) := by decide +kernel
theorem dX8_add_39 : decode cX8_add 39 = .ok (.getfield 21, 3) := by decide +kernel
theorem dX8_add_42 : decode cX8_add 42 = .ok (.iload_n 3, 1) := by decide +kernel
theorem dX8_add_43 : decode cX8_add 43 = .ok (.iastore, 1) := by decide +kernel
theorem dX8_add_44 : decode cX8_add 44 = .ok (.aload_n 0, 1) := by decide +kernel
theorem dX8_add_45 : decode cX8_add 45 = .ok (.dup, 1) := by decide +kernel
theorem dX8_add_46 : decode cX8_add 46 = .ok (.getfield 21, 3) := by decide +kernel
theorem dX8_add_49 : decode cX8_add 49 = .ok (.iconst 1, 1) := by decide +kernel
theorem dX8_add_50 : decode cX8_add 50 = .ok (.iadd, 1) := by decide +kernel
theorem dX8_add_51 : decode cX8_add 51 = .ok (.putfield 21, 3) := by decide +kernel
theorem dX8_add_54 : decode cX8_add 54 = .ok (.aload_n 0, 1) := by decide +kernel
theorem dX8_add_55 : decode cX8_add 55 = .ok (.getfield 21, 3) := by decide +kernel
theorem dX8_add_58 : decode cX8_add 58 = .ok (.ireturn, 1) := by decide +kernel
theorem dX8_copy_0 : decode cX8_copy 0 = .ok (.aload_n 0, 1) := by decide +kernel
theorem dX8_copy_1 : decode cX8_copy 1 = .ok (.iconst 0, 1) := by decide +kernel
theorem dX8_copy_2 : decode cX8_copy 2 = .ok (.putfield 21, 3) := by decide +kernel
theorem dX8_copy_5 : decode cX8_copy 5 = .ok (.iconst 0, 1) := by decide +kernel
theorem dX8_copy_6 : decode cX8_copy 6 = .ok (.istore_n 2, 1) := by decide +kernel
theorem dX8_copy_7 : decode cX8_copy 7 = .ok (.iload_n 2, 1) := by decide +kernel
theorem dX8_copy_8 : decode cX8_copy 8 = .ok (.aload_n 1, 1) := by decide +kernel
theorem dX8_copy_9 : decode cX8_copy 9 = .ok (.getfield 21, 3) := by decide +kernel
theorem dX8_copy_12 : decode cX8_copy 12 = .ok (.if_icmp .ge 38, 3) := by decide +kernel
theorem dX8_copy_15 : decode cX8_copy 15 = .ok (.iload_n 2, 1) := by decide +kernel
theorem dX8_copy_16 : decode cX8_copy 16 = .ok (.bipush 12, 2) := by decide +kernel
theorem dX8_copy_18 : decode cX8_copy 18 = .ok (.if_icmp .ge 32, 3) := by decide +kernel
theorem dX8_copy_21 : decode cX8_copy 21 = .ok (.aload_n 0, 1) := by decide +kernel
theorem dX8_copy_22 : decode cX8_copy 22 = .ok (.aload_n 1, 1) := by decide +kernel
theorem dX8_copy_23 : decode cX8_copy 23 = .ok (.getfield 9, 3) := by decide +kernel
theorem dX8_copy_26 : decode cX8_copy 26 = .ok (.iload_n 2, 1) := by decide +kernel
theorem dX8_copy_27 : decode cX8_copy 27 = .ok (.iaload, 1) := by decide +kernel
theorem dX8_copy_28 : decode cX8_copy 28 = .ok (.aload_n 1, 1) := by decide +kernel
theorem dX8_copy_29 : decode cX8_copy 29 = .ok (.getfield 15, 3) := by decide +kernel
theorem dX8_copy_32 : decode cX8_copy 32 = .ok (.iload_n 2, 1) := by decide +kernel
theorem dX8_copy_33 : decode cX8_copy 33 = .ok (.iaload, 1) := by decide +kernel
theorem dX8_copy_34 : decode cX8_copy 34 = .ok (.aload_n 1, 1) := by decide +kernel
theorem dX8_copy_35 : decode cX8_copy 35 = .ok (.getfield 18, 3) := by decide +kernel
theorem dX8_copy_38 : decode cX8_copy 38 = .ok (.iload_n 2, 1) := by decide +kernel
theorem dX8_copy_39 : decode cX8_copy 39 = .ok (.iaload, 1) := by decide +kernel
theorem dX8_copy_40 : decode cX8_copy 40 = .ok (.invokevirtual 29, 3) := by decide +kernel
theorem dX8_copy_43 : decode cX8_copy 43 = .ok (.pop, 1) := by decide +kernel
theorem dX8_copy_44 : decode cX8_copy 44 = .ok (.iinc 2 1, 3) := by decide +kernel
theorem dX8_copy_47 : decode cX8_copy 47 = .ok (.goto (-40), 3) := by decide +kernel
theorem dX8_copy_50 : decode cX8_copy 50 = .ok (.return_, 1) := by decide +kernel
theorem dX8_rareInAll_0 : decode cX8_rareInAll 0 = .ok (.lconst 0, 1) := by decide +kernel
theorem dX8_rareInAll_1 : decode cX8_rareInAll 1 = .ok (.lstore_n 2, 1) := by decide +kernel
theorem dX8_rareInAll_2 : decode cX8_rareInAll 2 = .ok (.lconst 0, 1) := by decide +kernel
theorem dX8_rareInAll_3 : decode cX8_rareInAll 3 = .ok (.lstore 4, 2) := by decide +kernel
theorem dX8_rareInAll_5 : decode cX8_rareInAll 5 = .ok (.iconst 0, 1) := by decide +kernel
theorem dX8_rareInAll_6 : decode cX8_rareInAll 6 = .ok (.istore 6, 2) := by decide +kernel
theorem dX8_rareInAll_8 : decode cX8_rareInAll 8 = .ok (.iload 6, 2) := by decide +kernel
theorem dX8_rareInAll_10 : decode cX8_rareInAll 10 = .ok (.aload_n 0, 1) := by decide +kernel
theorem dX8_rareInAll_11 : decode cX8_rareInAll 11 = .ok (.getfield 21, 3) := by decide +kernel
theorem dX8_rareInAll_14 : decode cX8_rareInAll 14 = .ok (.if_icmp .ge 51, 3) := by decide +kernel
theorem dX8_rareInAll_17 : decode cX8_rareInAll 17 = .ok (.iload 6, 2) := by decide +kernel
theorem dX8_rareInAll_19 : decode cX8_rareInAll 19 = .ok (.bipush 12, 2) := by decide +kernel
theorem dX8_rareInAll_21 : decode cX8_rareInAll 21 = .ok (.if_icmp .ge 44, 3) := by decide +kernel
theorem dX8_rareInAll_24 : decode cX8_rareInAll 24 = .ok (.aload_n 0, 1) := by decide +kernel
theorem dX8_rareInAll_25 : decode cX8_rareInAll 25 = .ok (.getfield 9, 3) := by decide +kernel
theorem dX8_rareInAll_28 : decode cX8_rareInAll 28 = .ok (.iload 6, 2) := by decide +kernel
theorem dX8_rareInAll_30 : decode cX8_rareInAll 30 = .ok (.iaload, 1) := by decide +kernel
theorem dX8_rareInAll_31 : decode cX8_rareInAll 31 = .ok (.iload_n 1, 1) := by decide +kernel
theorem dX8_rareInAll_32 : decode cX8_rareInAll 32 = .ok (.if_icmp .ne 27, 3) := by decide +kernel
theorem dX8_rareInAll_35 : decode cX8_rareInAll 35 = .ok (.lload_n 2, 1) := by decide +kernel
theorem dX8_rareInAll_36 : decode cX8_rareInAll 36 = .ok (.aload_n 0, 1) := by decide +kernel
theorem dX8_rareInAll_37 : decode cX8_rareInAll 37 = .ok (.getfield 15, 3) := by decide +kernel
theorem dX8_rareInAll_40 : decode cX8_rareInAll 40 = .ok (.iload 6, 2) := by decide +kernel
theorem dX8_rareInAll_42 : decode cX8_rareInAll 42 = .ok (.iaload, 1) := by decide +kernel
theorem dX8_rareInAll_43 : decode cX8_rareInAll 43 = .ok (.i2l, 1) := by decide +kernel
theorem dX8_rareInAll_44 : decode cX8_rareInAll 44 = .ok (.ladd, 1) := by decide +kernel
theorem dX8_rareInAll_45 : decode cX8_rareInAll 45 = .ok (.lstore_n 2, 1) := by decide +kernel
theorem dX8_rareInAll_46 : decode cX8_rareInAll 46 = .ok (.lload 4, 2) := by decide +kernel
theorem dX8_rareInAll_48 : decode cX8_rareInAll 48 = .ok (.aload_n 0, 1) := by decide +kernel
theorem dX8_rareInAll_49 : decode cX8_rareInAll 49 = .ok (.getfield 18, 3) := by decide +kernel
theorem dX8_rareInAll_52 : decode cX8_rareInAll 52 = .ok (.iload 6, 2) := by decide +kernel
theorem dX8_rareInAll_54 : decode cX8_rareInAll 54 = .ok (.iaload, 1) := by decide +kernel
theorem dX8_rareInAll_55 : decode cX8_rareInAll 55 = .ok (.i2l, 1) := by decide +kernel
theorem dX8_rareInAll_56 : decode cX8_rareInAll 56 = .ok (.ladd, 1) := by decide +kernel
theorem dX8_rareInAll_57 : decode cX8_rareInAll 57 = .ok (.lstore 4, 2) := by decide +kernel
theorem dX8_rareInAll_59 : decode cX8_rareInAll 59 = .ok (.iinc 6 1, 3) := by decide +kernel
theorem dX8_rareInAll_62 : decode cX8_rareInAll 62 = .ok (.goto (-54), 3) := by decide +kernel
theorem dX8_rareInAll_65 : decode cX8_rareInAll 65 = .ok (.lload_n 2, 1) := by decide +kernel
theorem dX8_rareInAll_66 : decode cX8_rareInAll 66 = .ok (.lload 4, 2) := by decide +kernel
theorem dX8_rareInAll_68 : decode cX8_rareInAll 68 = .ok (.invokestatic 33, 3) := by decide +kernel
theorem dX8_rareInAll_71 : decode cX8_rareInAll 71 = .ok (.ireturn, 1) := by decide +kernel
theorem dX8_rareAtLeast_0 : decode cX8_rareAtLeast 0 = .ok (.iconst (-1), 1) := by decide +kernel
theorem dX8_rareAtLeast_1 : decode cX8_rareAtLeast 1 = .ok (.istore_n 2, 1) := by decide +kernel
theorem dX8_rareAtLeast_2 : decode cX8_rareAtLeast 2 = .ok (.iconst 0, 1) := by decide +kernel
theorem dX8_rareAtLeast_3 : decode cX8_rareAtLeast 3 = .ok (.istore_n 3, 1) := by decide +kernel
theorem dX8_rareAtLeast_4 : decode cX8_rareAtLeast 4 = .ok (.iload_n 3, 1) := by decide +kernel
theorem dX8_rareAtLeast_5 : decode cX8_rareAtLeast 5 = .ok (.aload_n 0, 1) := by decide +kernel
theorem dX8_rareAtLeast_6 : decode cX8_rareAtLeast 6 = .ok (.getfield 21, 3) := by decide +kernel
theorem dX8_rareAtLeast_9 : decode cX8_rareAtLeast 9 = .ok (.if_icmp .ge 61, 3) := by decide +kernel
theorem dX8_rareAtLeast_12 : decode cX8_rareAtLeast 12 = .ok (.iload_n 3, 1) := by decide +kernel
theorem dX8_rareAtLeast_13 : decode cX8_rareAtLeast 13 = .ok (.bipush 12, 2) := by decide +kernel
theorem dX8_rareAtLeast_15 : decode cX8_rareAtLeast 15 = .ok (.if_icmp .ge 55, 3) := by decide +kernel
theorem dX8_rareAtLeast_18 : decode cX8_rareAtLeast 18 = .ok (.aload_n 0, 1) := by decide +kernel
theorem dX8_rareAtLeast_19 : decode cX8_rareAtLeast 19 = .ok (.getfield 9, 3) := by decide +kernel
theorem dX8_rareAtLeast_22 : decode cX8_rareAtLeast 22 = .ok (.iload_n 3, 1) := by decide +kernel
theorem dX8_rareAtLeast_23 : decode cX8_rareAtLeast 23 = .ok (.iaload, 1) := by decide +kernel
theorem dX8_rareAtLeast_24 : decode cX8_rareAtLeast 24 = .ok (.iload_n 1, 1) := by decide +kernel
theorem dX8_rareAtLeast_25 : decode cX8_rareAtLeast 25 = .ok (.if_icmp .ne 39, 3) := by decide +kernel
theorem dX8_rareAtLeast_28 : decode cX8_rareAtLeast 28 = .ok (.aload_n 0, 1) := by decide +kernel
theorem dX8_rareAtLeast_29 : decode cX8_rareAtLeast 29 = .ok (.getfield 15, 3) := by decide +kernel
theorem dX8_rareAtLeast_32 : decode cX8_rareAtLeast 32 = .ok (.iload_n 3, 1) := by decide +kernel
theorem dX8_rareAtLeast_33 : decode cX8_rareAtLeast 33 = .ok (.iaload, 1) := by decide +kernel
theorem dX8_rareAtLeast_34 : decode cX8_rareAtLeast 34 = .ok (.i2l, 1) := by decide +kernel
theorem dX8_rareAtLeast_35 : decode cX8_rareAtLeast 35 = .ok (.aload_n 0, 1) := by decide +kernel
theorem dX8_rareAtLeast_36 : decode cX8_rareAtLeast 36 = .ok (.getfield 18, 3) := by decide +kernel
theorem dX8_rareAtLeast_39 : decode cX8_rareAtLeast 39 = .ok (.iload_n 3, 1) := by decide +kernel
theorem dX8_rareAtLeast_40 : decode cX8_rareAtLeast 40 = .ok (.iaload, 1) := by decide +kernel
theorem dX8_rareAtLeast_41 : decode cX8_rareAtLeast 41 = .ok (.i2l, 1) := by decide +kernel
theorem dX8_rareAtLeast_42 : decode cX8_rareAtLeast 42 = .ok (.invokestatic 33, 3) := by decide +kernel
theorem dX8_rareAtLeast_45 : decode cX8_rareAtLeast 45 = .ok (.istore 4, 2) := by decide +kernel
theorem dX8_rareAtLeast_47 : decode cX8_rareAtLeast 47 = .ok (.iload_n 2, 1) := by decide +kernel
theorem dX8_rareAtLeast_48 : decode cX8_rareAtLeast 48 = .ok (.iconst (-1), 1) := by decide +kernel
theorem dX8_rareAtLeast_49 : decode cX8_rareAtLeast 49 = .ok (.if_icmp .ne 8, 3) := by decide +kernel
theorem dX8_rareAtLeast_52 : decode cX8_rareAtLeast 52 = .ok (.iload 4, 2) := by decide +kernel
theorem dX8_rareAtLeast_54 : decode cX8_rareAtLeast 54 = .ok (.goto 9, 3) := by decide +kernel
theorem dX8_rareAtLeast_57 : decode cX8_rareAtLeast 57 = .ok (.iload_n 2, 1) := by decide +kernel
theorem dX8_rareAtLeast_58 : decode cX8_rareAtLeast 58 = .ok (.iload 4, 2) := by decide +kernel
theorem dX8_rareAtLeast_60 : decode cX8_rareAtLeast 60 = .ok (.invokestatic 37, 3) := by decide +kernel
theorem dX8_rareAtLeast_63 : decode cX8_rareAtLeast 63 = .ok (.istore_n 2, 1) := by decide +kernel
theorem dX8_rareAtLeast_64 : decode cX8_rareAtLeast 64 = .ok (.iinc 3 1, 3) := by decide +kernel
theorem dX8_rareAtLeast_67 : decode cX8_rareAtLeast 67 = .ok (.goto (-63), 3) := by decide +kernel
theorem dX8_rareAtLeast_70 : decode cX8_rareAtLeast 70 = .ok (.iload_n 2, 1) := by decide +kernel
theorem dX8_rareAtLeast_71 : decode cX8_rareAtLeast 71 = .ok (.ireturn, 1) := by decide +kernel
theorem dX8_rareAtMost_0 : decode cX8_rareAtMost 0 = .ok (.iconst (-1), 1) := by decide +kernel
theorem dX8_rareAtMost_1 : decode cX8_rareAtMost 1 = .ok (.istore_n 2, 1) := by decide +kernel
theorem dX8_rareAtMost_2 : decode cX8_rareAtMost 2 = .ok (.iconst 0, 1) := by decide +kernel
theorem dX8_rareAtMost_3 : decode cX8_rareAtMost 3 = .ok (.istore_n 3, 1) := by decide +kernel
theorem dX8_rareAtMost_4 : decode cX8_rareAtMost 4 = .ok (.iload_n 3, 1) := by decide +kernel
theorem dX8_rareAtMost_5 : decode cX8_rareAtMost 5 = .ok (.aload_n 0, 1) := by decide +kernel
theorem dX8_rareAtMost_6 : decode cX8_rareAtMost 6 = .ok (.getfield 21, 3) := by decide +kernel
theorem dX8_rareAtMost_9 : decode cX8_rareAtMost 9 = .ok (.if_icmp .ge 47, 3) := by decide +kernel
theorem dX8_rareAtMost_12 : decode cX8_rareAtMost 12 = .ok (.iload_n 3, 1) := by decide +kernel
theorem dX8_rareAtMost_13 : decode cX8_rareAtMost 13 = .ok (.bipush 12, 2) := by decide +kernel
theorem dX8_rareAtMost_15 : decode cX8_rareAtMost 15 = .ok (.if_icmp .ge 41, 3) := by decide +kernel
theorem dX8_rareAtMost_18 : decode cX8_rareAtMost 18 = .ok (.aload_n 0, 1) := by decide +kernel
theorem dX8_rareAtMost_19 : decode cX8_rareAtMost 19 = .ok (.getfield 9, 3) := by decide +kernel
theorem dX8_rareAtMost_22 : decode cX8_rareAtMost 22 = .ok (.iload_n 3, 1) := by decide +kernel
theorem dX8_rareAtMost_23 : decode cX8_rareAtMost 23 = .ok (.iaload, 1) := by decide +kernel
theorem dX8_rareAtMost_24 : decode cX8_rareAtMost 24 = .ok (.iload_n 1, 1) := by decide +kernel
theorem dX8_rareAtMost_25 : decode cX8_rareAtMost 25 = .ok (.if_icmp .ne 25, 3) := by decide +kernel
theorem dX8_rareAtMost_28 : decode cX8_rareAtMost 28 = .ok (.iload_n 2, 1) := by decide +kernel
theorem dX8_rareAtMost_29 : decode cX8_rareAtMost 29 = .ok (.aload_n 0, 1) := by decide +kernel
theorem dX8_rareAtMost_30 : decode cX8_rareAtMost 30 = .ok (.getfield 15, 3) := by decide +kernel
theorem dX8_rareAtMost_33 : decode cX8_rareAtMost 33 = .ok (.iload_n 3, 1) := by decide +kernel
theorem dX8_rareAtMost_34 : decode cX8_rareAtMost 34 = .ok (.iaload, 1) := by decide +kernel
theorem dX8_rareAtMost_35 : decode cX8_rareAtMost 35 = .ok (.i2l, 1) := by decide +kernel
theorem dX8_rareAtMost_36 : decode cX8_rareAtMost 36 = .ok (.aload_n 0, 1) := by decide +kernel
theorem dX8_rareAtMost_37 : decode cX8_rareAtMost 37 = .ok (.getfield 18, 3) := by decide +kernel
theorem dX8_rareAtMost_40 : decode cX8_rareAtMost 40 = .ok (.iload_n 3, 1) := by decide +kernel
theorem dX8_rareAtMost_41 : decode cX8_rareAtMost 41 = .ok (.iaload, 1) := by decide +kernel
theorem dX8_rareAtMost_42 : decode cX8_rareAtMost 42 = .ok (.i2l, 1) := by decide +kernel
theorem dX8_rareAtMost_43 : decode cX8_rareAtMost 43 = .ok (.invokestatic 33, 3) := by decide +kernel
theorem dX8_rareAtMost_46 : decode cX8_rareAtMost 46 = .ok (.invokestatic 43, 3) := by decide +kernel
theorem dX8_rareAtMost_49 : decode cX8_rareAtMost 49 = .ok (.istore_n 2, 1) := by decide +kernel
theorem dX8_rareAtMost_50 : decode cX8_rareAtMost 50 = .ok (.iinc 3 1, 3) := by decide +kernel
theorem dX8_rareAtMost_53 : decode cX8_rareAtMost 53 = .ok (.goto (-49), 3) := by decide +kernel
theorem dX8_rareAtMost_56 : decode cX8_rareAtMost 56 = .ok (.iload_n 2, 1) := by decide +kernel
theorem dX8_rareAtMost_57 : decode cX8_rareAtMost 57 = .ok (.ireturn, 1) := by decide +kernel
theorem dX8_thousandths_0 : decode cX8_thousandths 0 = .ok (.lload_n 2, 1) := by decide +kernel
theorem dX8_thousandths_1 : decode cX8_thousandths 1 = .ok (.lconst 0, 1) := by decide +kernel
theorem dX8_thousandths_2 : decode cX8_thousandths 2 = .ok (.lcmp, 1) := by decide +kernel
theorem dX8_thousandths_3 : decode cX8_thousandths 3 = .ok (.ifCond .le 14, 3) := by decide +kernel
theorem dX8_thousandths_6 : decode cX8_thousandths 6 = .ok (.ldc2_w 46, 3) := by decide +kernel
theorem dX8_thousandths_9 : decode cX8_thousandths 9 = .ok (.lload_n 0, 1) := by decide +kernel
theorem dX8_thousandths_10 : decode cX8_thousandths 10 = .ok (.lmul, 1) := by decide +kernel
theorem dX8_thousandths_11 : decode cX8_thousandths 11 = .ok (.lload_n 2, 1) := by decide +kernel
theorem dX8_thousandths_12 : decode cX8_thousandths 12 = .ok (.ldiv, 1) := by decide +kernel
theorem dX8_thousandths_13 : decode cX8_thousandths 13 = .ok (.l2i, 1) := by decide +kernel
theorem dX8_thousandths_14 : decode cX8_thousandths 14 = .ok (.goto 4, 3) := by decide +kernel
theorem dX8_thousandths_17 : decode cX8_thousandths 17 = .ok (.iconst (-1), 1) := by decide +kernel
theorem dX8_thousandths_18 : decode cX8_thousandths 18 = .ok (.ireturn, 1) := by decide +kernel
theorem dX9_init_0 : decode cX9_init 0 = .ok (.aload_n 0, 1) := by decide +kernel
theorem dX9_init_1 : decode cX9_init 1 = .ok (.invokespecial 3, 3) := by decide +kernel
theorem dX9_init_4 : decode cX9_init 4 = .ok (.aload_n 0, 1) := by decide +kernel
theorem dX9_init_5 : decode cX9_init 5 = .ok (.bipush 21, 2) := by decide +kernel
theorem dX9_init_7 : decode cX9_init 7 = .ok (.newarray .int, 2) := by decide +kernel
theorem dX9_init_9 : decode cX9_init 9 = .ok (.putfield 9, 3) := by decide +kernel
theorem dX9_init_12 : decode cX9_init 12 = .ok (.aload_n 0, 1) := by decide +kernel
theorem dX9_init_13 : decode cX9_init 13 = .ok (.bipush 21, 2) := by decide +kernel
theorem dX9_init_15 : decode cX9_init 15 = .ok (.newarray .int, 2) := by decide +kernel
theorem dX9_init_17 : decode cX9_init 17 = .ok (.putfield 15, 3) := by decide +kernel
theorem dX9_init_20 : decode cX9_init 20 = .ok (.aload_n 0, 1) := by decide +kernel
theorem dX9_init_21 : decode cX9_init 21 = .ok (.bipush 21, 2) := by decide +kernel
theorem dX9_init_23 : decode cX9_init 23 = .ok (.newarray .int, 2) := by decide +kernel
theorem dX9_init_25 : decode cX9_init 25 = .ok (.putfield 18, 3) := by decide +kernel
theorem dX9_init_28 : decode cX9_init 28 = .ok (.aload_n 0, 1) := by decide +kernel
theorem dX9_init_29 : decode cX9_init 29 = .ok (.bipush 21, 2) := by decide +kernel
theorem dX9_init_31 : decode cX9_init 31 = .ok (.newarray .int, 2) := by decide +kernel
theorem dX9_init_33 : decode cX9_init 33 = .ok (.putfield 21, 3) := by decide +kernel
theorem dX9_init_36 : decode cX9_init 36 = .ok (.return_, 1) := by decide +kernel
theorem dX9_add_0 : decode cX9_add 0 = .ok (.aload_n 0, 1) := by decide +kernel
theorem dX9_add_1 : decode cX9_add 1 = .ok (.getfield 24, 3) := by decide +kernel
theorem dX9_add_4 : decode cX9_add 4 = .ok (.bipush 21, 2) := by decide +kernel
theorem dX9_add_6 : decode cX9_add 6 = .ok (.invokestatic 28, 3) := by decide +kernel
theorem dX9_add_9 : decode cX9_add 9 = .ok (.ifCond .eq 54, 3) := by decide +kernel
theorem dX9_add_12 : decode cX9_add 12 = .ok (.aload_n 0, 1) := by decide +kernel
theorem dX9_add_13 : decode cX9_add 13 = .ok (.getfield 9, 3) := by decide +kernel
theorem dX9_add_16 : decode cX9_add 16 = .ok (.aload_n 0, 1) := by decide +kernel
theorem dX9_add_17 : decode cX9_add 17 = .ok (.getfield 24, 3) := by decide +kernel
theorem dX9_add_20 : decode cX9_add 20 = .ok (.iload_n 1, 1) := by decide +kernel
theorem dX9_add_21 : decode cX9_add 21 = .ok (.iastore, 1) := by decide +kernel
theorem dX9_add_22 : decode cX9_add 22 = .ok (.aload_n 0, 1) := by decide +kernel
theorem dX9_add_23 : decode cX9_add 23 = .ok (.getfield 15, 3) := by decide +kernel
theorem dX9_add_26 : decode cX9_add 26 = .ok (.aload_n 0, 1) := by decide +kernel
theorem dX9_add_27 : decode cX9_add 27 = .ok (.getfield 24, 3) := by decide +kernel
theorem dX9_add_30 : decode cX9_add 30 = .ok (.iload_n 2, 1) := by decide +kernel
theorem dX9_add_31 : decode cX9_add 31 = .ok (.iastore, 1) := by decide +kernel
theorem dX9_add_32 : decode cX9_add 32 = .ok (.aload_n 0, 1) := by decide +kernel
theorem dX9_add_33 : decode cX9_add 33 = .ok (.getfield 18, 3) := by decide +kernel
theorem dX9_add_36 : decode cX9_add 36 = .ok (.aload_n 0, 1) := by decide +kernel
theorem dX9_add_37 : decode cX9_add 37 = .ok (.getfield 24, 3) := by decide +kernel
theorem dX9_add_40 : decode cX9_add 40 = .ok (.iload_n 3, 1) := by decide +kernel
theorem dX9_add_41 : decode cX9_add 41 = .ok (.iastore, 1) := by decide +kernel
theorem dX9_add_42 : decode cX9_add 42 = .ok (.aload_n 0, 1) := by decide +kernel
theorem dX9_add_43 : decode cX9_add 43 = .ok (.getfield 21, 3) := by decide +kernel
theorem dX9_add_46 : decode cX9_add 46 = .ok (.aload_n 0, 1) := by decide +kernel
theorem dX9_add_47 : decode cX9_add 47 = .ok (.getfield 24, 3) := by decide +kernel
theorem dX9_add_50 : decode cX9_add 50 = .ok (.iload 4, 2) := by decide +kernel
theorem dX9_add_52 : decode cX9_add 52 = .ok (.iastore, 1) := by decide +kernel
theorem dX9_add_53 : decode cX9_add 53 = .ok (.aload_n 0, 1) := by decide +kernel
theorem dX9_add_54 : decode cX9_add 54 = .ok (.dup, 1) := by decide +kernel
theorem dX9_add_55 : decode cX9_add 55 = .ok (.getfield 24, 3) := by decide +kernel
theorem dX9_add_58 : decode cX9_add 58 = .ok (.iconst 1, 1) := by decide +kernel
theorem dX9_add_59 : decode cX9_add 59 = .ok (.iadd, 1) := by decide +kernel
theorem dX9_add_60 : decode cX9_add 60 = .ok (.putfield 24, 3) := by decide +kernel
theorem dX9_add_63 : decode cX9_add 63 = .ok (.return_, 1) := by decide +kernel
theorem dX9_addFrom_0 : decode cX9_addFrom 0 = .ok (.iload_n 2, 1) := by decide +kernel
theorem dX9_addFrom_1 : decode cX9_addFrom 1 = .ok (.aload_n 1, 1) := by decide +kernel
theorem dX9_addFrom_2 : decode cX9_addFrom 2 = .ok (.getfield 24, 3) := by decide +kernel
theorem dX9_addFrom_5 : decode cX9_addFrom 5 = .ok (.invokestatic 28, 3) := by decide +kernel
theorem dX9_addFrom_8 : decode cX9_addFrom 8 = .ok (.ifCond .eq 40, 3) := by decide +kernel
theorem dX9_addFrom_11 : decode cX9_addFrom 11 = .ok (.iload_n 2, 1) := by decide +kernel
theorem dX9_addFrom_12 : decode cX9_addFrom 12 = .ok (.bipush 21, 2) := by decide +kernel
theorem dX9_addFrom_14 : decode cX9_addFrom 14 = .ok (.invokestatic 28, 3) := by decide +kernel
theorem dX9_addFrom_17 : decode cX9_addFrom 17 = .ok (.ifCond .eq 31, 3) := by decide +kernel
theorem dX9_addFrom_20 : decode cX9_addFrom 20 = .ok (.aload_n 0, 1) := by decide +kernel
theorem dX9_addFrom_21 : decode cX9_addFrom 21 = .ok (.aload_n 1, 1) := by decide +kernel
theorem dX9_addFrom_22 : decode cX9_addFrom 22 = .ok (.getfield 9, 3) := by decide +kernel
theorem dX9_addFrom_25 : decode cX9_addFrom 25 = .ok (.iload_n 2, 1) := by decide +kernel
theorem dX9_addFrom_26 : decode cX9_addFrom 26 = .ok (.iaload, 1) := by decide +kernel
theorem dX9_addFrom_27 : decode cX9_addFrom 27 = .ok (.aload_n 1, 1) := by decide +kernel
theorem dX9_addFrom_28 : decode cX9_addFrom 28 = .ok (.getfield 15, 3) := by decide +kernel
theorem dX9_addFrom_31 : decode cX9_addFrom 31 = .ok (.iload_n 2, 1) := by decide +kernel
theorem dX9_addFrom_32 : decode cX9_addFrom 32 = .ok (.iaload, 1) := by decide +kernel
theorem dX9_addFrom_33 : decode cX9_addFrom 33 = .ok (.aload_n 1, 1) := by decide +kernel
theorem dX9_addFrom_34 : decode cX9_addFrom 34 = .ok (.getfield 18, 3) := by decide +kernel
theorem dX9_addFrom_37 : decode cX9_addFrom 37 = .ok (.iload_n 2, 1) := by decide +kernel
theorem dX9_addFrom_38 : decode cX9_addFrom 38 = .ok (.iaload, 1) := by decide +kernel
theorem dX9_addFrom_39 : decode cX9_addFrom 39 = .ok (.aload_n 1, 1) := by decide +kernel
theorem dX9_addFrom_40 : decode cX9_addFrom 40 = .ok (.getfield 21, 3) := by decide +kernel
theorem dX9_addFrom_43 : decode cX9_addFrom 43 = .ok (.iload_n 2, 1) := by decide +kernel
theorem dX9_addFrom_44 : decode cX9_addFrom 44 = .ok (.iaload, 1) := by decide +kernel
theorem dX9_addFrom_45 : decode cX9_addFrom 45 = .ok (.invokevirtual 32, 3) := by decide +kernel
theorem dX9_addFrom_48 : decode cX9_addFrom 48 = .ok (.return_, 1) := by decide +kernel
theorem dX9_copyWithout_0 : decode cX9_copyWithout 0 = .ok (.aload_n 0, 1) := by decide +kernel
theorem dX9_copyWithout_1 : decode cX9_copyWithout 1 = .ok (.iconst 0, 1) := by decide +kernel
theorem dX9_copyWithout_2 : decode cX9_copyWithout 2 = .ok (.putfield 24, 3) := by decide +kernel
theorem dX9_copyWithout_5 : decode cX9_copyWithout 5 = .ok (.iconst 0, 1) := by decide +kernel
theorem dX9_copyWithout_6 : decode cX9_copyWithout 6 = .ok (.istore_n 3, 1) := by decide +kernel
theorem dX9_copyWithout_7 : decode cX9_copyWithout 7 = .ok (.iload_n 3, 1) := by decide +kernel
theorem dX9_copyWithout_8 : decode cX9_copyWithout 8 = .ok (.aload_n 1, 1) := by decide +kernel
theorem dX9_copyWithout_9 : decode cX9_copyWithout 9 = .ok (.getfield 24, 3) := by decide +kernel
theorem dX9_copyWithout_12 : decode cX9_copyWithout 12 = .ok (.if_icmp .ge 20, 3) := by decide +kernel
theorem dX9_copyWithout_15 : decode cX9_copyWithout 15 = .ok (.iload_n 3, 1) := by decide +kernel
theorem dX9_copyWithout_16 : decode cX9_copyWithout 16 = .ok (.iload_n 2, 1) := by decide +kernel
theorem dX9_copyWithout_17 : decode cX9_copyWithout 17 = .ok (.if_icmp .eq 9, 3) := by decide +kernel
theorem dX9_copyWithout_20 : decode cX9_copyWithout 20 = .ok (.aload_n 0, 1) := by decide +kernel
theorem dX9_copyWithout_21 : decode cX9_copyWithout 21 = .ok (.aload_n 1, 1) := by decide +kernel
theorem dX9_copyWithout_22 : decode cX9_copyWithout 22 = .ok (.iload_n 3, 1) := by decide +kernel
theorem dX9_copyWithout_23 : decode cX9_copyWithout 23 = .ok (.invokevirtual 36, 3) := by decide +kernel
theorem dX9_copyWithout_26 : decode cX9_copyWithout 26 = .ok (.iinc 3 1, 3) := by decide +kernel
theorem dX9_copyWithout_29 : decode cX9_copyWithout 29 = .ok (.goto (-22), 3) := by decide +kernel
theorem dX9_copyWithout_32 : decode cX9_copyWithout 32 = .ok (.return_, 1) := by decide +kernel
theorem dX9_copyByWay_0 : decode cX9_copyByWay 0 = .ok (.aload_n 0, 1) := by decide +kernel
theorem dX9_copyByWay_1 : decode cX9_copyByWay 1 = .ok (.iconst 0, 1) := by decide +kernel
theorem dX9_copyByWay_2 : decode cX9_copyByWay 2 = .ok (.putfield 24, 3) := by decide +kernel
theorem dX9_copyByWay_5 : decode cX9_copyByWay 5 = .ok (.iconst 0, 1) := by decide +kernel
theorem dX9_copyByWay_6 : decode cX9_copyByWay 6 = .ok (.istore 5, 2) := by decide +kernel
theorem dX9_copyByWay_8 : decode cX9_copyByWay 8 = .ok (.iload 5, 2) := by decide +kernel
theorem dX9_copyByWay_10 : decode cX9_copyByWay 10 = .ok (.aload_n 1, 1) := by decide +kernel
theorem dX9_copyByWay_11 : decode cX9_copyByWay 11 = .ok (.getfield 24, 3) := by decide +kernel
theorem dX9_copyByWay_14 : decode cX9_copyByWay 14 = .ok (.if_icmp .ge 58, 3) := by decide +kernel
theorem dX9_copyByWay_17 : decode cX9_copyByWay 17 = .ok (.iload 5, 2) := by decide +kernel
theorem dX9_copyByWay_19 : decode cX9_copyByWay 19 = .ok (.bipush 21, 2) := by decide +kernel
theorem dX9_copyByWay_21 : decode cX9_copyByWay 21 = .ok (.if_icmp .ge 51, 3) := by decide +kernel
theorem dX9_copyByWay_24 : decode cX9_copyByWay 24 = .ok (.aload_n 1, 1) := by decide +kernel
theorem dX9_copyByWay_25 : decode cX9_copyByWay 25 = .ok (.getfield 9, 3) := by decide +kernel
theorem dX9_copyByWay_28 : decode cX9_copyByWay 28 = .ok (.iload 5, 2) := by decide +kernel
theorem dX9_copyByWay_30 : decode cX9_copyByWay 30 = .ok (.iaload, 1) := by decide +kernel
theorem dX9_copyByWay_31 : decode cX9_copyByWay 31 = .ok (.iconst 2, 1) := by decide +kernel
theorem dX9_copyByWay_32 : decode cX9_copyByWay 32 = .ok (.if_icmp .ne 27, 3) := by decide +kernel
theorem dX9_copyByWay_35 : decode cX9_copyByWay 35 = .ok (.aload_n 1, 1) := by decide +kernel
theorem dX9_copyByWay_36 : decode cX9_copyByWay 36 = .ok (.iload 5, 2) := by decide +kernel
theorem dX9_copyByWay_38 : decode cX9_copyByWay 38 = .ok (.iload 4, 2) := by decide +kernel
theorem dX9_copyByWay_40 : decode cX9_copyByWay 40 = .ok (.iload_n 2, 1) := by decide +kernel
theorem dX9_copyByWay_41 : decode cX9_copyByWay 41 = .ok (.invokevirtual 40, 3) := by decide +kernel
theorem dX9_copyByWay_44 : decode cX9_copyByWay 44 = .ok (.ifCond .ne 15, 3) := by decide +kernel
theorem dX9_copyByWay_47 : decode cX9_copyByWay 47 = .ok (.aload_n 1, 1) := by decide +kernel
theorem dX9_copyByWay_48 : decode cX9_copyByWay 48 = .ok (.iload 5, 2) := by decide +kernel
theorem dX9_copyByWay_50 : decode cX9_copyByWay 50 = .ok (.iload 4, 2) := by decide +kernel
theorem dX9_copyByWay_52 : decode cX9_copyByWay 52 = .ok (.iload_n 3, 1) := by decide +kernel
theorem dX9_copyByWay_53 : decode cX9_copyByWay 53 = .ok (.invokevirtual 40, 3) := by decide +kernel
theorem dX9_copyByWay_56 : decode cX9_copyByWay 56 = .ok (.ifCond .eq 10, 3) := by decide +kernel
theorem dX9_copyByWay_59 : decode cX9_copyByWay 59 = .ok (.aload_n 0, 1) := by decide +kernel
theorem dX9_copyByWay_60 : decode cX9_copyByWay 60 = .ok (.aload_n 1, 1) := by decide +kernel
theorem dX9_copyByWay_61 : decode cX9_copyByWay 61 = .ok (.iload 5, 2) := by decide +kernel
theorem dX9_copyByWay_63 : decode cX9_copyByWay 63 = .ok (.invokevirtual 36, 3) := by decide +kernel
theorem dX9_copyByWay_66 : decode cX9_copyByWay 66 = .ok (.iinc 5 1, 3) := by decide +kernel
theorem dX9_copyByWay_69 : decode cX9_copyByWay 69 = .ok (.goto (-61), 3) := by decide +kernel
theorem dX9_copyByWay_72 : decode cX9_copyByWay 72 = .ok (.return_, 1) := by decide +kernel
theorem dX9_touches_0 : decode cX9_touches 0 = .ok (.iload_n 1, 1) := by decide +kernel
theorem dX9_touches_1 : decode cX9_touches 1 = .ok (.aload_n 0, 1) := by decide +kernel
theorem dX9_touches_2 : decode cX9_touches 2 = .ok (.getfield 24, 3) := by decide +kernel
theorem dX9_touches_5 : decode cX9_touches 5 = .ok (.invokestatic 28, 3) := by decide +kernel
theorem dX9_touches_8 : decode cX9_touches 8 = .ok (.ifCond .eq 12, 3) := by decide +kernel
theorem dX9_touches_11 : decode cX9_touches 11 = .ok (.iload_n 1, 1) := by decide +kernel
theorem dX9_touches_12 : decode cX9_touches 12 = .ok (.bipush 21, 2) := by decide +kernel
theorem dX9_touches_14 : decode cX9_touches 14 = .ok (.invokestatic 28, 3) := by decide +kernel
theorem dX9_touches_17 : decode cX9_touches 17 = .ok (.ifCond .ne 5, 3) := by decide +kernel
theorem dX9_touches_20 : decode cX9_touches 20 = .ok (.iconst 0, 1) := by decide +kernel
theorem dX9_touches_21 : decode cX9_touches 21 = .ok (.ireturn, 1) := by decide +kernel
theorem dX9_touches_22 : decode cX9_touches 22 = .ok (.aload_n 0, 1) := by decide +kernel
theorem dX9_touches_23 : decode cX9_touches 23 = .ok (.getfield 15, 3) := by decide +kernel
theorem dX9_touches_26 : decode cX9_touches 26 = .ok (.iload_n 1, 1) := by decide +kernel
theorem dX9_touches_27 : decode cX9_touches 27 = .ok (.iaload, 1) := by decide +kernel
theorem dX9_touches_28 : decode cX9_touches 28 = .ok (.iload_n 2, 1) := by decide +kernel
theorem dX9_touches_29 : decode cX9_touches 29 = .ok (.if_icmp .ne 13, 3) := by decide +kernel
theorem dX9_touches_32 : decode cX9_touches 32 = .ok (.aload_n 0, 1) := by decide +kernel
theorem dX9_touches_33 : decode cX9_touches 33 = .ok (.getfield 18, 3) := by decide +kernel
theorem dX9_touches_36 : decode cX9_touches 36 = .ok (.iload_n 1, 1) := by decide +kernel
theorem dX9_touches_37 : decode cX9_touches 37 = .ok (.iaload, 1) := by decide +kernel
theorem dX9_touches_38 : decode cX9_touches 38 = .ok (.iload_n 3, 1) := by decide +kernel
theorem dX9_touches_39 : decode cX9_touches 39 = .ok (.if_icmp .eq 23, 3) := by decide +kernel
theorem dX9_touches_42 : decode cX9_touches 42 = .ok (.aload_n 0, 1) := by decide +kernel
theorem dX9_touches_43 : decode cX9_touches 43 = .ok (.getfield 15, 3) := by decide +kernel
theorem dX9_touches_46 : decode cX9_touches 46 = .ok (.iload_n 1, 1) := by decide +kernel
theorem dX9_touches_47 : decode cX9_touches 47 = .ok (.iaload, 1) := by decide +kernel
theorem dX9_touches_48 : decode cX9_touches 48 = .ok (.iload_n 3, 1) := by decide +kernel
theorem dX9_touches_49 : decode cX9_touches 49 = .ok (.if_icmp .ne 17, 3) := by decide +kernel
theorem dX9_touches_52 : decode cX9_touches 52 = .ok (.aload_n 0, 1) := by decide +kernel
theorem dX9_touches_53 : decode cX9_touches 53 = .ok (.getfield 18, 3) := by decide +kernel
theorem dX9_touches_56 : decode cX9_touches 56 = .ok (.iload_n 1, 1) := by decide +kernel
theorem dX9_touches_57 : decode cX9_touches 57 = .ok (.iaload, 1) := by decide +kernel
theorem dX9_touches_58 : decode cX9_touches 58 = .ok (.iload_n 2, 1) := by decide +kernel
theorem dX9_touches_59 : decode cX9_touches 59 = .ok (.if_icmp .ne 7, 3) := by decide +kernel
theorem dX9_touches_62 : decode cX9_touches 62 = .ok (.iconst 1, 1) := by decide +kernel
theorem dX9_touches_63 : decode cX9_touches 63 = .ok (.goto 4, 3) := by decide +kernel
theorem dX9_touches_66 : decode cX9_touches 66 = .ok (.iconst 0, 1) := by decide +kernel
theorem dX9_touches_67 : decode cX9_touches 67 = .ok (.ireturn, 1) := by decide +kernel
theorem dX9_copyWithTouch_0 : decode cX9_copyWithTouch 0 = .ok (.aload_n 1, 1) := by decide +kernel
theorem dX9_copyWithTouch_1 : decode cX9_copyWithTouch 1 = .ok (.iload 4, 2) := by decide +kernel
theorem dX9_copyWithTouch_3 : decode cX9_copyWithTouch 3 = .ok (.invokevirtual 44, 3) := by decide +kernel
theorem dX9_copyWithTouch_6 : decode cX9_copyWithTouch 6 = .ok (.istore 5, 2) := by decide +kernel
theorem dX9_copyWithTouch_8 : decode cX9_copyWithTouch 8 = .ok (.aload_n 0, 1) := by decide +kernel
theorem dX9_copyWithTouch_9 : decode cX9_copyWithTouch 9 = .ok (.iconst 0, 1) := by decide +kernel
theorem dX9_copyWithTouch_10 : decode cX9_copyWithTouch 10 = .ok (.putfield 24, 3) := by decide +kernel
theorem dX9_copyWithTouch_13 : decode cX9_copyWithTouch 13 = .ok (.iconst 0, 1) := by decide +kernel
theorem dX9_copyWithTouch_14 : decode cX9_copyWithTouch 14 = .ok (.istore 6, 2) := by decide +kernel
theorem dX9_copyWithTouch_16 : decode cX9_copyWithTouch 16 = .ok (.iload 6, 2) := by decide +kernel
theorem dX9_copyWithTouch_18 : decode cX9_copyWithTouch 18 = .ok (.iload 5, 2) := by decide +kernel
theorem dX9_copyWithTouch_20 : decode cX9_copyWithTouch 20 = .ok (.if_icmp .ge 16, 3) := by decide +kernel
theorem dX9_copyWithTouch_23 : decode cX9_copyWithTouch 23 = .ok (.aload_n 0, 1) := by decide +kernel
theorem dX9_copyWithTouch_24 : decode cX9_copyWithTouch 24 = .ok (.aload_n 1, 1) := by decide +kernel
theorem dX9_copyWithTouch_25 : decode cX9_copyWithTouch 25 = .ok (.iload 6, 2) := by decide +kernel
theorem dX9_copyWithTouch_27 : decode cX9_copyWithTouch 27 = .ok (.invokevirtual 36, 3) := by decide +kernel
theorem dX9_copyWithTouch_30 : decode cX9_copyWithTouch 30 = .ok (.iinc 6 1, 3) := by decide +kernel
theorem dX9_copyWithTouch_33 : decode cX9_copyWithTouch 33 = .ok (.goto (-17), 3) := by decide +kernel
theorem dX9_copyWithTouch_36 : decode cX9_copyWithTouch 36 = .ok (.aload_n 0, 1) := by decide +kernel
theorem dX9_copyWithTouch_37 : decode cX9_copyWithTouch 37 = .ok (.iconst 2, 1) := by decide +kernel
theorem dX9_copyWithTouch_38 : decode cX9_copyWithTouch 38 = .ok (.iload_n 2, 1) := by decide +kernel
theorem dX9_copyWithTouch_39 : decode cX9_copyWithTouch 39 = .ok (.iload_n 3, 1) := by decide +kernel
theorem dX9_copyWithTouch_40 : decode cX9_copyWithTouch 40 = .ok (.iload 4, 2) := by decide +kernel
theorem dX9_copyWithTouch_42 : decode cX9_copyWithTouch 42 = .ok (.invokevirtual 32, 3) := by decide +kernel
theorem dX9_copyWithTouch_45 : decode cX9_copyWithTouch 45 = .ok (.iload 5, 2) := by decide +kernel
theorem dX9_copyWithTouch_47 : decode cX9_copyWithTouch 47 = .ok (.istore 6, 2) := by decide +kernel
theorem dX9_copyWithTouch_49 : decode cX9_copyWithTouch 49 = .ok (.iload 6, 2) := by decide +kernel
theorem dX9_copyWithTouch_51 : decode cX9_copyWithTouch 51 = .ok (.aload_n 1, 1) := by decide +kernel
theorem dX9_copyWithTouch_52 : decode cX9_copyWithTouch 52 = .ok (.getfield 24, 3) := by decide +kernel
theorem dX9_copyWithTouch_55 : decode cX9_copyWithTouch 55 = .ok (.if_icmp .ge 16, 3) := by decide +kernel
theorem dX9_copyWithTouch_58 : decode cX9_copyWithTouch 58 = .ok (.aload_n 0, 1) := by decide +kernel
theorem dX9_copyWithTouch_59 : decode cX9_copyWithTouch 59 = .ok (.aload_n 1, 1) := by decide +kernel
theorem dX9_copyWithTouch_60 : decode cX9_copyWithTouch 60 = .ok (.iload 6, 2) := by decide +kernel
theorem dX9_copyWithTouch_62 : decode cX9_copyWithTouch 62 = .ok (.invokevirtual 36, 3) := by decide +kernel
theorem dX9_copyWithTouch_65 : decode cX9_copyWithTouch 65 = .ok (.iinc 6 1, 3) := by decide +kernel
theorem dX9_copyWithTouch_68 : decode cX9_copyWithTouch 68 = .ok (.goto (-19), 3) := by decide +kernel
theorem dX9_copyWithTouch_71 : decode cX9_copyWithTouch 71 = .ok (.return_, 1) := by decide +kernel
theorem dX9_eventsUntil_0 : decode cX9_eventsUntil 0 = .ok (.iconst 0, 1) := by decide +kernel
theorem dX9_eventsUntil_1 : decode cX9_eventsUntil 1 = .ok (.istore_n 2, 1) := by decide +kernel
theorem dX9_eventsUntil_2 : decode cX9_eventsUntil 2 = .ok (.iconst 0, 1) := by decide +kernel
theorem dX9_eventsUntil_3 : decode cX9_eventsUntil 3 = .ok (.istore_n 3, 1) := by decide +kernel
theorem dX9_eventsUntil_4 : decode cX9_eventsUntil 4 = .ok (.iload_n 3, 1) := by decide +kernel
theorem dX9_eventsUntil_5 : decode cX9_eventsUntil 5 = .ok (.aload_n 0, 1) := by decide +kernel
theorem dX9_eventsUntil_6 : decode cX9_eventsUntil 6 = .ok (.getfield 24, 3) := by decide +kernel
theorem dX9_eventsUntil_9 : decode cX9_eventsUntil 9 = .ok (.if_icmp .ge 28, 3) := by decide +kernel
theorem dX9_eventsUntil_12 : decode cX9_eventsUntil 12 = .ok (.iload_n 3, 1) := by decide +kernel
theorem dX9_eventsUntil_13 : decode cX9_eventsUntil 13 = .ok (.bipush 21, 2) := by decide +kernel
theorem dX9_eventsUntil_15 : decode cX9_eventsUntil 15 = .ok (.if_icmp .ge 22, 3) := by decide +kernel
theorem dX9_eventsUntil_18 : decode cX9_eventsUntil 18 = .ok (.aload_n 0, 1) := by decide +kernel
theorem dX9_eventsUntil_19 : decode cX9_eventsUntil 19 = .ok (.getfield 21, 3) := by decide +kernel
theorem dX9_eventsUntil_22 : decode cX9_eventsUntil 22 = .ok (.iload_n 3, 1) := by decide +kernel
theorem dX9_eventsUntil_23 : decode cX9_eventsUntil 23 = .ok (.iaload, 1) := by decide +kernel
theorem dX9_eventsUntil_24 : decode cX9_eventsUntil 24 = .ok (.iload_n 1, 1) := by decide +kernel
theorem dX9_eventsUntil_25 : decode cX9_eventsUntil 25 = .ok (.if_icmp .gt 6, 3) := by decide +kernel
theorem dX9_eventsUntil_28 : decode cX9_eventsUntil 28 = .ok (.iinc 2 1, 3) := by decide +kernel
theorem dX9_eventsUntil_31 : decode cX9_eventsUntil 31 = .ok (.iinc 3 1, 3) := by decide +kernel
theorem dX9_eventsUntil_34 : decode cX9_eventsUntil 34 = .ok (.goto (-30), 3) := by decide +kernel
theorem dX9_eventsUntil_37 : decode cX9_eventsUntil 37 = .ok (.iload_n 2, 1) := by decide +kernel
theorem dX9_eventsUntil_38 : decode cX9_eventsUntil 38 = .ok (.ireturn, 1) := by decide +kernel
theorem dX9_wornBehind_0 : decode cX9_wornBehind 0 = .ok (.iconst (-1), 1) := by decide +kernel
theorem dX9_wornBehind_1 : decode cX9_wornBehind 1 = .ok (.istore_n 3, 1) := by decide +kernel
theorem dX9_wornBehind_2 : decode cX9_wornBehind 2 = .ok (.iconst 0, 1) := by decide +kernel
theorem dX9_wornBehind_3 : decode cX9_wornBehind 3 = .ok (.istore 4, 2) := by decide +kernel
theorem dX9_wornBehind_5 : decode cX9_wornBehind 5 = .ok (.iload 4, 2) := by decide +kernel
theorem dX9_wornBehind_7 : decode cX9_wornBehind 7 = .ok (.iload_n 2, 1) := by decide +kernel
theorem dX9_wornBehind_8 : decode cX9_wornBehind 8 = .ok (.if_icmp .ge 81, 3) := by decide +kernel
theorem dX9_wornBehind_11 : decode cX9_wornBehind 11 = .ok (.iload 4, 2) := by decide +kernel
theorem dX9_wornBehind_13 : decode cX9_wornBehind 13 = .ok (.aload_n 0, 1) := by decide +kernel
theorem dX9_wornBehind_14 : decode cX9_wornBehind 14 = .ok (.getfield 24, 3) := by decide +kernel
theorem dX9_wornBehind_17 : decode cX9_wornBehind 17 = .ok (.if_icmp .ge 72, 3) := by decide +kernel
theorem dX9_wornBehind_20 : decode cX9_wornBehind 20 = .ok (.iload 4, 2) := by decide +kernel
theorem dX9_wornBehind_22 : decode cX9_wornBehind 22 = .ok (.bipush 21, 2) := by decide +kernel
theorem dX9_wornBehind_24 : decode cX9_wornBehind 24 = .ok (.if_icmp .ge 65, 3) := by decide +kernel
theorem dX9_wornBehind_27 : decode cX9_wornBehind 27 = .ok (.aload_n 0, 1) := by decide +kernel
theorem dX9_wornBehind_28 : decode cX9_wornBehind 28 = .ok (.getfield 15, 3) := by decide +kernel
theorem dX9_wornBehind_31 : decode cX9_wornBehind 31 = .ok (.iload 4, 2) := by decide +kernel
theorem dX9_wornBehind_33 : decode cX9_wornBehind 33 = .ok (.iaload, 1) := by decide +kernel
theorem dX9_wornBehind_34 : decode cX9_wornBehind 34 = .ok (.iload_n 1, 1) := by decide +kernel
theorem dX9_wornBehind_35 : decode cX9_wornBehind 35 = .ok (.if_icmp .ne 24, 3) := by decide +kernel
theorem dX9_wornBehind_38 : decode cX9_wornBehind 38 = .ok (.aload_n 0, 1) := by decide +kernel
theorem dX9_wornBehind_39 : decode cX9_wornBehind 39 = .ok (.getfield 9, 3) := by decide +kernel
theorem dX9_wornBehind_42 : decode cX9_wornBehind 42 = .ok (.iload 4, 2) := by decide +kernel
theorem dX9_wornBehind_44 : decode cX9_wornBehind 44 = .ok (.iaload, 1) := by decide +kernel
theorem dX9_wornBehind_45 : decode cX9_wornBehind 45 = .ok (.ifCond .ne 14, 3) := by decide +kernel
theorem dX9_wornBehind_48 : decode cX9_wornBehind 48 = .ok (.aload_n 0, 1) := by decide +kernel
theorem dX9_wornBehind_49 : decode cX9_wornBehind 49 = .ok (.getfield 18, 3) := by decide +kernel
theorem dX9_wornBehind_52 : decode cX9_wornBehind 52 = .ok (.iload 4, 2) := by decide +kernel
theorem dX9_wornBehind_54 : decode cX9_wornBehind 54 = .ok (.iaload, 1) := by decide +kernel
theorem dX9_wornBehind_55 : decode cX9_wornBehind 55 = .ok (.istore_n 3, 1) := by decide +kernel
theorem dX9_wornBehind_56 : decode cX9_wornBehind 56 = .ok (.goto 27, 3) := by decide +kernel
theorem dX9_wornBehind_59 : decode cX9_wornBehind 59 = .ok (.aload_n 0, 1) := by decide +kernel
theorem dX9_wornBehind_60 : decode cX9_wornBehind 60 = .ok (.getfield 15, 3) := by decide +kernel
theorem dX9_wornBehind_63 : decode cX9_wornBehind 63 = .ok (.iload 4, 2) := by decide +kernel
theorem dX9_wornBehind_65 : decode cX9_wornBehind 65 = .ok (.iaload, 1) := by decide +kernel
theorem dX9_wornBehind_66 : decode cX9_wornBehind 66 = .ok (.iload_n 1, 1) := by decide +kernel
theorem dX9_wornBehind_67 : decode cX9_wornBehind 67 = .ok (.if_icmp .ne 16, 3) := by decide +kernel
theorem dX9_wornBehind_70 : decode cX9_wornBehind 70 = .ok (.aload_n 0, 1) := by decide +kernel
theorem dX9_wornBehind_71 : decode cX9_wornBehind 71 = .ok (.getfield 9, 3) := by decide +kernel
theorem dX9_wornBehind_74 : decode cX9_wornBehind 74 = .ok (.iload 4, 2) := by decide +kernel
theorem dX9_wornBehind_76 : decode cX9_wornBehind 76 = .ok (.iaload, 1) := by decide +kernel
theorem dX9_wornBehind_77 : decode cX9_wornBehind 77 = .ok (.iconst 1, 1) := by decide +kernel
theorem dX9_wornBehind_78 : decode cX9_wornBehind 78 = .ok (.if_icmp .ne 5, 3) := by decide +kernel
theorem dX9_wornBehind_81 : decode cX9_wornBehind 81 = .ok (.iconst (-1), 1) := by decide +kernel
theorem dX9_wornBehind_82 : decode cX9_wornBehind 82 = .ok (.istore_n 3, 1) := by decide +kernel
theorem dX9_wornBehind_83 : decode cX9_wornBehind 83 = .ok (.iinc 4 1, 3) := by decide +kernel
theorem dX9_wornBehind_86 : decode cX9_wornBehind 86 = .ok (.goto (-81), 3) := by decide +kernel
theorem dX9_wornBehind_89 : decode cX9_wornBehind 89 = .ok (.iload_n 3, 1) := by decide +kernel
theorem dX9_wornBehind_90 : decode cX9_wornBehind 90 = .ok (.ireturn, 1) := by decide +kernel
theorem dX9_readFrom_0 : decode cX9_readFrom 0 = .ok (.aload_n 0, 1) := by decide +kernel
theorem dX9_readFrom_1 : decode cX9_readFrom 1 = .ok (.iconst 0, 1) := by decide +kernel
theorem dX9_readFrom_2 : decode cX9_readFrom 2 = .ok (.putfield 24, 3) := by decide +kernel
theorem dX9_readFrom_5 : decode cX9_readFrom 5 = .ok (.iconst 0, 1) := by decide +kernel
theorem dX9_readFrom_6 : decode cX9_readFrom 6 = .ok (.istore_n 2, 1) := by decide +kernel
theorem dX9_readFrom_7 : decode cX9_readFrom 7 = .ok (.iload_n 2, 1) := by decide +kernel
theorem dX9_readFrom_8 : decode cX9_readFrom 8 = .ok (.sipush 400, 3) := by decide +kernel
theorem dX9_readFrom_11 : decode cX9_readFrom 11 = .ok (.if_icmp .gt 21, 3) := by decide +kernel
theorem dX9_readFrom_14 : decode cX9_readFrom 14 = .ok (.aload_n 1, 1) := by decide +kernel
theorem dX9_readFrom_15 : decode cX9_readFrom 15 = .ok (.invokevirtual 48, 3) := by decide +kernel
theorem dX9_readFrom_18 : decode cX9_readFrom 18 = .ok (.ifCond .eq 14, 3) := by decide +kernel
theorem dX9_readFrom_21 : decode cX9_readFrom 21 = .ok (.aload_n 0, 1) := by decide +kernel
theorem dX9_readFrom_22 : decode cX9_readFrom 22 = .ok (.aload_n 1, 1) := by decide +kernel
theorem dX9_readFrom_23 : decode cX9_readFrom 23 = .ok (.invokevirtual 54, 3) := by decide +kernel
theorem dX9_readFrom_26 : decode cX9_readFrom 26 = .ok (.iinc 2 1, 3) := by decide +kernel
theorem dX9_readFrom_29 : decode cX9_readFrom 29 = .ok (.goto (-22), 3) := by decide +kernel
theorem dX9_readFrom_32 : decode cX9_readFrom 32 = .ok (.return_, 1) := by decide +kernel
theorem dX9_readEvent_0 : decode cX9_readEvent 0 = .ok (.aload_n 1, 1) := by decide +kernel
theorem dX9_readEvent_1 : decode cX9_readEvent 1 = .ok (.invokevirtual 58, 3) := by decide +kernel
theorem dX9_readEvent_4 : decode cX9_readEvent 4 = .ok (.aload_n 1, 1) := by decide +kernel
theorem dX9_readEvent_5 : decode cX9_readEvent 5 = .ok (.invokestatic 61, 3) := by decide +kernel
theorem dX9_readEvent_8 : decode cX9_readEvent 8 = .ok (.istore_n 2, 1) := by decide +kernel
theorem dX9_readEvent_9 : decode cX9_readEvent 9 = .ok (.aload_n 1, 1) := by decide +kernel
theorem dX9_readEvent_10 : decode cX9_readEvent 10 = .ok (.iload_n 2, 1) := by decide +kernel
theorem dX9_readEvent_11 : decode cX9_readEvent 11 = .ok (.iconst (-1), 1) := by decide +kernel
theorem dX9_readEvent_12 : decode cX9_readEvent 12 = .ok (.if_icmp .ne 7, 3) := by decide +kernel
theorem dX9_readEvent_15 : decode cX9_readEvent 15 = .ok (.iconst 1, 1) := by decide +kernel
theorem dX9_readEvent_16 : decode cX9_readEvent 16 = .ok (.goto 4, 3) := by decide +kernel
theorem dX9_readEvent_19 : decode cX9_readEvent 19 = .ok (.iconst 0, 1) := by decide +kernel
theorem dX9_readEvent_20 : decode cX9_readEvent 20 = .ok (.aload_n 0, 1) := by decide +kernel
theorem dX9_readEvent_21 : decode cX9_readEvent 21 = .ok (.getfield 24, 3) := by decide +kernel
theorem dX9_readEvent_24 : decode cX9_readEvent 24 = .ok (.bipush 20, 2) := by decide +kernel
theorem dX9_readEvent_26 : decode cX9_readEvent 26 = .ok (.if_icmp .lt 7, 3) := by decide +kernel
theorem dX9_readEvent_29 : decode cX9_readEvent 29 = .ok (.iconst 1, 1) := by decide +kernel
theorem dX9_readEvent_30 : decode cX9_readEvent 30 = .ok (.goto 4, 3) := by decide +kernel
theorem dX9_readEvent_33 : decode cX9_readEvent 33 = .ok (.iconst 0, 1) := by decide +kernel
theorem dX9_readEvent_34 : decode cX9_readEvent 34 = .ok (.invokevirtual 65, 3) := by decide +kernel
theorem dX9_readEvent_37 : decode cX9_readEvent 37 = .ok (.aload_n 1, 1) := by decide +kernel
theorem dX9_readEvent_38 : decode cX9_readEvent 38 = .ok (.iconst 0, 1) := by decide +kernel
theorem dX9_readEvent_39 : decode cX9_readEvent 39 = .ok (.bipush 9, 2) := by decide +kernel
theorem dX9_readEvent_41 : decode cX9_readEvent 41 = .ok (.invokevirtual 69, 3) := by decide +kernel
theorem dX9_readEvent_44 : decode cX9_readEvent 44 = .ok (.istore_n 3, 1) := by decide +kernel
theorem dX9_readEvent_45 : decode cX9_readEvent 45 = .ok (.iconst 0, 1) := by decide +kernel
theorem dX9_readEvent_46 : decode cX9_readEvent 46 = .ok (.istore 4, 2) := by decide +kernel
theorem dX9_readEvent_48 : decode cX9_readEvent 48 = .ok (.iload_n 2, 1) := by decide +kernel
theorem dX9_readEvent_49 : decode cX9_readEvent 49 = .ok (.ifCond .ne 15, 3) := by decide +kernel
theorem dX9_readEvent_52 : decode cX9_readEvent 52 = .ok (.aload_n 1, 1) := by decide +kernel
theorem dX9_readEvent_53 : decode cX9_readEvent 53 = .ok (.iconst 0, 1) := by decide +kernel
theorem dX9_readEvent_54 : decode cX9_readEvent 54 = .ok (.bipush 7, 2) := by decide +kernel
theorem dX9_readEvent_56 : decode cX9_readEvent 56 = .ok (.invokevirtual 69, 3) := by decide +kernel
theorem dX9_readEvent_59 : decode cX9_readEvent 59 = .ok (.istore 4, 2) := by decide +kernel
theorem dX9_readEvent_61 : decode cX9_readEvent 61 = .ok (.goto 41, 3) := by decide +kernel
theorem dX9_readEvent_64 : decode cX9_readEvent 64 = .ok (.iload_n 2, 1) := by decide +kernel
theorem dX9_readEvent_65 : decode cX9_readEvent 65 = .ok (.iconst 2, 1) := by decide +kernel
theorem dX9_readEvent_66 : decode cX9_readEvent 66 = .ok (.if_icmp .ne 22, 3) := by decide +kernel
theorem dX9_readEvent_69 : decode cX9_readEvent 69 = .ok (.aload_n 1, 1) := by decide +kernel
theorem dX9_readEvent_70 : decode cX9_readEvent 70 = .ok (.iconst 0, 1) := by decide +kernel
theorem dX9_readEvent_71 : decode cX9_readEvent 71 = .ok (.bipush 9, 2) := by decide +kernel
theorem dX9_readEvent_73 : decode cX9_readEvent 73 = .ok (.invokevirtual 69, 3) := by decide +kernel
theorem dX9_readEvent_76 : decode cX9_readEvent 76 = .ok (.istore 4, 2) := by decide +kernel
theorem dX9_readEvent_78 : decode cX9_readEvent 78 = .ok (.aload_n 1, 1) := by decide +kernel
theorem dX9_readEvent_79 : decode cX9_readEvent 79 = .ok (.iload 4, 2) := by decide +kernel
theorem dX9_readEvent_81 : decode cX9_readEvent 81 = .ok (.iload_n 3, 1) := by decide +kernel
theorem dX9_readEvent_82 : decode cX9_readEvent 82 = .ok (.invokevirtual 73, 3) := by decide +kernel
theorem dX9_readEvent_85 : decode cX9_readEvent 85 = .ok (.goto 17, 3) := by decide +kernel
theorem dX9_readEvent_88 : decode cX9_readEvent 88 = .ok (.iload_n 2, 1) := by decide +kernel
theorem dX9_readEvent_89 : decode cX9_readEvent 89 = .ok (.iconst 4, 1) := by decide +kernel
theorem dX9_readEvent_90 : decode cX9_readEvent 90 = .ok (.if_icmp .ne 12, 3) := by decide +kernel
theorem dX9_readEvent_93 : decode cX9_readEvent 93 = .ok (.aload_n 1, 1) := by decide +kernel
theorem dX9_readEvent_94 : decode cX9_readEvent 94 = .ok (.iconst 0, 1) := by decide +kernel
theorem dX9_readEvent_95 : decode cX9_readEvent 95 = .ok (.bipush 16, 2) := by decide +kernel
theorem dX9_readEvent_97 : decode cX9_readEvent 97 = .ok (.invokevirtual 69, 3) := by decide +kernel
theorem dX9_readEvent_100 : decode cX9_readEvent 100 = .ok (.istore 4, 2) := by decide +kernel
theorem dX9_readEvent_102 : decode cX9_readEvent 102 = .ok (.aload_n 1, 1) := by decide +kernel
theorem dX9_readEvent_103 : decode cX9_readEvent 103 = .ok (.ldc 77, 2) := by decide +kernel
theorem dX9_readEvent_105 : decode cX9_readEvent 105 = .ok (.invokevirtual 79, 3) := by decide +kernel
theorem dX9_readEvent_108 : decode cX9_readEvent 108 = .ok (.aload_n 1, 1) := by decide +kernel
theorem dX9_readEvent_109 : decode cX9_readEvent 109 = .ok (.iconst 0, 1) := by decide +kernel
theorem dX9_readEvent_110 : decode cX9_readEvent 110 = .ok (.bipush 99, 2) := by decide +kernel
theorem dX9_readEvent_112 : decode cX9_readEvent 112 = .ok (.invokevirtual 69, 3) := by decide +kernel
theorem dX9_readEvent_115 : decode cX9_readEvent 115 = .ok (.istore 5, 2) := by decide +kernel
theorem dX9_readEvent_117 : decode cX9_readEvent 117 = .ok (.aload_n 0, 1) := by decide +kernel
theorem dX9_readEvent_118 : decode cX9_readEvent 118 = .ok (.getfield 24, 3) := by decide +kernel
theorem dX9_readEvent_121 : decode cX9_readEvent 121 = .ok (.iconst 1, 1) := by decide +kernel
theorem dX9_readEvent_122 : decode cX9_readEvent 122 = .ok (.isub, 1) := by decide +kernel
theorem dX9_readEvent_123 : decode cX9_readEvent 123 = .ok (.bipush 21, 2) := by decide +kernel
theorem dX9_readEvent_125 : decode cX9_readEvent 125 = .ok (.invokestatic 28, 3) := by decide +kernel
theorem dX9_readEvent_128 : decode cX9_readEvent 128 = .ok (.ifCond .eq 28, 3) := by decide +kernel
theorem dX9_readEvent_131 : decode cX9_readEvent 131 = .ok (.iload 5, 2) := by decide +kernel
theorem dX9_readEvent_133 : decode cX9_readEvent 133 = .ok (.aload_n 0, 1) := by decide +kernel
theorem dX9_readEvent_134 : decode cX9_readEvent 134 = .ok (.getfield 21, 3) := by decide +kernel
theorem dX9_readEvent_137 : decode cX9_readEvent 137 = .ok (.aload_n 0, 1) := by decide +kernel
theorem dX9_readEvent_138 : decode cX9_readEvent 138 = .ok (.getfield 24, 3) := by decide +kernel
theorem dX9_readEvent_141 : decode cX9_readEvent 141 = .ok (.iconst 1, 1) := by decide +kernel
theorem dX9_readEvent_142 : decode cX9_readEvent 142 = .ok (.isub, 1) := by decide +kernel
theorem dX9_readEvent_143 : decode cX9_readEvent 143 = .ok (.iaload, 1) := by decide +kernel
theorem dX9_readEvent_144 : decode cX9_readEvent 144 = .ok (.if_icmp .ge 12, 3) := by decide +kernel
theorem dX9_readEvent_147 : decode cX9_readEvent 147 = .ok (.aload_n 1, 1) := by decide +kernel
theorem dX9_readEvent_148 : decode cX9_readEvent 148 = .ok (.iconst 3, 1) := by decide +kernel
theorem dX9_readEvent_149 : decode cX9_readEvent 149 = .ok (.aload_n 1, 1) := by decide +kernel
theorem dX9_readEvent_150 : decode cX9_readEvent 150 = .ok (.getfield 83, 3) := by decide +kernel
theorem dX9_readEvent_153 : decode cX9_readEvent 153 = .ok (.invokevirtual 86, 3) := by decide +kernel
theorem dX9_readEvent_156 : decode cX9_readEvent 156 = .ok (.aload_n 1, 1) := by decide +kernel
theorem dX9_readEvent_157 : decode cX9_readEvent 157 = .ok (.invokevirtual 89, 3) := by decide +kernel
theorem dX9_readEvent_160 : decode cX9_readEvent 160 = .ok (.aload_n 1, 1) := by decide +kernel
theorem dX9_readEvent_161 : decode cX9_readEvent 161 = .ok (.invokevirtual 92, 3) := by decide +kernel
theorem dX9_readEvent_164 : decode cX9_readEvent 164 = .ok (.ifCond .ne 13, 3) := by decide +kernel
theorem dX9_readEvent_167 : decode cX9_readEvent 167 = .ok (.aload_n 0, 1) := by decide +kernel
theorem dX9_readEvent_168 : decode cX9_readEvent 168 = .ok (.iload_n 2, 1) := by decide +kernel
theorem dX9_readEvent_169 : decode cX9_readEvent 169 = .ok (.iload_n 3, 1) := by decide +kernel
theorem dX9_readEvent_170 : decode cX9_readEvent 170 = .ok (.iload 4, 2) := by decide +kernel
theorem dX9_readEvent_172 : decode cX9_readEvent 172 = .ok (.iload 5, 2) := by decide +kernel
theorem dX9_readEvent_174 : decode cX9_readEvent 174 = .ok (.invokevirtual 32, 3) := by decide +kernel
theorem dX9_readEvent_177 : decode cX9_readEvent 177 = .ok (.return_, 1) := by decide +kernel
theorem dX9_eventOfWord_0 : decode cX9_eventOfWord 0 = .ok (.aload_n 0, 1) := by decide +kernel
theorem dX9_eventOfWord_1 : decode cX9_eventOfWord 1 = .ok (.ldc 95, 2) := by decide +kernel
theorem dX9_eventOfWord_3 : decode cX9_eventOfWord 3 = .ok (.invokevirtual 97, 3) := by decide +kernel
theorem dX9_eventOfWord_6 : decode cX9_eventOfWord 6 = .ok (.ifCond .eq 5, 3) := by decide +kernel
theorem dX9_eventOfWord_9 : decode cX9_eventOfWord 9 = .ok (.iconst 0, 1) := by decide +kernel
theorem dX9_eventOfWord_10 : decode cX9_eventOfWord 10 = .ok (.ireturn, 1) := by decide +kernel
theorem dX9_eventOfWord_11 : decode cX9_eventOfWord 11 = .ok (.aload_n 0, 1) := by decide +kernel
theorem dX9_eventOfWord_12 : decode cX9_eventOfWord 12 = .ok (.ldc 101, 2) := by decide +kernel
theorem dX9_eventOfWord_14 : decode cX9_eventOfWord 14 = .ok (.invokevirtual 97, 3) := by decide +kernel
theorem dX9_eventOfWord_17 : decode cX9_eventOfWord 17 = .ok (.ifCond .eq 5, 3) := by decide +kernel
theorem dX9_eventOfWord_20 : decode cX9_eventOfWord 20 = .ok (.iconst 1, 1) := by decide +kernel
theorem dX9_eventOfWord_21 : decode cX9_eventOfWord 21 = .ok (.ireturn, 1) := by decide +kernel
theorem dX9_eventOfWord_22 : decode cX9_eventOfWord 22 = .ok (.aload_n 0, 1) := by decide +kernel
theorem dX9_eventOfWord_23 : decode cX9_eventOfWord 23 = .ok (.ldc 103, 2) := by decide +kernel
theorem dX9_eventOfWord_25 : decode cX9_eventOfWord 25 = .ok (.invokevirtual 97, 3) := by decide +kernel
theorem dX9_eventOfWord_28 : decode cX9_eventOfWord 28 = .ok (.ifCond .eq 5, 3) := by decide +kernel
theorem dX9_eventOfWord_31 : decode cX9_eventOfWord 31 = .ok (.iconst 2, 1) := by decide +kernel
theorem dX9_eventOfWord_32 : decode cX9_eventOfWord 32 = .ok (.ireturn, 1) := by decide +kernel
theorem dX9_eventOfWord_33 : decode cX9_eventOfWord 33 = .ok (.aload_n 0, 1) := by decide +kernel
theorem dX9_eventOfWord_34 : decode cX9_eventOfWord 34 = .ok (.ldc 105, 2) := by decide +kernel
theorem dX9_eventOfWord_36 : decode cX9_eventOfWord 36 = .ok (.invokevirtual 97, 3) := by decide +kernel
theorem dX9_eventOfWord_39 : decode cX9_eventOfWord 39 = .ok (.ifCond .eq 5, 3) := by decide +kernel
theorem dX9_eventOfWord_42 : decode cX9_eventOfWord 42 = .ok (.iconst 3, 1) := by decide +kernel
theorem dX9_eventOfWord_43 : decode cX9_eventOfWord 43 = .ok (.ireturn, 1) := by decide +kernel
theorem dX9_eventOfWord_44 : decode cX9_eventOfWord 44 = .ok (.aload_n 0, 1) := by decide +kernel
theorem dX9_eventOfWord_45 : decode cX9_eventOfWord 45 = .ok (.ldc 107, 2) := by decide +kernel
theorem dX9_eventOfWord_47 : decode cX9_eventOfWord 47 = .ok (.invokevirtual 97, 3) := by decide +kernel
theorem dX9_eventOfWord_50 : decode cX9_eventOfWord 50 = .ok (.ifCond .eq 7, 3) := by decide +kernel
theorem dX9_eventOfWord_53 : decode cX9_eventOfWord 53 = .ok (.iconst 4, 1) := by decide +kernel
theorem dX9_eventOfWord_54 : decode cX9_eventOfWord 54 = .ok (.goto 4, 3) := by decide +kernel
theorem dX9_eventOfWord_57 : decode cX9_eventOfWord 57 = .ok (.iconst (-1), 1) := by decide +kernel
theorem dX9_eventOfWord_58 : decode cX9_eventOfWord 58 = .ok (.ireturn, 1) := by decide +kernel
theorem dX10_init_0 : decode cX10_init 0 = .ok (.aload_n 0, 1) := by decide +kernel
theorem dX10_init_1 : decode cX10_init 1 = .ok (.invokespecial 3, 3) := by decide +kernel
theorem dX10_init_4 : decode cX10_init 4 = .ok (.aload_n 0, 1) := by decide +kernel
theorem dX10_init_5 : decode cX10_init 5 = .ok (.sipush 400, 3) := by decide +kernel
theorem dX10_init_8 : decode cX10_init 8 = .ok (.newarray .byte, 2) := by decide +kernel
theorem dX10_init_10 : decode cX10_init 10 = .ok (.putfield 9, 3) := by decide +kernel
theorem dX10_init_13 : decode cX10_init 13 = .ok (.aload_n 0, 1) := by decide +kernel
theorem dX10_init_14 : decode cX10_init 14 = .ok (.iconst (-1), 1) := by decide +kernel
theorem dX10_init_15 : decode cX10_init 15 = .ok (.putfield 15, 3) := by decide +kernel
theorem dX10_init_18 : decode cX10_init 18 = .ok (.return_, 1) := by decide +kernel
theorem dX10_append_0 : decode cX10_append 0 = .ok (.bipush 24, 2) := by decide +kernel
theorem dX10_append_2 : decode cX10_append 2 = .ok (.istore_n 2, 1) := by decide +kernel
theorem dX10_append_3 : decode cX10_append 3 = .ok (.iload_n 2, 1) := by decide +kernel
theorem dX10_append_4 : decode cX10_append 4 = .ok (.ifCond .lt 45, 3) := by decide +kernel
theorem dX10_append_7 : decode cX10_append 7 = .ok (.aload_n 0, 1) := by decide +kernel
theorem dX10_append_8 : decode cX10_append 8 = .ok (.getfield 19, 3) := by decide +kernel
theorem dX10_append_11 : decode cX10_append 11 = .ok (.sipush 400, 3) := by decide +kernel
theorem dX10_append_14 : decode cX10_append 14 = .ok (.invokestatic 22, 3) := by decide +kernel
theorem dX10_append_17 : decode cX10_append 17 = .ok (.ifCond .eq 32, 3) := by decide +kernel
theorem dX10_append_20 : decode cX10_append 20 = .ok (.aload_n 0, 1) := by decide +kernel
theorem dX10_append_21 : decode cX10_append 21 = .ok (.getfield 9, 3) := by decide +kernel
theorem dX10_append_24 : decode cX10_append 24 = .ok (.aload_n 0, 1) := by decide +kernel
theorem dX10_append_25 : decode cX10_append 25 = .ok (.getfield 19, 3) := by decide +kernel
theorem dX10_append_28 : decode cX10_append 28 = .ok (.iload_n 1, 1) := by decide +kernel
theorem dX10_append_29 : decode cX10_append 29 = .ok (.iload_n 2, 1) := by decide +kernel
theorem dX10_append_30 : decode cX10_append 30 = .ok (.ishr, 1) := by decide +kernel
theorem dX10_append_31 : decode cX10_append 31 = .ok (.i2b, 1) := by decide +kernel
theorem dX10_append_32 : decode cX10_append 32 = .ok (.bastore, 1) := by decide +kernel
theorem dX10_append_33 : decode cX10_append 33 = .ok (.aload_n 0, 1) := by decide +kernel
theorem dX10_append_34 : decode cX10_append 34 = .ok (.dup, 1) := by decide +kernel
theorem dX10_append_35 : decode cX10_append 35 = .ok (.getfield 19, 3) := by decide +kernel
theorem dX10_append_38 : decode cX10_append 38 = .ok (.iconst 1, 1) := by decide +kernel
theorem dX10_append_39 : decode cX10_append 39 = .ok (.iadd, 1) := by decide +kernel
theorem dX10_append_40 : decode cX10_append 40 = .ok (.putfield 19, 3) := by decide +kernel
theorem dX10_append_43 : decode cX10_append 43 = .ok (.iinc 2 (-8), 3) := by decide +kernel
theorem dX10_append_46 : decode cX10_append 46 = .ok (.goto (-43), 3) := by decide +kernel
theorem dX10_append_49 : decode cX10_append 49 = .ok (.return_, 1) := by decide +kernel
theorem dX10_open_0 : decode cX10_open 0 = .ok (.aload_n 0, 1) := by decide +kernel
theorem dX10_open_1 : decode cX10_open 1 = .ok (.iconst 0, 1) := by decide +kernel
theorem dX10_open_2 : decode cX10_open 2 = .ok (.iload_n 1, 1) := by decide +kernel
theorem dX10_open_3 : decode cX10_open 3 = .ok (.sipush 400, 3) := by decide +kernel
theorem dX10_open_6 : decode cX10_open 6 = .ok (.invokestatic 26, 3) := by decide +kernel
theorem dX10_open_9 : decode cX10_open 9 = .ok (.invokestatic 32, 3) := by decide +kernel
theorem dX10_open_12 : decode cX10_open 12 = .ok (.putfield 35, 3) := by decide +kernel
theorem dX10_open_15 : decode cX10_open 15 = .ok (.aload_n 0, 1) := by decide +kernel
theorem dX10_open_16 : decode cX10_open 16 = .ok (.iconst 0, 1) := by decide +kernel
theorem dX10_open_17 : decode cX10_open 17 = .ok (.putfield 19, 3) := by decide +kernel
theorem dX10_open_20 : decode cX10_open 20 = .ok (.aload_n 0, 1) := by decide +kernel
theorem dX10_open_21 : decode cX10_open 21 = .ok (.iconst 0, 1) := by decide +kernel
theorem dX10_open_22 : decode cX10_open 22 = .ok (.putfield 38, 3) := by decide +kernel
theorem dX10_open_25 : decode cX10_open 25 = .ok (.aload_n 0, 1) := by decide +kernel
theorem dX10_open_26 : decode cX10_open 26 = .ok (.iconst 0, 1) := by decide +kernel
theorem dX10_open_27 : decode cX10_open 27 = .ok (.putfield 41, 3) := by decide +kernel
theorem dX10_open_30 : decode cX10_open 30 = .ok (.aload_n 0, 1) := by decide +kernel
theorem dX10_open_31 : decode cX10_open 31 = .ok (.iconst 0, 1) := by decide +kernel
theorem dX10_open_32 : decode cX10_open 32 = .ok (.putfield 44, 3) := by decide +kernel
theorem dX10_open_35 : decode cX10_open 35 = .ok (.aload_n 0, 1) := by decide +kernel
theorem dX10_open_36 : decode cX10_open 36 = .ok (.iconst (-1), 1) := by decide +kernel
theorem dX10_open_37 : decode cX10_open 37 = .ok (.putfield 15, 3) := by decide +kernel
theorem dX10_open_40 : decode cX10_open 40 = .ok (.return_, 1) := by decide +kernel
theorem dX10_failed_0 : decode cX10_failed 0 = .ok (.aload_n 0, 1) := by decide +kernel
theorem dX10_failed_1 : decode cX10_failed 1 = .ok (.getfield 44, 3) := by decide +kernel
theorem dX10_failed_4 : decode cX10_failed 4 = .ok (.ifCond .eq 7, 3) := by decide +kernel
theorem dX10_failed_7 : decode cX10_failed 7 = .ok (.iconst 1, 1) := by decide +kernel
theorem dX10_failed_8 : decode cX10_failed 8 = .ok (.goto 4, 3) := by decide +kernel
theorem dX10_failed_11 : decode cX10_failed 11 = .ok (.iconst 0, 1) := by decide +kernel
theorem dX10_failed_12 : decode cX10_failed 12 = .ok (.ireturn, 1) := by decide +kernel
theorem dX10_fail_0 : decode cX10_fail 0 = .ok (.aload_n 0, 1) := by decide +kernel
theorem dX10_fail_1 : decode cX10_fail 1 = .ok (.invokevirtual 47, 3) := by decide +kernel
theorem dX10_fail_4 : decode cX10_fail 4 = .ok (.ifCond .ne 13, 3) := by decide +kernel
theorem dX10_fail_7 : decode cX10_fail 7 = .ok (.aload_n 0, 1) := by decide +kernel
theorem dX10_fail_8 : decode cX10_fail 8 = .ok (.iload_n 1, 1) := by decide +kernel
theorem dX10_fail_9 : decode cX10_fail 9 = .ok (.putfield 44, 3) := by decide +kernel
theorem dX10_fail_12 : decode cX10_fail 12 = .ok (.aload_n 0, 1) := by decide +kernel
theorem dX10_fail_13 : decode cX10_fail 13 = .ok (.iload_n 2, 1) := by decide +kernel
theorem dX10_fail_14 : decode cX10_fail 14 = .ok (.putfield 15, 3) := by decide +kernel
theorem dX10_fail_17 : decode cX10_fail 17 = .ok (.return_, 1) := by decide +kernel
theorem dX10_byteAt_0 : decode cX10_byteAt 0 = .ok (.iload_n 1, 1) := by decide +kernel
theorem dX10_byteAt_1 : decode cX10_byteAt 1 = .ok (.ifCond .lt 31, 3) := by decide +kernel
theorem dX10_byteAt_4 : decode cX10_byteAt 4 = .ok (.iload_n 1, 1) := by decide +kernel
theorem dX10_byteAt_5 : decode cX10_byteAt 5 = .ok (.aload_n 0, 1) := by decide +kernel
theorem dX10_byteAt_6 : decode cX10_byteAt 6 = .ok (.getfield 35, 3) := by decide +kernel
theorem dX10_byteAt_9 : decode cX10_byteAt 9 = .ok (.if_icmp .ge 23, 3) := by decide +kernel
theorem dX10_byteAt_12 : decode cX10_byteAt 12 = .ok (.iload_n 1, 1) := by decide +kernel
theorem dX10_byteAt_13 : decode cX10_byteAt 13 = .ok (.sipush 400, 3) := by decide +kernel
theorem dX10_byteAt_16 : decode cX10_byteAt 16 = .ok (.if_icmp .ge 16, 3) := by decide +kernel
theorem dX10_byteAt_19 : decode cX10_byteAt 19 = .ok (.aload_n 0, 1) := by decide +kernel
theorem dX10_byteAt_20 : decode cX10_byteAt 20 = .ok (.getfield 9, 3) := by decide +kernel
theorem dX10_byteAt_23 : decode cX10_byteAt 23 = .ok (.iload_n 1, 1) := by decide +kernel
theorem dX10_byteAt_24 : decode cX10_byteAt 24 = .ok (.baload, 1) := by decide +kernel
theorem dX10_byteAt_25 : decode cX10_byteAt 25 = .ok (.sipush 255, 3) := by decide +kernel
theorem dX10_byteAt_28 : decode cX10_byteAt 28 = .ok (.iand, 1) := by decide +kernel
theorem dX10_byteAt_29 : decode cX10_byteAt 29 = .ok (.goto 4, 3) := by decide +kernel
theorem dX10_byteAt_32 : decode cX10_byteAt 32 = .ok (.iconst (-1), 1) := by decide +kernel
theorem dX10_byteAt_33 : decode cX10_byteAt 33 = .ok (.ireturn, 1) := by decide +kernel
theorem dX10_skipBlanks_0 : decode cX10_skipBlanks 0 = .ok (.aload_n 0, 1) := by decide +kernel
theorem dX10_skipBlanks_1 : decode cX10_skipBlanks 1 = .ok (.getfield 38, 3) := by decide +kernel
theorem dX10_skipBlanks_4 : decode cX10_skipBlanks 4 = .ok (.istore_n 1, 1) := by decide +kernel
theorem dX10_skipBlanks_5 : decode cX10_skipBlanks 5 = .ok (.iload_n 1, 1) := by decide +kernel
theorem dX10_skipBlanks_6 : decode cX10_skipBlanks 6 = .ok (.aload_n 0, 1) := by decide +kernel
theorem dX10_skipBlanks_7 : decode cX10_skipBlanks 7 = .ok (.getfield 35, 3) := by decide +kernel
theorem dX10_skipBlanks_10 : decode cX10_skipBlanks 10 = .ok (.if_icmp .ge 26, 3) := by decide +kernel
theorem dX10_skipBlanks_13 : decode cX10_skipBlanks 13 = .ok (.aload_n 0, 1) := by decide +kernel
theorem dX10_skipBlanks_14 : decode cX10_skipBlanks 14 = .ok (.iload_n 1, 1) := by decide +kernel
theorem dX10_skipBlanks_15 : decode cX10_skipBlanks 15 = .ok (.invokevirtual 51, 3) := by decide +kernel
theorem dX10_skipBlanks_18 : decode cX10_skipBlanks 18 = .ok (.bipush 32, 2) := by decide +kernel
theorem dX10_skipBlanks_20 : decode cX10_skipBlanks 20 = .ok (.if_icmp .ne 16, 3) := by decide +kernel
theorem dX10_skipBlanks_23 : decode cX10_skipBlanks 23 = .ok (.aload_n 0, 1) := by decide +kernel
theorem dX10_skipBlanks_24 : decode cX10_skipBlanks 24 = .ok (.iload_n 1, 1) := by decide +kernel
theorem dX10_skipBlanks_25 : decode cX10_skipBlanks 25 = .ok (.iconst 1, 1) := by decide +kernel
theorem dX10_skipBlanks_26 : decode cX10_skipBlanks 26 = .ok (.iadd, 1) := by decide +kernel
theorem dX10_skipBlanks_27 : decode cX10_skipBlanks 27 = .ok (.putfield 38, 3) := by decide +kernel
theorem dX10_skipBlanks_30 : decode cX10_skipBlanks 30 = .ok (.iinc 1 1, 3) := by decide +kernel
theorem dX10_skipBlanks_33 : decode cX10_skipBlanks 33 = .ok (.goto (-28), 3) := by decide +kernel
theorem dX10_skipBlanks_36 : decode cX10_skipBlanks 36 = .ok (.return_, 1) := by decide +kernel
theorem dX10_hasMore_0 : decode cX10_hasMore 0 = .ok (.aload_n 0, 1) := by decide +kernel
theorem dX10_hasMore_1 : decode cX10_hasMore 1 = .ok (.invokevirtual 55, 3) := by decide +kernel
theorem dX10_hasMore_4 : decode cX10_hasMore 4 = .ok (.aload_n 0, 1) := by decide +kernel
theorem dX10_hasMore_5 : decode cX10_hasMore 5 = .ok (.invokevirtual 47, 3) := by decide +kernel
theorem dX10_hasMore_8 : decode cX10_hasMore 8 = .ok (.ifCond .ne 18, 3) := by decide +kernel
theorem dX10_hasMore_11 : decode cX10_hasMore 11 = .ok (.aload_n 0, 1) := by decide +kernel
theorem dX10_hasMore_12 : decode cX10_hasMore 12 = .ok (.getfield 38, 3) := by decide +kernel
theorem dX10_hasMore_15 : decode cX10_hasMore 15 = .ok (.aload_n 0, 1) := by decide +kernel
theorem dX10_hasMore_16 : decode cX10_hasMore 16 = .ok (.getfield 35, 3) := by decide +kernel
theorem dX10_hasMore_19 : decode cX10_hasMore 19 = .ok (.if_icmp .ge 7, 3) := by decide +kernel
theorem dX10_hasMore_22 : decode cX10_hasMore 22 = .ok (.iconst 1, 1) := by decide +kernel
theorem dX10_hasMore_23 : decode cX10_hasMore 23 = .ok (.goto 4, 3) := by decide +kernel
theorem dX10_hasMore_26 : decode cX10_hasMore 26 = .ok (.iconst 0, 1) := by decide +kernel
theorem dX10_hasMore_27 : decode cX10_hasMore 27 = .ok (.ireturn, 1) := by decide +kernel
theorem dX10_readAll_0 : decode cX10_readAll 0 = .ok (.aload_n 0, 1) := by decide +kernel
theorem dX10_readAll_1 : decode cX10_readAll 1 = .ok (.invokevirtual 55, 3) := by decide +kernel
theorem dX10_readAll_4 : decode cX10_readAll 4 = .ok (.aload_n 0, 1) := by decide +kernel
theorem dX10_readAll_5 : decode cX10_readAll 5 = .ok (.aload_n 0, 1) := by decide +kernel
theorem dX10_readAll_6 : decode cX10_readAll 6 = .ok (.getfield 38, 3) := by decide +kernel
theorem dX10_readAll_9 : decode cX10_readAll 9 = .ok (.putfield 41, 3) := by decide +kernel
theorem dX10_readAll_12 : decode cX10_readAll 12 = .ok (.aload_n 0, 1) := by decide +kernel
theorem dX10_readAll_13 : decode cX10_readAll 13 = .ok (.getfield 38, 3) := by decide +kernel
theorem dX10_readAll_16 : decode cX10_readAll 16 = .ok (.istore_n 3, 1) := by decide +kernel
theorem dX10_readAll_17 : decode cX10_readAll 17 = .ok (.iload_n 3, 1) := by decide +kernel
theorem dX10_readAll_18 : decode cX10_readAll 18 = .ok (.aload_n 0, 1) := by decide +kernel
theorem dX10_readAll_19 : decode cX10_readAll 19 = .ok (.getfield 35, 3) := by decide +kernel
theorem dX10_readAll_22 : decode cX10_readAll 22 = .ok (.if_icmp .ge 34, 3) := by decide +kernel
theorem dX10_readAll_25 : decode cX10_readAll 25 = .ok (.aload_n 0, 1) := by decide +kernel
theorem dX10_readAll_26 : decode cX10_readAll 26 = .ok (.iload_n 3, 1) := by decide +kernel
theorem dX10_readAll_27 : decode cX10_readAll 27 = .ok (.invokevirtual 51, 3) := by decide +kernel
theorem dX10_readAll_30 : decode cX10_readAll 30 = .ok (.iload_n 1, 1) := by decide +kernel
theorem dX10_readAll_31 : decode cX10_readAll 31 = .ok (.if_icmp .lt 25, 3) := by decide +kernel
theorem dX10_readAll_34 : decode cX10_readAll 34 = .ok (.aload_n 0, 1) := by decide +kernel
theorem dX10_readAll_35 : decode cX10_readAll 35 = .ok (.iload_n 3, 1) := by decide +kernel
theorem dX10_readAll_36 : decode cX10_readAll 36 = .ok (.invokevirtual 51, 3) := by decide +kernel
theorem dX10_readAll_39 : decode cX10_readAll 39 = .ok (.iload_n 2, 1) := by decide +kernel
theorem dX10_readAll_40 : decode cX10_readAll 40 = .ok (.if_icmp .gt 16, 3) := by decide +kernel
theorem dX10_readAll_43 : decode cX10_readAll 43 = .ok (.aload_n 0, 1) := by decide +kernel
theorem dX10_readAll_44 : decode cX10_readAll 44 = .ok (.iload_n 3, 1) := by decide +kernel
theorem dX10_readAll_45 : decode cX10_readAll 45 = .ok (.iconst 1, 1) := by decide +kernel
theorem dX10_readAll_46 : decode cX10_readAll 46 = .ok (.iadd, 1) := by decide +kernel
theorem dX10_readAll_47 : decode cX10_readAll 47 = .ok (.putfield 38, 3) := by decide +kernel
theorem dX10_readAll_50 : decode cX10_readAll 50 = .ok (.iinc 3 1, 3) := by decide +kernel
theorem dX10_readAll_53 : decode cX10_readAll 53 = .ok (.goto (-36), 3) := by decide +kernel
theorem dX10_readAll_56 : decode cX10_readAll 56 = .ok (.return_, 1) := by decide +kernel
theorem dX10_readWord_0 : decode cX10_readWord 0 = .ok (.aload_n 0, 1) := by decide +kernel
theorem dX10_readWord_1 : decode cX10_readWord 1 = .ok (.invokevirtual 47, 3) := by decide +kernel
theorem dX10_readWord_4 : decode cX10_readWord 4 = .ok (.ifCond .ne 11, 3) := by decide +kernel
theorem dX10_readWord_7 : decode cX10_readWord 7 = .ok (.aload_n 0, 1) := by decide +kernel
theorem dX10_readWord_8 : decode cX10_readWord 8 = .ok (.bipush 97, 2) := by decide +kernel
theorem dX10_readWord_10 : decode cX10_readWord 10 = .ok (.bipush 122, 2) := by decide +kernel
theorem dX10_readWord_12 : decode cX10_readWord 12 = .ok (.invokevirtual 58, 3) := by decide +kernel
theorem dX10_readWord_15 : decode cX10_readWord 15 = .ok (.return_, 1) := by decide +kernel
theorem dX10_wordIs_0 : decode cX10_wordIs 0 = .ok (.aload_n 0, 1) := by decide +kernel
theorem dX10_wordIs_1 : decode cX10_wordIs 1 = .ok (.getfield 38, 3) := by decide +kernel
theorem dX10_wordIs_4 : decode cX10_wordIs 4 = .ok (.aload_n 0, 1) := by decide +kernel
theorem dX10_wordIs_5 : decode cX10_wordIs 5 = .ok (.getfield 41, 3) := by decide +kernel
theorem dX10_wordIs_8 : decode cX10_wordIs 8 = .ok (.isub, 1) := by decide +kernel
theorem dX10_wordIs_9 : decode cX10_wordIs 9 = .ok (.aload_n 1, 1) := by decide +kernel
theorem dX10_wordIs_10 : decode cX10_wordIs 10 = .ok (.invokevirtual 62, 3) := by decide +kernel
theorem dX10_wordIs_13 : decode cX10_wordIs 13 = .ok (.if_icmp .eq 5, 3) := by decide +kernel
theorem dX10_wordIs_16 : decode cX10_wordIs 16 = .ok (.iconst 0, 1) := by decide +kernel
theorem dX10_wordIs_17 : decode cX10_wordIs 17 = .ok (.ireturn, 1) := by decide +kernel
theorem dX10_wordIs_18 : decode cX10_wordIs 18 = .ok (.iconst 0, 1) := by decide +kernel
theorem dX10_wordIs_19 : decode cX10_wordIs 19 = .ok (.istore_n 2, 1) := by decide +kernel
theorem dX10_wordIs_20 : decode cX10_wordIs 20 = .ok (.iload_n 2, 1) := by decide +kernel
theorem dX10_wordIs_21 : decode cX10_wordIs 21 = .ok (.aload_n 1, 1) := by decide +kernel
theorem dX10_wordIs_22 : decode cX10_wordIs 22 = .ok (.invokevirtual 62, 3) := by decide +kernel
theorem dX10_wordIs_25 : decode cX10_wordIs 25 = .ok (.if_icmp .ge 29, 3) := by decide +kernel
theorem dX10_wordIs_28 : decode cX10_wordIs 28 = .ok (.aload_n 0, 1) := by decide +kernel
theorem dX10_wordIs_29 : decode cX10_wordIs 29 = .ok (.aload_n 0, 1) := by decide +kernel
theorem dX10_wordIs_30 : decode cX10_wordIs 30 = .ok (.getfield 41, 3) := by decide +kernel
theorem dX10_wordIs_33 : decode cX10_wordIs 33 = .ok (.iload_n 2, 1) := by decide +kernel
theorem dX10_wordIs_34 : decode cX10_wordIs 34 = .ok (.iadd, 1) := by decide +kernel
theorem dX10_wordIs_35 : decode cX10_wordIs 35 = .ok (.invokevirtual 51, 3) := by decide +kernel
theorem dX10_wordIs_38 : decode cX10_wordIs 38 = .ok (.aload_n 1, 1) := by decide +kernel
theorem dX10_wordIs_39 : decode cX10_wordIs 39 = .ok (.iload_n 2, 1) := by decide +kernel
theorem dX10_wordIs_40 : decode cX10_wordIs 40 = .ok (.invokevirtual 68, 3) := by decide +kernel
theorem dX10_wordIs_43 : decode cX10_wordIs 43 = .ok (.if_icmp .eq 5, 3) := by decide +kernel
theorem dX10_wordIs_46 : decode cX10_wordIs 46 = .ok (.iconst 0, 1) := by decide +kernel
theorem dX10_wordIs_47 : decode cX10_wordIs 47 = .ok (.ireturn, 1) := by decide +kernel
theorem dX10_wordIs_48 : decode cX10_wordIs 48 = .ok (.iinc 2 1, 3) := by decide +kernel
theorem dX10_wordIs_51 : decode cX10_wordIs 51 = .ok (.goto (-31), 3) := by decide +kernel
theorem dX10_wordIs_54 : decode cX10_wordIs 54 = .ok (.iconst 1, 1) := by decide +kernel
theorem dX10_wordIs_55 : decode cX10_wordIs 55 = .ok (.ireturn, 1) := by decide +kernel
theorem dX10_refuseWord_0 : decode cX10_refuseWord 0 = .ok (.iload_n 1, 1) := by decide +kernel
theorem dX10_refuseWord_1 : decode cX10_refuseWord 1 = .ok (.ifCond .eq 15, 3) := by decide +kernel
theorem dX10_refuseWord_4 : decode cX10_refuseWord 4 = .ok (.aload_n 0, 1) := by decide +kernel
theorem dX10_refuseWord_5 : decode cX10_refuseWord 5 = .ok (.iconst 1, 1) := by decide +kernel
theorem dX10_refuseWord_6 : decode cX10_refuseWord 6 = .ok (.aload_n 0, 1) := by decide +kernel
theorem dX10_refuseWord_7 : decode cX10_refuseWord 7 = .ok (.getfield 41, 3) := by decide +kernel
theorem dX10_refuseWord_10 : decode cX10_refuseWord 10 = .ok (.invokevirtual 72, 3) := by decide +kernel
theorem dX10_refuseWord_13 : decode cX10_refuseWord 13 = .ok (.goto 16, 3) := by decide +kernel
theorem dX10_refuseWord_16 : decode cX10_refuseWord 16 = .ok (.iload_n 2, 1) := by decide +kernel
theorem dX10_refuseWord_17 : decode cX10_refuseWord 17 = .ok (.ifCond .eq 12, 3) := by decide +kernel
theorem dX10_refuseWord_20 : decode cX10_refuseWord 20 = .ok (.aload_n 0, 1) := by decide +kernel
theorem dX10_refuseWord_21 : decode cX10_refuseWord 21 = .ok (.iconst 3, 1) := by decide +kernel
theorem dX10_refuseWord_22 : decode cX10_refuseWord 22 = .ok (.aload_n 0, 1) := by decide +kernel
theorem dX10_refuseWord_23 : decode cX10_refuseWord 23 = .ok (.getfield 41, 3) := by decide +kernel
theorem dX10_refuseWord_26 : decode cX10_refuseWord 26 = .ok (.invokevirtual 72, 3) := by decide +kernel
theorem dX10_refuseWord_29 : decode cX10_refuseWord 29 = .ok (.return_, 1) := by decide +kernel
theorem dX10_expectWord_0 : decode cX10_expectWord 0 = .ok (.aload_n 0, 1) := by decide +kernel
theorem dX10_expectWord_1 : decode cX10_expectWord 1 = .ok (.invokevirtual 76, 3) := by decide +kernel
theorem dX10_expectWord_4 : decode cX10_expectWord 4 = .ok (.aload_n 0, 1) := by decide +kernel
theorem dX10_expectWord_5 : decode cX10_expectWord 5 = .ok (.aload_n 1, 1) := by decide +kernel
theorem dX10_expectWord_6 : decode cX10_expectWord 6 = .ok (.invokevirtual 79, 3) := by decide +kernel
theorem dX10_expectWord_9 : decode cX10_expectWord 9 = .ok (.ifCond .ne 12, 3) := by decide +kernel
theorem dX10_expectWord_12 : decode cX10_expectWord 12 = .ok (.aload_n 0, 1) := by decide +kernel
theorem dX10_expectWord_13 : decode cX10_expectWord 13 = .ok (.iconst 1, 1) := by decide +kernel
theorem dX10_expectWord_14 : decode cX10_expectWord 14 = .ok (.aload_n 0, 1) := by decide +kernel
theorem dX10_expectWord_15 : decode cX10_expectWord 15 = .ok (.getfield 41, 3) := by decide +kernel
theorem dX10_expectWord_18 : decode cX10_expectWord 18 = .ok (.invokevirtual 72, 3) := by decide +kernel
theorem dX10_expectWord_21 : decode cX10_expectWord 21 = .ok (.return_, 1) := by decide +kernel
theorem dX10_readNumber_0 : decode cX10_readNumber 0 = .ok (.aload_n 0, 1) := by decide +kernel
theorem dX10_readNumber_1 : decode cX10_readNumber 1 = .ok (.invokevirtual 47, 3) := by decide +kernel
theorem dX10_readNumber_4 : decode cX10_readNumber 4 = .ok (.ifCond .eq 5, 3) := by decide +kernel
theorem dX10_readNumber_7 : decode cX10_readNumber 7 = .ok (.iload_n 1, 1) := by decide +kernel
theorem dX10_readNumber_8 : decode cX10_readNumber 8 = .ok (.ireturn, 1) := by decide +kernel
theorem dX10_readNumber_9 : decode cX10_readNumber 9 = .ok (.aload_n 0, 1) := by decide +kernel
theorem dX10_readNumber_10 : decode cX10_readNumber 10 = .ok (.bipush 48, 2) := by decide +kernel
theorem dX10_readNumber_12 : decode cX10_readNumber 12 = .ok (.bipush 57, 2) := by decide +kernel
theorem dX10_readNumber_14 : decode cX10_readNumber 14 = .ok (.invokevirtual 58, 3) := by decide +kernel
theorem dX10_readNumber_17 : decode cX10_readNumber 17 = .ok (.aload_n 0, 1) := by decide +kernel
theorem dX10_readNumber_18 : decode cX10_readNumber 18 = .ok (.getfield 38, 3) := by decide +kernel
theorem dX10_readNumber_21 : decode cX10_readNumber 21 = .ok (.aload_n 0, 1) := by decide +kernel
theorem dX10_readNumber_22 : decode cX10_readNumber 22 = .ok (.getfield 41, 3) := by decide +kernel
theorem dX10_readNumber_25 : decode cX10_readNumber 25 = .ok (.if_icmp .ne 14, 3) := by decide +kernel
theorem dX10_readNumber_28 : decode cX10_readNumber 28 = .ok (.aload_n 0, 1) := by decide +kernel
theorem dX10_readNumber_29 : decode cX10_readNumber 29 = .ok (.iconst 1, 1) := by decide +kernel
theorem dX10_readNumber_30 : decode cX10_readNumber 30 = .ok (.aload_n 0, 1) := by decide +kernel
theorem dX10_readNumber_31 : decode cX10_readNumber 31 = .ok (.getfield 41, 3) := by decide +kernel
theorem dX10_readNumber_34 : decode cX10_readNumber 34 = .ok (.invokevirtual 72, 3) := by decide +kernel
theorem dX10_readNumber_37 : decode cX10_readNumber 37 = .ok (.iload_n 1, 1) := by decide +kernel
theorem dX10_readNumber_38 : decode cX10_readNumber 38 = .ok (.ireturn, 1) := by decide +kernel
theorem dX10_readNumber_39 : decode cX10_readNumber 39 = .ok (.iconst 0, 1) := by decide +kernel
theorem dX10_readNumber_40 : decode cX10_readNumber 40 = .ok (.istore_n 3, 1) := by decide +kernel
theorem dX10_readNumber_41 : decode cX10_readNumber 41 = .ok (.aload_n 0, 1) := by decide +kernel
theorem dX10_readNumber_42 : decode cX10_readNumber 42 = .ok (.getfield 41, 3) := by decide +kernel
theorem dX10_readNumber_45 : decode cX10_readNumber 45 = .ok (.istore 4, 2) := by decide +kernel
theorem dX10_readNumber_47 : decode cX10_readNumber 47 = .ok (.iload 4, 2) := by decide +kernel
theorem dX10_readNumber_49 : decode cX10_readNumber 49 = .ok (.aload_n 0, 1) := by decide +kernel
theorem dX10_readNumber_50 : decode cX10_readNumber 50 = .ok (.getfield 38, 3) := by decide +kernel
theorem dX10_readNumber_53 : decode cX10_readNumber 53 = .ok (.if_icmp .ge 30, 3) := by decide +kernel
theorem dX10_readNumber_56 : decode cX10_readNumber 56 = .ok (.iload_n 3, 1) := by decide +kernel
theorem dX10_readNumber_57 : decode cX10_readNumber 57 = .ok (.bipush 10, 2) := by decide +kernel
theorem dX10_readNumber_59 : decode cX10_readNumber 59 = .ok (.imul, 1) := by decide +kernel
theorem dX10_readNumber_60 : decode cX10_readNumber 60 = .ok (.aload_n 0, 1) := by decide +kernel
theorem dX10_readNumber_61 : decode cX10_readNumber 61 = .ok (.iload 4, 2) := by decide +kernel
theorem dX10_readNumber_63 : decode cX10_readNumber 63 = .ok (.invokevirtual 51, 3) := by decide +kernel
theorem dX10_readNumber_66 : decode cX10_readNumber 66 = .ok (.iadd, 1) := by decide +kernel
theorem dX10_readNumber_67 : decode cX10_readNumber 67 = .ok (.bipush 48, 2) := by decide +kernel
theorem dX10_readNumber_69 : decode cX10_readNumber 69 = .ok (.isub, 1) := by decide +kernel
theorem dX10_readNumber_70 : decode cX10_readNumber 70 = .ok (.sipush 1000, 3) := by decide +kernel
theorem dX10_readNumber_73 : decode cX10_readNumber 73 = .ok (.invokestatic 26, 3) := by decide +kernel
theorem dX10_readNumber_76 : decode cX10_readNumber 76 = .ok (.istore_n 3, 1) := by decide +kernel
theorem dX10_readNumber_77 : decode cX10_readNumber 77 = .ok (.iinc 4 1, 3) := by decide +kernel
theorem dX10_readNumber_80 : decode cX10_readNumber 80 = .ok (.goto (-33), 3) := by decide +kernel
theorem dX10_readNumber_83 : decode cX10_readNumber 83 = .ok (.iload_n 3, 1) := by decide +kernel
theorem dX10_readNumber_84 : decode cX10_readNumber 84 = .ok (.iload_n 1, 1) := by decide +kernel
theorem dX10_readNumber_85 : decode cX10_readNumber 85 = .ok (.if_icmp .lt 8, 3) := by decide +kernel
theorem dX10_readNumber_88 : decode cX10_readNumber 88 = .ok (.iload_n 3, 1) := by decide +kernel
theorem dX10_readNumber_89 : decode cX10_readNumber 89 = .ok (.iload_n 2, 1) := by decide +kernel
theorem dX10_readNumber_90 : decode cX10_readNumber 90 = .ok (.if_icmp .le 14, 3) := by decide +kernel
theorem dX10_readNumber_93 : decode cX10_readNumber 93 = .ok (.aload_n 0, 1) := by decide +kernel
theorem dX10_readNumber_94 : decode cX10_readNumber 94 = .ok (.iconst 2, 1) := by decide +kernel
theorem dX10_readNumber_95 : decode cX10_readNumber 95 = .ok (.aload_n 0, 1) := by decide +kernel
theorem dX10_readNumber_96 : decode cX10_readNumber 96 = .ok (.getfield 41, 3) := by decide +kernel
theorem dX10_readNumber_99 : decode cX10_readNumber 99 = .ok (.invokevirtual 72, 3) := by decide +kernel
theorem dX10_readNumber_102 : decode cX10_readNumber 102 = .ok (.iload_n 1, 1) := by decide +kernel
theorem dX10_readNumber_103 : decode cX10_readNumber 103 = .ok (.ireturn, 1) := by decide +kernel
theorem dX10_readNumber_104 : decode cX10_readNumber 104 = .ok (.iload_n 3, 1) := by decide +kernel
theorem dX10_readNumber_105 : decode cX10_readNumber 105 = .ok (.ireturn, 1) := by decide +kernel
theorem dX10_refuseSame_0 : decode cX10_refuseSame 0 = .ok (.iload_n 1, 1) := by decide +kernel
theorem dX10_refuseSame_1 : decode cX10_refuseSame 1 = .ok (.iload_n 2, 1) := by decide +kernel
theorem dX10_refuseSame_2 : decode cX10_refuseSame 2 = .ok (.if_icmp .ne 12, 3) := by decide +kernel
theorem dX10_refuseSame_5 : decode cX10_refuseSame 5 = .ok (.aload_n 0, 1) := by decide +kernel
theorem dX10_refuseSame_6 : decode cX10_refuseSame 6 = .ok (.iconst 2, 1) := by decide +kernel
theorem dX10_refuseSame_7 : decode cX10_refuseSame 7 = .ok (.aload_n 0, 1) := by decide +kernel
theorem dX10_refuseSame_8 : decode cX10_refuseSame 8 = .ok (.getfield 41, 3) := by decide +kernel
theorem dX10_refuseSame_11 : decode cX10_refuseSame 11 = .ok (.invokevirtual 72, 3) := by decide +kernel
theorem dX10_refuseSame_14 : decode cX10_refuseSame 14 = .ok (.return_, 1) := by decide +kernel
theorem dX10_expectSemicolon_0 : decode cX10_expectSemicolon 0 = .ok (.aload_n 0, 1) := by decide +kernel
theorem dX10_expectSemicolon_1 : decode cX10_expectSemicolon 1 = .ok (.invokevirtual 47, 3) := by decide +kernel
theorem dX10_expectSemicolon_4 : decode cX10_expectSemicolon 4 = .ok (.ifCond .eq 4, 3) := by decide +kernel
theorem dX10_expectSemicolon_7 : decode cX10_expectSemicolon 7 = .ok (.return_, 1) := by decide +kernel
theorem dX10_expectSemicolon_8 : decode cX10_expectSemicolon 8 = .ok (.aload_n 0, 1) := by decide +kernel
theorem dX10_expectSemicolon_9 : decode cX10_expectSemicolon 9 = .ok (.invokevirtual 55, 3) := by decide +kernel
theorem dX10_expectSemicolon_12 : decode cX10_expectSemicolon 12 = .ok (.aload_n 0, 1) := by decide +kernel
theorem dX10_expectSemicolon_13 : decode cX10_expectSemicolon 13 = .ok (.aload_n 0, 1) := by decide +kernel
theorem dX10_expectSemicolon_14 : decode cX10_expectSemicolon 14 = .ok (.getfield 38, 3) := by decide +kernel
theorem dX10_expectSemicolon_17 : decode cX10_expectSemicolon 17 = .ok (.invokevirtual 51, 3) := by decide +kernel
theorem dX10_expectSemicolon_20 : decode cX10_expectSemicolon 20 = .ok (.bipush 59, 2) := by decide +kernel
theorem dX10_expectSemicolon_22 : decode cX10_expectSemicolon 22 = .ok (.if_icmp .ne 16, 3) := by decide +kernel
theorem dX10_expectSemicolon_25 : decode cX10_expectSemicolon 25 = .ok (.aload_n 0, 1) := by decide +kernel
theorem dX10_expectSemicolon_26 : decode cX10_expectSemicolon 26 = .ok (.dup, 1) := by decide +kernel
theorem dX10_expectSemicolon_27 : decode cX10_expectSemicolon 27 = .ok (.getfield 38, 3) := by decide +kernel
theorem dX10_expectSemicolon_30 : decode cX10_expectSemicolon 30 = .ok (.iconst 1, 1) := by decide +kernel
theorem dX10_expectSemicolon_31 : decode cX10_expectSemicolon 31 = .ok (.iadd, 1) := by decide +kernel
theorem dX10_expectSemicolon_32 : decode cX10_expectSemicolon 32 = .ok (.putfield 38, 3) := by decide +kernel
theorem dX10_expectSemicolon_35 : decode cX10_expectSemicolon 35 = .ok (.goto 12, 3) := by decide +kernel
theorem dX10_expectSemicolon_38 : decode cX10_expectSemicolon 38 = .ok (.aload_n 0, 1) := by decide +kernel
theorem dX10_expectSemicolon_39 : decode cX10_expectSemicolon 39 = .ok (.iconst 1, 1) := by decide +kernel
theorem dX10_expectSemicolon_40 : decode cX10_expectSemicolon 40 = .ok (.aload_n 0, 1) := by decide +kernel
theorem dX10_expectSemicolon_41 : decode cX10_expectSemicolon 41 = .ok (.getfield 38, 3) := by decide +kernel
theorem dX10_expectSemicolon_44 : decode cX10_expectSemicolon 44 = .ok (.invokevirtual 72, 3) := by decide +kernel
theorem dX10_expectSemicolon_47 : decode cX10_expectSemicolon 47 = .ok (.return_, 1) := by decide +kernel
theorem dX11_init_0 : decode cX11_init 0 = .ok (.aload_n 0, 1) := by decide +kernel
theorem dX11_init_1 : decode cX11_init 1 = .ok (.invokespecial 1, 3) := by decide +kernel
theorem dX11_init_4 : decode cX11_init 4 = .ok (.aload_n 0, 1) := by decide +kernel
theorem dX11_init_5 : decode cX11_init 5 = .ok (.new 7, 3) := by decide +kernel
theorem dX11_init_8 : decode cX11_init 8 = .ok (.dup, 1) := by decide +kernel
theorem dX11_init_9 : decode cX11_init 9 = .ok (.invokespecial 9, 3) := by decide +kernel
theorem dX11_init_12 : decode cX11_init 12 = .ok (.putfield 10, 3) := by decide +kernel
theorem dX11_init_15 : decode cX11_init 15 = .ok (.aload_n 0, 1) := by decide +kernel
theorem dX11_init_16 : decode cX11_init 16 = .ok (.new 16, 3) := by decide +kernel
theorem dX11_init_19 : decode cX11_init 19 = .ok (.dup, 1) := by decide +kernel
theorem dX11_init_20 : decode cX11_init 20 = .ok (.invokespecial 18, 3) := by decide +kernel
theorem dX11_init_23 : decode cX11_init 23 = .ok (.putfield 19, 3) := by decide +kernel
theorem dX11_init_26 : decode cX11_init 26 = .ok (.aload_n 0, 1) := by decide +kernel
theorem dX11_init_27 : decode cX11_init 27 = .ok (.new 16, 3) := by decide +kernel
theorem dX11_init_30 : decode cX11_init 30 = .ok (.dup, 1) := by decide +kernel
theorem dX11_init_31 : decode cX11_init 31 = .ok (.invokespecial 18, 3) := by decide +kernel
theorem dX11_init_34 : decode cX11_init 34 = .ok (.putfield 23, 3) := by decide +kernel
theorem dX11_init_37 : decode cX11_init 37 = .ok (.aload_n 0, 1) := by decide +kernel
theorem dX11_init_38 : decode cX11_init 38 = .ok (.iconst 4, 1) := by decide +kernel
theorem dX11_init_39 : decode cX11_init 39 = .ok (.anewarray 26, 3) := by decide +kernel
theorem dX11_init_42 : decode cX11_init 42 = .ok (.putfield 28, 3) := by decide +kernel
theorem dX11_init_45 : decode cX11_init 45 = .ok (.iconst 0, 1) := by decide +kernel
theorem dX11_init_46 : decode cX11_init 46 = .ok (.istore_n 1, 1) := by decide +kernel
theorem dX11_init_47 : decode cX11_init 47 = .ok (.iload_n 1, 1) := by decide +kernel
theorem dX11_init_48 : decode cX11_init 48 = .ok (.iconst 4, 1) := by decide +kernel
theorem dX11_init_49 : decode cX11_init 49 = .ok (.if_icmp .ge 22, 3) := by decide +kernel
theorem dX11_init_52 : decode cX11_init 52 = .ok (.aload_n 0, 1) := by decide +kernel
theorem dX11_init_53 : decode cX11_init 53 = .ok (.getfield 28, 3) := by decide +kernel
theorem dX11_init_56 : decode cX11_init 56 = .ok (.iload_n 1, 1) := by decide +kernel
theorem dX11_init_57 : decode cX11_init 57 = .ok (.new 26, 3) := by decide +kernel
theorem dX11_init_60 : decode cX11_init 60 = .ok (.dup, 1) := by decide +kernel
theorem dX11_init_61 : decode cX11_init 61 = .ok (.invokespecial 32, 3) := by decide +kernel
theorem dX11_init_64 : decode cX11_init 64 = .ok (.aastore, 1) := by decide +kernel
theorem dX11_init_65 : decode cX11_init 65 = .ok (.iinc 1 1, 3) := by decide +kernel
theorem dX11_init_68 : decode cX11_init 68 = .ok (.goto (-21), 3) := by decide +kernel
theorem dX11_init_71 : decode cX11_init 71 = .ok (.aload_n 0, 1) := by decide +kernel
theorem dX11_init_72 : decode cX11_init 72 = .ok (.new 26, 3) := by decide +kernel
theorem dX11_init_75 : decode cX11_init 75 = .ok (.dup, 1) := by decide +kernel
theorem dX11_init_76 : decode cX11_init 76 = .ok (.invokespecial 32, 3) := by decide +kernel
theorem dX11_init_79 : decode cX11_init 79 = .ok (.putfield 33, 3) := by decide +kernel
theorem dX11_init_82 : decode cX11_init 82 = .ok (.aload_n 0, 1) := by decide +kernel
theorem dX11_init_83 : decode cX11_init 83 = .ok (.new 26, 3) := by decide +kernel
theorem dX11_init_86 : decode cX11_init 86 = .ok (.dup, 1) := by decide +kernel
theorem dX11_init_87 : decode cX11_init 87 = .ok (.invokespecial 32, 3) := by decide +kernel
theorem dX11_init_90 : decode cX11_init 90 = .ok (.putfield 37, 3) := by decide +kernel
theorem dX11_init_93 : decode cX11_init 93 = .ok (.aload_n 0, 1) := by decide +kernel
theorem dX11_init_94 : decode cX11_init 94 = .ok (.new 40, 3) := by decide +kernel
theorem dX11_init_97 : decode cX11_init 97 = .ok (.dup, 1) := by decide +kernel
theorem dX11_init_98 : decode cX11_init 98 = .ok (.invokespecial 42, 3) := by decide +kernel
theorem dX11_init_101 : decode cX11_init 101 = .ok (.putfield 43, 3) := by decide +kernel
theorem dX11_init_104 : decode cX11_init 104 = .ok (.aload_n 0, 1) := by decide +kernel
theorem dX11_init_105 : decode cX11_init 105 = .ok (.iconst 3, 1) := by decide +kernel
theorem dX11_init_106 : decode cX11_init 106 = .ok (.anewarray 40, 3) := by decide +kernel
theorem dX11_init_109 : decode cX11_init 109 = .ok (.putfield 47, 3) := by decide +kernel
theorem dX11_init_112 : decode cX11_init 112 = .ok (.iconst 0, 1) := by decide +kernel
theorem dX11_init_113 : decode cX11_init 113 = .ok (.istore_n 1, 1) := by decide +kernel
theorem dX11_init_114 : decode cX11_init 114 = .ok (.iload_n 1, 1) := by decide +kernel
theorem dX11_init_115 : decode cX11_init 115 = .ok (.iconst 3, 1) := by decide +kernel
theorem dX11_init_116 : decode cX11_init 116 = .ok (.if_icmp .ge 22, 3) := by decide +kernel
theorem dX11_init_119 : decode cX11_init 119 = .ok (.aload_n 0, 1) := by decide +kernel
theorem dX11_init_120 : decode cX11_init 120 = .ok (.getfield 47, 3) := by decide +kernel
theorem dX11_init_123 : decode cX11_init 123 = .ok (.iload_n 1, 1) := by decide +kernel
theorem dX11_init_124 : decode cX11_init 124 = .ok (.new 40, 3) := by decide +kernel
theorem dX11_init_127 : decode cX11_init 127 = .ok (.dup, 1) := by decide +kernel
theorem dX11_init_128 : decode cX11_init 128 = .ok (.invokespecial 42, 3) := by decide +kernel
theorem dX11_init_131 : decode cX11_init 131 = .ok (.aastore, 1) := by decide +kernel
theorem dX11_init_132 : decode cX11_init 132 = .ok (.iinc 1 1, 3) := by decide +kernel
theorem dX11_init_135 : decode cX11_init 135 = .ok (.goto (-21), 3) := by decide +kernel
theorem dX11_init_138 : decode cX11_init 138 = .ok (.aload_n 0, 1) := by decide +kernel
theorem dX11_init_139 : decode cX11_init 139 = .ok (.new 51, 3) := by decide +kernel
theorem dX11_init_142 : decode cX11_init 142 = .ok (.dup, 1) := by decide +kernel
theorem dX11_init_143 : decode cX11_init 143 = .ok (.aload_n 0, 1) := by decide +kernel
theorem dX11_init_144 : decode cX11_init 144 = .ok (.getfield 19, 3) := by decide +kernel
theorem dX11_init_147 : decode cX11_init 147 = .ok (.aload_n 0, 1) := by decide +kernel
theorem dX11_init_148 : decode cX11_init 148 = .ok (.getfield 37, 3) := by decide +kernel
theorem dX11_init_151 : decode cX11_init 151 = .ok (.invokespecial 53, 3) := by decide +kernel
theorem dX11_init_154 : decode cX11_init 154 = .ok (.putfield 56, 3) := by decide +kernel
theorem dX11_init_157 : decode cX11_init 157 = .ok (.aload_n 0, 1) := by decide +kernel
theorem dX11_init_158 : decode cX11_init 158 = .ok (.new 51, 3) := by decide +kernel
theorem dX11_init_161 : decode cX11_init 161 = .ok (.dup, 1) := by decide +kernel
theorem dX11_init_162 : decode cX11_init 162 = .ok (.aload_n 0, 1) := by decide +kernel
theorem dX11_init_163 : decode cX11_init 163 = .ok (.getfield 19, 3) := by decide +kernel
theorem dX11_init_166 : decode cX11_init 166 = .ok (.aload_n 0, 1) := by decide +kernel
theorem dX11_init_167 : decode cX11_init 167 = .ok (.getfield 37, 3) := by decide +kernel
theorem dX11_init_170 : decode cX11_init 170 = .ok (.invokespecial 53, 3) := by decide +kernel
theorem dX11_init_173 : decode cX11_init 173 = .ok (.putfield 60, 3) := by decide +kernel
theorem dX11_init_176 : decode cX11_init 176 = .ok (.aload_n 0, 1) := by decide +kernel
theorem dX11_init_177 : decode cX11_init 177 = .ok (.bipush 8, 2) := by decide +kernel
theorem dX11_init_179 : decode cX11_init 179 = .ok (.newarray .int, 2) := by decide +kernel
theorem dX11_init_181 : decode cX11_init 181 = .ok (.putfield 63, 3) := by decide +kernel
theorem dX11_init_184 : decode cX11_init 184 = .ok (.aload_n 0, 1) := by decide +kernel
theorem dX11_init_185 : decode cX11_init 185 = .ok (.new 67, 3) := by decide +kernel
theorem dX11_init_188 : decode cX11_init 188 = .ok (.dup, 1) := by decide +kernel
theorem dX11_init_189 : decode cX11_init 189 = .ok (.invokespecial 69, 3) := by decide +kernel
theorem dX11_init_192 : decode cX11_init 192 = .ok (.putfield 70, 3) := by decide +kernel
theorem dX11_init_195 : decode cX11_init 195 = .ok (.return_, 1) := by decide +kernel
theorem dX11_feed_0 : decode cX11_feed 0 = .ok (.aload_n 0, 1) := by decide +kernel
theorem dX11_feed_1 : decode cX11_feed 1 = .ok (.getfield 10, 3) := by decide +kernel
theorem dX11_feed_4 : decode cX11_feed 4 = .ok (.getfield 74, 3) := by decide +kernel
theorem dX11_feed_7 : decode cX11_feed 7 = .ok (.sipush 380, 3) := by decide +kernel
theorem dX11_feed_10 : decode cX11_feed 10 = .ok (.if_icmp .le 5, 3) := by decide +kernel
theorem dX11_feed_13 : decode cX11_feed 13 = .ok (.iconst (-1), 1) := by decide +kernel
theorem dX11_feed_14 : decode cX11_feed 14 = .ok (.ireturn, 1) := by decide +kernel
theorem dX11_feed_15 : decode cX11_feed 15 = .ok (.aload_n 0, 1) := by decide +kernel
theorem dX11_feed_16 : decode cX11_feed 16 = .ok (.getfield 10, 3) := by decide +kernel
theorem dX11_feed_19 : decode cX11_feed 19 = .ok (.iload_n 1, 1) := by decide +kernel
theorem dX11_feed_20 : decode cX11_feed 20 = .ok (.invokevirtual 78, 3) := by decide +kernel
theorem dX11_feed_23 : decode cX11_feed 23 = .ok (.aload_n 0, 1) := by decide +kernel
theorem dX11_feed_24 : decode cX11_feed 24 = .ok (.getfield 10, 3) := by decide +kernel
theorem dX11_feed_27 : decode cX11_feed 27 = .ok (.iload_n 2, 1) := by decide +kernel
theorem dX11_feed_28 : decode cX11_feed 28 = .ok (.invokevirtual 78, 3) := by decide +kernel
theorem dX11_feed_31 : decode cX11_feed 31 = .ok (.aload_n 0, 1) := by decide +kernel
theorem dX11_feed_32 : decode cX11_feed 32 = .ok (.getfield 10, 3) := by decide +kernel
theorem dX11_feed_35 : decode cX11_feed 35 = .ok (.iload_n 3, 1) := by decide +kernel
theorem dX11_feed_36 : decode cX11_feed 36 = .ok (.invokevirtual 78, 3) := by decide +kernel
theorem dX11_feed_39 : decode cX11_feed 39 = .ok (.aload_n 0, 1) := by decide +kernel
theorem dX11_feed_40 : decode cX11_feed 40 = .ok (.getfield 10, 3) := by decide +kernel
theorem dX11_feed_43 : decode cX11_feed 43 = .ok (.iload 4, 2) := by decide +kernel
theorem dX11_feed_45 : decode cX11_feed 45 = .ok (.invokevirtual 78, 3) := by decide +kernel
theorem dX11_feed_48 : decode cX11_feed 48 = .ok (.aload_n 0, 1) := by decide +kernel
theorem dX11_feed_49 : decode cX11_feed 49 = .ok (.getfield 10, 3) := by decide +kernel
theorem dX11_feed_52 : decode cX11_feed 52 = .ok (.iload 5, 2) := by decide +kernel
theorem dX11_feed_54 : decode cX11_feed 54 = .ok (.invokevirtual 78, 3) := by decide +kernel
theorem dX11_feed_57 : decode cX11_feed 57 = .ok (.aload_n 0, 1) := by decide +kernel
theorem dX11_feed_58 : decode cX11_feed 58 = .ok (.getfield 10, 3) := by decide +kernel
theorem dX11_feed_61 : decode cX11_feed 61 = .ok (.getfield 74, 3) := by decide +kernel
theorem dX11_feed_64 : decode cX11_feed 64 = .ok (.ireturn, 1) := by decide +kernel
theorem dX11_law_0 : decode cX11_law 0 = .ok (.aload_n 0, 1) := by decide +kernel
theorem dX11_law_1 : decode cX11_law 1 = .ok (.iload_n 1, 1) := by decide +kernel
theorem dX11_law_2 : decode cX11_law 2 = .ok (.sipush 400, 3) := by decide +kernel
theorem dX11_law_5 : decode cX11_law 5 = .ok (.invokevirtual 82, 3) := by decide +kernel
theorem dX11_law_8 : decode cX11_law 8 = .ok (.aload_n 0, 1) := by decide +kernel
theorem dX11_law_9 : decode cX11_law 9 = .ok (.getfield 23, 3) := by decide +kernel
theorem dX11_law_12 : decode cX11_law 12 = .ok (.aload_n 0, 1) := by decide +kernel
theorem dX11_law_13 : decode cX11_law 13 = .ok (.getfield 10, 3) := by decide +kernel
theorem dX11_law_16 : decode cX11_law 16 = .ok (.invokevirtual 86, 3) := by decide +kernel
theorem dX11_law_19 : decode cX11_law 19 = .ok (.aload_n 0, 1) := by decide +kernel
theorem dX11_law_20 : decode cX11_law 20 = .ok (.getfield 10, 3) := by decide +kernel
theorem dX11_law_23 : decode cX11_law 23 = .ok (.invokevirtual 90, 3) := by decide +kernel
theorem dX11_law_26 : decode cX11_law 26 = .ok (.ifCond .eq 14, 3) := by decide +kernel
theorem dX11_law_29 : decode cX11_law 29 = .ok (.aload_n 0, 1) := by decide +kernel
theorem dX11_law_30 : decode cX11_law 30 = .ok (.getfield 10, 3) := by decide +kernel
theorem dX11_law_33 : decode cX11_law 33 = .ok (.getfield 94, 3) := by decide +kernel
theorem dX11_law_36 : decode cX11_law 36 = .ok (.bipush 10, 2) := by decide +kernel
theorem dX11_law_38 : decode cX11_law 38 = .ok (.isub, 1) := by decide +kernel
theorem dX11_law_39 : decode cX11_law 39 = .ok (.ireturn, 1) := by decide +kernel
theorem dX11_law_40 : decode cX11_law 40 = .ok (.aload_n 0, 1) := by decide +kernel
theorem dX11_law_41 : decode cX11_law 41 = .ok (.getfield 19, 3) := by decide +kernel
theorem dX11_law_44 : decode cX11_law 44 = .ok (.astore_n 2, 1) := by decide +kernel
theorem dX11_law_45 : decode cX11_law 45 = .ok (.aload_n 0, 1) := by decide +kernel
theorem dX11_law_46 : decode cX11_law 46 = .ok (.aload_n 0, 1) := by decide +kernel
theorem dX11_law_47 : decode cX11_law 47 = .ok (.getfield 23, 3) := by decide +kernel
theorem dX11_law_50 : decode cX11_law 50 = .ok (.putfield 19, 3) := by decide +kernel
theorem dX11_law_53 : decode cX11_law 53 = .ok (.aload_n 0, 1) := by decide +kernel
theorem dX11_law_54 : decode cX11_law 54 = .ok (.aload_n 2, 1) := by decide +kernel
theorem dX11_law_55 : decode cX11_law 55 = .ok (.putfield 23, 3) := by decide +kernel
theorem dX11_law_58 : decode cX11_law 58 = .ok (.aload_n 0, 1) := by decide +kernel
theorem dX11_law_59 : decode cX11_law 59 = .ok (.getfield 19, 3) := by decide +kernel
theorem dX11_law_62 : decode cX11_law 62 = .ok (.getfield 97, 3) := by decide +kernel
theorem dX11_law_65 : decode cX11_law 65 = .ok (.ireturn, 1) := by decide +kernel
theorem dX11_story_0 : decode cX11_story 0 = .ok (.aload_n 0, 1) := by decide +kernel
theorem dX11_story_1 : decode cX11_story 1 = .ok (.iload_n 1, 1) := by decide +kernel
theorem dX11_story_2 : decode cX11_story 2 = .ok (.sipush 300, 3) := by decide +kernel
theorem dX11_story_5 : decode cX11_story 5 = .ok (.invokevirtual 82, 3) := by decide +kernel
theorem dX11_story_8 : decode cX11_story 8 = .ok (.aload_n 0, 1) := by decide +kernel
theorem dX11_story_9 : decode cX11_story 9 = .ok (.getfield 100, 3) := by decide +kernel
theorem dX11_story_12 : decode cX11_story 12 = .ok (.iconst 4, 1) := by decide +kernel
theorem dX11_story_13 : decode cX11_story 13 = .ok (.invokestatic 103, 3) := by decide +kernel
theorem dX11_story_16 : decode cX11_story 16 = .ok (.ifCond .ne 5, 3) := by decide +kernel
theorem dX11_story_19 : decode cX11_story 19 = .ok (.iconst (-1), 1) := by decide +kernel
theorem dX11_story_20 : decode cX11_story 20 = .ok (.ireturn, 1) := by decide +kernel
theorem dX11_story_21 : decode cX11_story 21 = .ok (.aload_n 0, 1) := by decide +kernel
theorem dX11_story_22 : decode cX11_story 22 = .ok (.getfield 33, 3) := by decide +kernel
theorem dX11_story_25 : decode cX11_story 25 = .ok (.aload_n 0, 1) := by decide +kernel
theorem dX11_story_26 : decode cX11_story 26 = .ok (.getfield 10, 3) := by decide +kernel
theorem dX11_story_29 : decode cX11_story 29 = .ok (.invokevirtual 107, 3) := by decide +kernel
theorem dX11_story_32 : decode cX11_story 32 = .ok (.aload_n 0, 1) := by decide +kernel
theorem dX11_story_33 : decode cX11_story 33 = .ok (.getfield 10, 3) := by decide +kernel
theorem dX11_story_36 : decode cX11_story 36 = .ok (.invokevirtual 90, 3) := by decide +kernel
theorem dX11_story_39 : decode cX11_story 39 = .ok (.ifCond .eq 14, 3) := by decide +kernel
theorem dX11_story_42 : decode cX11_story 42 = .ok (.aload_n 0, 1) := by decide +kernel
theorem dX11_story_43 : decode cX11_story 43 = .ok (.getfield 10, 3) := by decide +kernel
theorem dX11_story_46 : decode cX11_story 46 = .ok (.getfield 94, 3) := by decide +kernel
theorem dX11_story_49 : decode cX11_story 49 = .ok (.bipush 10, 2) := by decide +kernel
theorem dX11_story_51 : decode cX11_story 51 = .ok (.isub, 1) := by decide +kernel
theorem dX11_story_52 : decode cX11_story 52 = .ok (.ireturn, 1) := by decide +kernel
theorem dX11_story_53 : decode cX11_story 53 = .ok (.aload_n 0, 1) := by decide +kernel
theorem dX11_story_54 : decode cX11_story 54 = .ok (.getfield 28, 3) := by decide +kernel
theorem dX11_story_57 : decode cX11_story 57 = .ok (.aload_n 0, 1) := by decide +kernel
theorem dX11_story_58 : decode cX11_story 58 = .ok (.getfield 100, 3) := by decide +kernel
theorem dX11_story_61 : decode cX11_story 61 = .ok (.aaload, 1) := by decide +kernel
theorem dX11_story_62 : decode cX11_story 62 = .ok (.astore_n 2, 1) := by decide +kernel
theorem dX11_story_63 : decode cX11_story 63 = .ok (.aload_n 0, 1) := by decide +kernel
theorem dX11_story_64 : decode cX11_story 64 = .ok (.getfield 28, 3) := by decide +kernel
theorem dX11_story_67 : decode cX11_story 67 = .ok (.aload_n 0, 1) := by decide +kernel
theorem dX11_story_68 : decode cX11_story 68 = .ok (.getfield 100, 3) := by decide +kernel
theorem dX11_story_71 : decode cX11_story 71 = .ok (.aload_n 0, 1) := by decide +kernel
theorem dX11_story_72 : decode cX11_story 72 = .ok (.getfield 33, 3) := by decide +kernel
theorem dX11_story_75 : decode cX11_story 75 = .ok (.aastore, 1) := by decide +kernel
theorem dX11_story_76 : decode cX11_story 76 = .ok (.aload_n 0, 1) := by decide +kernel
theorem dX11_story_77 : decode cX11_story 77 = .ok (.aload_n 2, 1) := by decide +kernel
theorem dX11_story_78 : decode cX11_story 78 = .ok (.putfield 33, 3) := by decide +kernel
theorem dX11_story_81 : decode cX11_story 81 = .ok (.aload_n 0, 1) := by decide +kernel
theorem dX11_story_82 : decode cX11_story 82 = .ok (.dup, 1) := by decide +kernel
theorem dX11_story_83 : decode cX11_story 83 = .ok (.getfield 100, 3) := by decide +kernel
theorem dX11_story_86 : decode cX11_story 86 = .ok (.iconst 1, 1) := by decide +kernel
theorem dX11_story_87 : decode cX11_story 87 = .ok (.iadd, 1) := by decide +kernel
theorem dX11_story_88 : decode cX11_story 88 = .ok (.putfield 100, 3) := by decide +kernel
theorem dX11_story_91 : decode cX11_story 91 = .ok (.aload_n 0, 1) := by decide +kernel
theorem dX11_story_92 : decode cX11_story 92 = .ok (.getfield 100, 3) := by decide +kernel
theorem dX11_story_95 : decode cX11_story 95 = .ok (.iconst 1, 1) := by decide +kernel
theorem dX11_story_96 : decode cX11_story 96 = .ok (.isub, 1) := by decide +kernel
theorem dX11_story_97 : decode cX11_story 97 = .ok (.ireturn, 1) := by decide +kernel
theorem dX11_fault_0 : decode cX11_fault 0 = .ok (.aload_n 0, 1) := by decide +kernel
theorem dX11_fault_1 : decode cX11_fault 1 = .ok (.getfield 10, 3) := by decide +kernel
theorem dX11_fault_4 : decode cX11_fault 4 = .ok (.getfield 108, 3) := by decide +kernel
theorem dX11_fault_7 : decode cX11_fault 7 = .ok (.ireturn, 1) := by decide +kernel
theorem dX11_openText_0 : decode cX11_openText 0 = .ok (.iload_n 1, 1) := by decide +kernel
theorem dX11_openText_1 : decode cX11_openText 1 = .ok (.ifCond .lt 19, 3) := by decide +kernel
theorem dX11_openText_4 : decode cX11_openText 4 = .ok (.iload_n 1, 1) := by decide +kernel
theorem dX11_openText_5 : decode cX11_openText 5 = .ok (.aload_n 0, 1) := by decide +kernel
theorem dX11_openText_6 : decode cX11_openText 6 = .ok (.getfield 10, 3) := by decide +kernel
theorem dX11_openText_9 : decode cX11_openText 9 = .ok (.getfield 74, 3) := by decide +kernel
theorem dX11_openText_12 : decode cX11_openText 12 = .ok (.if_icmp .gt 8, 3) := by decide +kernel
theorem dX11_openText_15 : decode cX11_openText 15 = .ok (.iload_n 1, 1) := by decide +kernel
theorem dX11_openText_16 : decode cX11_openText 16 = .ok (.iload_n 2, 1) := by decide +kernel
theorem dX11_openText_17 : decode cX11_openText 17 = .ok (.if_icmp .le 13, 3) := by decide +kernel
theorem dX11_openText_20 : decode cX11_openText 20 = .ok (.new 111, 3) := by decide +kernel
theorem dX11_openText_23 : decode cX11_openText 23 = .ok (.dup, 1) := by decide +kernel
theorem dX11_openText_24 : decode cX11_openText 24 = .ok (.ldc 113, 2) := by decide +kernel
theorem dX11_openText_26 : decode cX11_openText 26 = .ok (.invokespecial 115, 3) := by decide +kernel
theorem dX11_openText_29 : decode cX11_openText 29 = .ok (.athrow, 1) := by decide +kernel
theorem dX11_openText_30 : decode cX11_openText 30 = .ok (.aload_n 0, 1) := by decide +kernel
theorem dX11_openText_31 : decode cX11_openText 31 = .ok (.getfield 10, 3) := by decide +kernel
theorem dX11_openText_34 : decode cX11_openText 34 = .ok (.iload_n 1, 1) := by decide +kernel
theorem dX11_openText_35 : decode cX11_openText 35 = .ok (.invokevirtual 118, 3) := by decide +kernel
theorem dX11_openText_38 : decode cX11_openText 38 = .ok (.return_, 1) := by decide +kernel
theorem dX11_sheds_0 : decode cX11_sheds 0 = .ok (.iload_n 1, 1) := by decide +kernel
theorem dX11_sheds_1 : decode cX11_sheds 1 = .ok (.bipush 8, 2) := by decide +kernel
theorem dX11_sheds_3 : decode cX11_sheds 3 = .ok (.invokestatic 121, 3) := by decide +kernel
theorem dX11_sheds_6 : decode cX11_sheds 6 = .ok (.iload_n 2, 1) := by decide +kernel
theorem dX11_sheds_7 : decode cX11_sheds 7 = .ok (.bipush 10, 2) := by decide +kernel
theorem dX11_sheds_9 : decode cX11_sheds 9 = .ok (.invokestatic 121, 3) := by decide +kernel
theorem dX11_sheds_12 : decode cX11_sheds 12 = .ok (.aload_n 0, 1) := by decide +kernel
theorem dX11_sheds_13 : decode cX11_sheds 13 = .ok (.getfield 19, 3) := by decide +kernel
theorem dX11_sheds_16 : decode cX11_sheds 16 = .ok (.iload_n 1, 1) := by decide +kernel
theorem dX11_sheds_17 : decode cX11_sheds 17 = .ok (.iload_n 2, 1) := by decide +kernel
theorem dX11_sheds_18 : decode cX11_sheds 18 = .ok (.invokevirtual 124, 3) := by decide +kernel
theorem dX11_sheds_21 : decode cX11_sheds 21 = .ok (.ireturn, 1) := by decide +kernel
theorem dX11_told_0 : decode cX11_told 0 = .ok (.iload_n 1, 1) := by decide +kernel
theorem dX11_told_1 : decode cX11_told 1 = .ok (.bipush 10, 2) := by decide +kernel
theorem dX11_told_3 : decode cX11_told 3 = .ok (.invokestatic 121, 3) := by decide +kernel
theorem dX11_told_6 : decode cX11_told 6 = .ok (.iload_n 2, 1) := by decide +kernel
theorem dX11_told_7 : decode cX11_told 7 = .ok (.tableswitch 75 0 4 #[33, 42, 51, 59, 67], 33) := by decide +kernel
theorem dX11_told_40 : decode cX11_told 40 = .ok (.aload_n 0, 1) := by decide +kernel
theorem dX11_told_41 : decode cX11_told 41 = .ok (.getfield 19, 3) := by decide +kernel
theorem dX11_told_44 : decode cX11_told 44 = .ok (.iload_n 1, 1) := by decide +kernel
theorem dX11_told_45 : decode cX11_told 45 = .ok (.invokevirtual 128, 3) := by decide +kernel
theorem dX11_told_48 : decode cX11_told 48 = .ok (.ireturn, 1) := by decide +kernel
theorem dX11_told_49 : decode cX11_told 49 = .ok (.aload_n 0, 1) := by decide +kernel
theorem dX11_told_50 : decode cX11_told 50 = .ok (.getfield 19, 3) := by decide +kernel
theorem dX11_told_53 : decode cX11_told 53 = .ok (.iload_n 1, 1) := by decide +kernel
theorem dX11_told_54 : decode cX11_told 54 = .ok (.invokevirtual 132, 3) := by decide +kernel
theorem dX11_told_57 : decode cX11_told 57 = .ok (.ireturn, 1) := by decide +kernel
theorem dX11_told_58 : decode cX11_told 58 = .ok (.aload_n 0, 1) := by decide +kernel
theorem dX11_told_59 : decode cX11_told 59 = .ok (.getfield 19, 3) := by decide +kernel
theorem dX11_told_62 : decode cX11_told 62 = .ok (.getfield 135, 3) := by decide +kernel
theorem dX11_told_65 : decode cX11_told 65 = .ok (.ireturn, 1) := by decide +kernel
theorem dX11_told_66 : decode cX11_told 66 = .ok (.aload_n 0, 1) := by decide +kernel
theorem dX11_told_67 : decode cX11_told 67 = .ok (.getfield 19, 3) := by decide +kernel
theorem dX11_told_70 : decode cX11_told 70 = .ok (.getfield 138, 3) := by decide +kernel
theorem dX11_told_73 : decode cX11_told 73 = .ok (.ireturn, 1) := by decide +kernel
theorem dX11_told_74 : decode cX11_told 74 = .ok (.aload_n 0, 1) := by decide +kernel
theorem dX11_told_75 : decode cX11_told 75 = .ok (.getfield 19, 3) := by decide +kernel
theorem dX11_told_78 : decode cX11_told 78 = .ok (.getfield 141, 3) := by decide +kernel
theorem dX11_told_81 : decode cX11_told 81 = .ok (.ireturn, 1) := by decide +kernel
theorem dX11_told_82 : decode cX11_told 82 = .ok (.new 111, 3) := by decide +kernel
theorem dX11_told_85 : decode cX11_told 85 = .ok (.dup, 1) := by decide +kernel
theorem dX11_told_86 : decode cX11_told 86 = .ok (.ldc 144, 2) := by decide +kernel
theorem dX11_told_88 : decode cX11_told 88 = .ok (.invokespecial 115, 3) := by decide +kernel
theorem dX11_told_91 : decode cX11_told 91 = .ok (.athrow, 1) := by decide +kernel
theorem dX11_alike_0 : decode cX11_alike 0 = .ok (.iload_n 1, 1) := by decide +kernel
theorem dX11_alike_1 : decode cX11_alike 1 = .ok (.bipush 10, 2) := by decide +kernel
theorem dX11_alike_3 : decode cX11_alike 3 = .ok (.invokestatic 121, 3) := by decide +kernel
theorem dX11_alike_6 : decode cX11_alike 6 = .ok (.aload_n 0, 1) := by decide +kernel
theorem dX11_alike_7 : decode cX11_alike 7 = .ok (.getfield 19, 3) := by decide +kernel
theorem dX11_alike_10 : decode cX11_alike 10 = .ok (.iload_n 1, 1) := by decide +kernel
theorem dX11_alike_11 : decode cX11_alike 11 = .ok (.invokevirtual 146, 3) := by decide +kernel
theorem dX11_alike_14 : decode cX11_alike 14 = .ok (.ireturn, 1) := by decide +kernel
theorem dX11_lies_0 : decode cX11_lies 0 = .ok (.aload_n 0, 1) := by decide +kernel
theorem dX11_lies_1 : decode cX11_lies 1 = .ok (.iload_n 1, 1) := by decide +kernel
theorem dX11_lies_2 : decode cX11_lies 2 = .ok (.invokevirtual 149, 3) := by decide +kernel
theorem dX11_lies_5 : decode cX11_lies 5 = .ok (.astore 5, 2) := by decide +kernel
theorem dX11_lies_7 : decode cX11_lies 7 = .ok (.iload_n 2, 1) := by decide +kernel
theorem dX11_lies_8 : decode cX11_lies 8 = .ok (.bipush 10, 2) := by decide +kernel
theorem dX11_lies_10 : decode cX11_lies 10 = .ok (.invokestatic 121, 3) := by decide +kernel
theorem dX11_lies_13 : decode cX11_lies 13 = .ok (.iload_n 3, 1) := by decide +kernel
theorem dX11_lies_14 : decode cX11_lies 14 = .ok (.bipush 10, 2) := by decide +kernel
theorem dX11_lies_16 : decode cX11_lies 16 = .ok (.invokestatic 121, 3) := by decide +kernel
theorem dX11_lies_19 : decode cX11_lies 19 = .ok (.iload 4, 2) := by decide +kernel
theorem dX11_lies_21 : decode cX11_lies 21 = .ok (.bipush 100, 2) := by decide +kernel
theorem dX11_lies_23 : decode cX11_lies 23 = .ok (.invokestatic 121, 3) := by decide +kernel
theorem dX11_lies_26 : decode cX11_lies 26 = .ok (.aload_n 0, 1) := by decide +kernel
theorem dX11_lies_27 : decode cX11_lies 27 = .ok (.aload 5, 2) := by decide +kernel
theorem dX11_lies_29 : decode cX11_lies 29 = .ok (.iload_n 2, 1) := by decide +kernel
theorem dX11_lies_30 : decode cX11_lies 30 = .ok (.iload_n 3, 1) := by decide +kernel
theorem dX11_lies_31 : decode cX11_lies 31 = .ok (.iload 4, 2) := by decide +kernel
theorem dX11_lies_33 : decode cX11_lies 33 = .ok (.invokevirtual 153, 3) := by decide +kernel
theorem dX11_lies_36 : decode cX11_lies 36 = .ok (.ireturn, 1) := by decide +kernel
theorem dX11_pile_0 : decode cX11_pile 0 = .ok (.aload_n 0, 1) := by decide +kernel
theorem dX11_pile_1 : decode cX11_pile 1 = .ok (.iload_n 1, 1) := by decide +kernel
theorem dX11_pile_2 : decode cX11_pile 2 = .ok (.invokevirtual 149, 3) := by decide +kernel
theorem dX11_pile_5 : decode cX11_pile 5 = .ok (.astore 5, 2) := by decide +kernel
theorem dX11_pile_7 : decode cX11_pile 7 = .ok (.iload_n 2, 1) := by decide +kernel
theorem dX11_pile_8 : decode cX11_pile 8 = .ok (.bipush 10, 2) := by decide +kernel
theorem dX11_pile_10 : decode cX11_pile 10 = .ok (.invokestatic 121, 3) := by decide +kernel
theorem dX11_pile_13 : decode cX11_pile 13 = .ok (.iload_n 3, 1) := by decide +kernel
theorem dX11_pile_14 : decode cX11_pile 14 = .ok (.bipush 10, 2) := by decide +kernel
theorem dX11_pile_16 : decode cX11_pile 16 = .ok (.invokestatic 121, 3) := by decide +kernel
theorem dX11_pile_19 : decode cX11_pile 19 = .ok (.iload 4, 2) := by decide +kernel
theorem dX11_pile_21 : decode cX11_pile 21 = .ok (.bipush 100, 2) := by decide +kernel
theorem dX11_pile_23 : decode cX11_pile 23 = .ok (.invokestatic 121, 3) := by decide +kernel
theorem dX11_pile_26 : decode cX11_pile 26 = .ok (.aload_n 0, 1) := by decide +kernel
theorem dX11_pile_27 : decode cX11_pile 27 = .ok (.getfield 56, 3) := by decide +kernel
theorem dX11_pile_30 : decode cX11_pile 30 = .ok (.aload_n 0, 1) := by decide +kernel
theorem dX11_pile_31 : decode cX11_pile 31 = .ok (.getfield 19, 3) := by decide +kernel
theorem dX11_pile_34 : decode cX11_pile 34 = .ok (.aload 5, 2) := by decide +kernel
theorem dX11_pile_36 : decode cX11_pile 36 = .ok (.invokevirtual 157, 3) := by decide +kernel
theorem dX11_pile_39 : decode cX11_pile 39 = .ok (.aload_n 0, 1) := by decide +kernel
theorem dX11_pile_40 : decode cX11_pile 40 = .ok (.getfield 56, 3) := by decide +kernel
theorem dX11_pile_43 : decode cX11_pile 43 = .ok (.iload 4, 2) := by decide +kernel
theorem dX11_pile_45 : decode cX11_pile 45 = .ok (.invokevirtual 160, 3) := by decide +kernel
theorem dX11_pile_48 : decode cX11_pile 48 = .ok (.aload_n 0, 1) := by decide +kernel
theorem dX11_pile_49 : decode cX11_pile 49 = .ok (.getfield 56, 3) := by decide +kernel
theorem dX11_pile_52 : decode cX11_pile 52 = .ok (.iload_n 2, 1) := by decide +kernel
theorem dX11_pile_53 : decode cX11_pile 53 = .ok (.iload_n 3, 1) := by decide +kernel
theorem dX11_pile_54 : decode cX11_pile 54 = .ok (.invokevirtual 163, 3) := by decide +kernel
theorem dX11_pile_57 : decode cX11_pile 57 = .ok (.ireturn, 1) := by decide +kernel
theorem dX11_wears_0 : decode cX11_wears 0 = .ok (.aload_n 0, 1) := by decide +kernel
theorem dX11_wears_1 : decode cX11_wears 1 = .ok (.iload_n 1, 1) := by decide +kernel
theorem dX11_wears_2 : decode cX11_wears 2 = .ok (.invokevirtual 149, 3) := by decide +kernel
theorem dX11_wears_5 : decode cX11_wears 5 = .ok (.astore 4, 2) := by decide +kernel
theorem dX11_wears_7 : decode cX11_wears 7 = .ok (.iload_n 2, 1) := by decide +kernel
theorem dX11_wears_8 : decode cX11_wears 8 = .ok (.bipush 10, 2) := by decide +kernel
theorem dX11_wears_10 : decode cX11_wears 10 = .ok (.invokestatic 121, 3) := by decide +kernel
theorem dX11_wears_13 : decode cX11_wears 13 = .ok (.iload_n 3, 1) := by decide +kernel
theorem dX11_wears_14 : decode cX11_wears 14 = .ok (.bipush 100, 2) := by decide +kernel
theorem dX11_wears_16 : decode cX11_wears 16 = .ok (.invokestatic 121, 3) := by decide +kernel
theorem dX11_wears_19 : decode cX11_wears 19 = .ok (.aload 4, 2) := by decide +kernel
theorem dX11_wears_21 : decode cX11_wears 21 = .ok (.iload_n 2, 1) := by decide +kernel
theorem dX11_wears_22 : decode cX11_wears 22 = .ok (.aload 4, 2) := by decide +kernel
theorem dX11_wears_24 : decode cX11_wears 24 = .ok (.iload_n 3, 1) := by decide +kernel
theorem dX11_wears_25 : decode cX11_wears 25 = .ok (.invokevirtual 166, 3) := by decide +kernel
theorem dX11_wears_28 : decode cX11_wears 28 = .ok (.invokevirtual 169, 3) := by decide +kernel
theorem dX11_wears_31 : decode cX11_wears 31 = .ok (.ireturn, 1) := by decide +kernel
theorem dX11_byWay_0 : decode cX11_byWay 0 = .ok (.aload_n 0, 1) := by decide +kernel
theorem dX11_byWay_1 : decode cX11_byWay 1 = .ok (.iload_n 1, 1) := by decide +kernel
theorem dX11_byWay_2 : decode cX11_byWay 2 = .ok (.invokevirtual 149, 3) := by decide +kernel
theorem dX11_byWay_5 : decode cX11_byWay 5 = .ok (.astore 7, 2) := by decide +kernel
theorem dX11_byWay_7 : decode cX11_byWay 7 = .ok (.iload_n 2, 1) := by decide +kernel
theorem dX11_byWay_8 : decode cX11_byWay 8 = .ok (.bipush 10, 2) := by decide +kernel
theorem dX11_byWay_10 : decode cX11_byWay 10 = .ok (.invokestatic 121, 3) := by decide +kernel
theorem dX11_byWay_13 : decode cX11_byWay 13 = .ok (.iload_n 3, 1) := by decide +kernel
theorem dX11_byWay_14 : decode cX11_byWay 14 = .ok (.bipush 10, 2) := by decide +kernel
theorem dX11_byWay_16 : decode cX11_byWay 16 = .ok (.invokestatic 121, 3) := by decide +kernel
theorem dX11_byWay_19 : decode cX11_byWay 19 = .ok (.iload 4, 2) := by decide +kernel
theorem dX11_byWay_21 : decode cX11_byWay 21 = .ok (.bipush 10, 2) := by decide +kernel
theorem dX11_byWay_23 : decode cX11_byWay 23 = .ok (.invokestatic 121, 3) := by decide +kernel
theorem dX11_byWay_26 : decode cX11_byWay 26 = .ok (.iload 5, 2) := by decide +kernel
theorem dX11_byWay_28 : decode cX11_byWay 28 = .ok (.bipush 10, 2) := by decide +kernel
theorem dX11_byWay_30 : decode cX11_byWay 30 = .ok (.invokestatic 121, 3) := by decide +kernel
theorem dX11_byWay_33 : decode cX11_byWay 33 = .ok (.iload 6, 2) := by decide +kernel
theorem dX11_byWay_35 : decode cX11_byWay 35 = .ok (.bipush 100, 2) := by decide +kernel
theorem dX11_byWay_37 : decode cX11_byWay 37 = .ok (.invokestatic 121, 3) := by decide +kernel
theorem dX11_byWay_40 : decode cX11_byWay 40 = .ok (.iload_n 2, 1) := by decide +kernel
theorem dX11_byWay_41 : decode cX11_byWay 41 = .ok (.iload_n 3, 1) := by decide +kernel
theorem dX11_byWay_42 : decode cX11_byWay 42 = .ok (.if_icmp .eq 15, 3) := by decide +kernel
theorem dX11_byWay_45 : decode cX11_byWay 45 = .ok (.iload_n 2, 1) := by decide +kernel
theorem dX11_byWay_46 : decode cX11_byWay 46 = .ok (.iload 4, 2) := by decide +kernel
theorem dX11_byWay_48 : decode cX11_byWay 48 = .ok (.if_icmp .eq 9, 3) := by decide +kernel
theorem dX11_byWay_51 : decode cX11_byWay 51 = .ok (.iload_n 3, 1) := by decide +kernel
theorem dX11_byWay_52 : decode cX11_byWay 52 = .ok (.iload 4, 2) := by decide +kernel
theorem dX11_byWay_54 : decode cX11_byWay 54 = .ok (.if_icmp .ne 13, 3) := by decide +kernel
theorem dX11_byWay_57 : decode cX11_byWay 57 = .ok (.new 111, 3) := by decide +kernel
theorem dX11_byWay_60 : decode cX11_byWay 60 = .ok (.dup, 1) := by decide +kernel
theorem dX11_byWay_61 : decode cX11_byWay 61 = .ok (.ldc 172, 2) := by decide +kernel
theorem dX11_byWay_63 : decode cX11_byWay 63 = .ok (.invokespecial 115, 3) := by decide +kernel
theorem dX11_byWay_66 : decode cX11_byWay 66 = .ok (.athrow, 1) := by decide +kernel
theorem dX11_byWay_67 : decode cX11_byWay 67 = .ok (.aload_n 0, 1) := by decide +kernel
theorem dX11_byWay_68 : decode cX11_byWay 68 = .ok (.getfield 37, 3) := by decide +kernel
theorem dX11_byWay_71 : decode cX11_byWay 71 = .ok (.aload 7, 2) := by decide +kernel
theorem dX11_byWay_73 : decode cX11_byWay 73 = .ok (.iload_n 2, 1) := by decide +kernel
theorem dX11_byWay_74 : decode cX11_byWay 74 = .ok (.iload_n 3, 1) := by decide +kernel
theorem dX11_byWay_75 : decode cX11_byWay 75 = .ok (.iload 4, 2) := by decide +kernel
theorem dX11_byWay_77 : decode cX11_byWay 77 = .ok (.invokevirtual 174, 3) := by decide +kernel
theorem dX11_byWay_80 : decode cX11_byWay 80 = .ok (.aload_n 0, 1) := by decide +kernel
theorem dX11_byWay_81 : decode cX11_byWay 81 = .ok (.aload_n 0, 1) := by decide +kernel
theorem dX11_byWay_82 : decode cX11_byWay 82 = .ok (.getfield 37, 3) := by decide +kernel
theorem dX11_byWay_85 : decode cX11_byWay 85 = .ok (.iload_n 3, 1) := by decide +kernel
theorem dX11_byWay_86 : decode cX11_byWay 86 = .ok (.iload 5, 2) := by decide +kernel
theorem dX11_byWay_88 : decode cX11_byWay 88 = .ok (.iload 6, 2) := by decide +kernel
theorem dX11_byWay_90 : decode cX11_byWay 90 = .ok (.invokevirtual 153, 3) := by decide +kernel
theorem dX11_byWay_93 : decode cX11_byWay 93 = .ok (.ireturn, 1) := by decide +kernel
theorem dX11_lyingAt_0 : decode cX11_lyingAt 0 = .ok (.aload_n 0, 1) := by decide +kernel
theorem dX11_lyingAt_1 : decode cX11_lyingAt 1 = .ok (.getfield 56, 3) := by decide +kernel
theorem dX11_lyingAt_4 : decode cX11_lyingAt 4 = .ok (.aload_n 0, 1) := by decide +kernel
theorem dX11_lyingAt_5 : decode cX11_lyingAt 5 = .ok (.getfield 19, 3) := by decide +kernel
theorem dX11_lyingAt_8 : decode cX11_lyingAt 8 = .ok (.aload_n 1, 1) := by decide +kernel
theorem dX11_lyingAt_9 : decode cX11_lyingAt 9 = .ok (.invokevirtual 157, 3) := by decide +kernel
theorem dX11_lyingAt_12 : decode cX11_lyingAt 12 = .ok (.aload_n 0, 1) := by decide +kernel
theorem dX11_lyingAt_13 : decode cX11_lyingAt 13 = .ok (.getfield 56, 3) := by decide +kernel
theorem dX11_lyingAt_16 : decode cX11_lyingAt 16 = .ok (.iload 4, 2) := by decide +kernel
theorem dX11_lyingAt_18 : decode cX11_lyingAt 18 = .ok (.invokevirtual 160, 3) := by decide +kernel
theorem dX11_lyingAt_21 : decode cX11_lyingAt 21 = .ok (.aload_n 0, 1) := by decide +kernel
theorem dX11_lyingAt_22 : decode cX11_lyingAt 22 = .ok (.getfield 56, 3) := by decide +kernel
theorem dX11_lyingAt_25 : decode cX11_lyingAt 25 = .ok (.iload_n 2, 1) := by decide +kernel
theorem dX11_lyingAt_26 : decode cX11_lyingAt 26 = .ok (.iload_n 3, 1) := by decide +kernel
theorem dX11_lyingAt_27 : decode cX11_lyingAt 27 = .ok (.invokevirtual 178, 3) := by decide +kernel
theorem dX11_lyingAt_30 : decode cX11_lyingAt 30 = .ok (.ireturn, 1) := by decide +kernel
theorem dX11_find_0 : decode cX11_find 0 = .ok (.iload_n 1, 1) := by decide +kernel
theorem dX11_find_1 : decode cX11_find 1 = .ok (.bipush 10, 2) := by decide +kernel
theorem dX11_find_3 : decode cX11_find 3 = .ok (.invokestatic 121, 3) := by decide +kernel
theorem dX11_find_6 : decode cX11_find 6 = .ok (.iload_n 2, 1) := by decide +kernel
theorem dX11_find_7 : decode cX11_find 7 = .ok (.bipush 100, 2) := by decide +kernel
theorem dX11_find_9 : decode cX11_find 9 = .ok (.invokestatic 121, 3) := by decide +kernel
theorem dX11_find_12 : decode cX11_find 12 = .ok (.iload_n 3, 1) := by decide +kernel
theorem dX11_find_13 : decode cX11_find 13 = .ok (.bipush 10, 2) := by decide +kernel
theorem dX11_find_15 : decode cX11_find 15 = .ok (.invokestatic 121, 3) := by decide +kernel
theorem dX11_find_18 : decode cX11_find 18 = .ok (.iload 4, 2) := by decide +kernel
theorem dX11_find_20 : decode cX11_find 20 = .ok (.bipush 61, 2) := by decide +kernel
theorem dX11_find_22 : decode cX11_find 22 = .ok (.invokestatic 121, 3) := by decide +kernel
theorem dX11_find_25 : decode cX11_find 25 = .ok (.aload_n 0, 1) := by decide +kernel
theorem dX11_find_26 : decode cX11_find 26 = .ok (.getfield 43, 3) := by decide +kernel
theorem dX11_find_29 : decode cX11_find 29 = .ok (.getfield 181, 3) := by decide +kernel
theorem dX11_find_32 : decode cX11_find 32 = .ok (.iload_n 1, 1) := by decide +kernel
theorem dX11_find_33 : decode cX11_find 33 = .ok (.iload_n 2, 1) := by decide +kernel
theorem dX11_find_34 : decode cX11_find 34 = .ok (.iload_n 3, 1) := by decide +kernel
theorem dX11_find_35 : decode cX11_find 35 = .ok (.iload 4, 2) := by decide +kernel
theorem dX11_find_37 : decode cX11_find 37 = .ok (.invokevirtual 185, 3) := by decide +kernel
theorem dX11_find_40 : decode cX11_find 40 = .ok (.ireturn, 1) := by decide +kernel
theorem dX11_found_0 : decode cX11_found 0 = .ok (.aload_n 0, 1) := by decide +kernel
theorem dX11_found_1 : decode cX11_found 1 = .ok (.getfield 43, 3) := by decide +kernel
theorem dX11_found_4 : decode cX11_found 4 = .ok (.getfield 181, 3) := by decide +kernel
theorem dX11_found_7 : decode cX11_found 7 = .ok (.astore_n 3, 1) := by decide +kernel
theorem dX11_found_8 : decode cX11_found 8 = .ok (.iload_n 1, 1) := by decide +kernel
theorem dX11_found_9 : decode cX11_found 9 = .ok (.aload_n 3, 1) := by decide +kernel
theorem dX11_found_10 : decode cX11_found 10 = .ok (.getfield 191, 3) := by decide +kernel
theorem dX11_found_13 : decode cX11_found 13 = .ok (.bipush 8, 2) := by decide +kernel
theorem dX11_found_15 : decode cX11_found 15 = .ok (.invokestatic 192, 3) := by decide +kernel
theorem dX11_found_18 : decode cX11_found 18 = .ok (.invokestatic 197, 3) := by decide +kernel
theorem dX11_found_21 : decode cX11_found 21 = .ok (.iload_n 2, 1) := by decide +kernel
theorem dX11_found_22 : decode cX11_found 22 = .ok (.tableswitch 58 0 3 #[30, 37, 44, 51], 30) := by decide +kernel
theorem dX11_found_52 : decode cX11_found 52 = .ok (.aload_n 3, 1) := by decide +kernel
theorem dX11_found_53 : decode cX11_found 53 = .ok (.getfield 200, 3) := by decide +kernel
theorem dX11_found_56 : decode cX11_found 56 = .ok (.iload_n 1, 1) := by decide +kernel
theorem dX11_found_57 : decode cX11_found 57 = .ok (.iaload, 1) := by decide +kernel
theorem dX11_found_58 : decode cX11_found 58 = .ok (.ireturn, 1) := by decide +kernel
theorem dX11_found_59 : decode cX11_found 59 = .ok (.aload_n 3, 1) := by decide +kernel
theorem dX11_found_60 : decode cX11_found 60 = .ok (.getfield 203, 3) := by decide +kernel
theorem dX11_found_63 : decode cX11_found 63 = .ok (.iload_n 1, 1) := by decide +kernel
theorem dX11_found_64 : decode cX11_found 64 = .ok (.iaload, 1) := by decide +kernel
theorem dX11_found_65 : decode cX11_found 65 = .ok (.ireturn, 1) := by decide +kernel
theorem dX11_found_66 : decode cX11_found 66 = .ok (.aload_n 3, 1) := by decide +kernel
theorem dX11_found_67 : decode cX11_found 67 = .ok (.getfield 206, 3) := by decide +kernel
theorem dX11_found_70 : decode cX11_found 70 = .ok (.iload_n 1, 1) := by decide +kernel
theorem dX11_found_71 : decode cX11_found 71 = .ok (.iaload, 1) := by decide +kernel
