theorem dX11_found_72 : decode cX11_found 72 = .ok (.ireturn, 1) := by decide +kernel
theorem dX11_found_73 : decode cX11_found 73 = .ok (.aload_n 3, 1) := by decide +kernel
theorem dX11_found_74 : decode cX11_found 74 = .ok (.getfield 209, 3) := by decide +kernel
theorem dX11_found_77 : decode cX11_found 77 = .ok (.iload_n 1, 1) := by decide +kernel
theorem dX11_found_78 : decode cX11_found 78 = .ok (.iaload, 1) := by decide +kernel
theorem dX11_found_79 : decode cX11_found 79 = .ok (.ireturn, 1) := by decide +kernel
theorem dX11_found_80 : decode cX11_found 80 = .ok (.new 111, 3) := by decide +kernel
theorem dX11_found_83 : decode cX11_found 83 = .ok (.dup, 1) := by decide +kernel
theorem dX11_found_84 : decode cX11_found 84 = .ok (.ldc 144, 2) := by decide +kernel
theorem dX11_found_86 : decode cX11_found 86 = .ok (.invokespecial 115, 3) := by decide +kernel
theorem dX11_found_89 : decode cX11_found 89 = .ok (.athrow, 1) := by decide +kernel
theorem dX11_drop_0 : decode cX11_drop 0 = .ok (.iload_n 1, 1) := by decide +kernel
theorem dX11_drop_1 : decode cX11_drop 1 = .ok (.aload_n 0, 1) := by decide +kernel
theorem dX11_drop_2 : decode cX11_drop 2 = .ok (.getfield 43, 3) := by decide +kernel
theorem dX11_drop_5 : decode cX11_drop 5 = .ok (.getfield 181, 3) := by decide +kernel
theorem dX11_drop_8 : decode cX11_drop 8 = .ok (.getfield 191, 3) := by decide +kernel
theorem dX11_drop_11 : decode cX11_drop 11 = .ok (.invokestatic 197, 3) := by decide +kernel
theorem dX11_drop_14 : decode cX11_drop 14 = .ok (.aload_n 0, 1) := by decide +kernel
theorem dX11_drop_15 : decode cX11_drop 15 = .ok (.getfield 43, 3) := by decide +kernel
theorem dX11_drop_18 : decode cX11_drop 18 = .ok (.getfield 181, 3) := by decide +kernel
theorem dX11_drop_21 : decode cX11_drop 21 = .ok (.iload_n 1, 1) := by decide +kernel
theorem dX11_drop_22 : decode cX11_drop 22 = .ok (.invokevirtual 212, 3) := by decide +kernel
theorem dX11_drop_25 : decode cX11_drop 25 = .ok (.aload_n 0, 1) := by decide +kernel
theorem dX11_drop_26 : decode cX11_drop 26 = .ok (.getfield 43, 3) := by decide +kernel
theorem dX11_drop_29 : decode cX11_drop 29 = .ok (.getfield 181, 3) := by decide +kernel
theorem dX11_drop_32 : decode cX11_drop 32 = .ok (.getfield 191, 3) := by decide +kernel
theorem dX11_drop_35 : decode cX11_drop 35 = .ok (.ireturn, 1) := by decide +kernel
theorem dX11_scale_0 : decode cX11_scale 0 = .ok (.aload_n 0, 1) := by decide +kernel
theorem dX11_scale_1 : decode cX11_scale 1 = .ok (.aload_n 0, 1) := by decide +kernel
theorem dX11_scale_2 : decode cX11_scale 2 = .ok (.iload_n 1, 1) := by decide +kernel
theorem dX11_scale_3 : decode cX11_scale 3 = .ok (.invokevirtual 149, 3) := by decide +kernel
theorem dX11_scale_6 : decode cX11_scale 6 = .ok (.aload_n 0, 1) := by decide +kernel
theorem dX11_scale_7 : decode cX11_scale 7 = .ok (.getfield 70, 3) := by decide +kernel
theorem dX11_scale_10 : decode cX11_scale 10 = .ok (.getfield 215, 3) := by decide +kernel
theorem dX11_scale_13 : decode cX11_scale 13 = .ok (.iconst (-1), 1) := by decide +kernel
theorem dX11_scale_14 : decode cX11_scale 14 = .ok (.invokevirtual 219, 3) := by decide +kernel
theorem dX11_scale_17 : decode cX11_scale 17 = .ok (.aload_n 0, 1) := by decide +kernel
theorem dX11_scale_18 : decode cX11_scale 18 = .ok (.getfield 70, 3) := by decide +kernel
theorem dX11_scale_21 : decode cX11_scale 21 = .ok (.getfield 215, 3) := by decide +kernel
theorem dX11_scale_24 : decode cX11_scale 24 = .ok (.getfield 223, 3) := by decide +kernel
theorem dX11_scale_27 : decode cX11_scale 27 = .ok (.ireturn, 1) := by decide +kernel
theorem dX11_digits_0 : decode cX11_digits 0 = .ok (.aload_n 0, 1) := by decide +kernel
theorem dX11_digits_1 : decode cX11_digits 1 = .ok (.aload_n 0, 1) := by decide +kernel
theorem dX11_digits_2 : decode cX11_digits 2 = .ok (.iload_n 1, 1) := by decide +kernel
theorem dX11_digits_3 : decode cX11_digits 3 = .ok (.invokevirtual 149, 3) := by decide +kernel
theorem dX11_digits_6 : decode cX11_digits 6 = .ok (.aload_n 0, 1) := by decide +kernel
theorem dX11_digits_7 : decode cX11_digits 7 = .ok (.getfield 70, 3) := by decide +kernel
theorem dX11_digits_10 : decode cX11_digits 10 = .ok (.getfield 215, 3) := by decide +kernel
theorem dX11_digits_13 : decode cX11_digits 13 = .ok (.iconst (-1), 1) := by decide +kernel
theorem dX11_digits_14 : decode cX11_digits 14 = .ok (.invokevirtual 219, 3) := by decide +kernel
theorem dX11_digits_17 : decode cX11_digits 17 = .ok (.aload_n 0, 1) := by decide +kernel
theorem dX11_digits_18 : decode cX11_digits 18 = .ok (.getfield 70, 3) := by decide +kernel
theorem dX11_digits_21 : decode cX11_digits 21 = .ok (.getfield 215, 3) := by decide +kernel
theorem dX11_digits_24 : decode cX11_digits 24 = .ok (.getfield 228, 3) := by decide +kernel
theorem dX11_digits_27 : decode cX11_digits 27 = .ok (.invokevirtual 232, 3) := by decide +kernel
theorem dX11_digits_30 : decode cX11_digits 30 = .ok (.ireturn, 1) := by decide +kernel
theorem dX11_digit_0 : decode cX11_digit 0 = .ok (.aload_n 0, 1) := by decide +kernel
theorem dX11_digit_1 : decode cX11_digit 1 = .ok (.aload_n 0, 1) := by decide +kernel
theorem dX11_digit_2 : decode cX11_digit 2 = .ok (.iload_n 1, 1) := by decide +kernel
theorem dX11_digit_3 : decode cX11_digit 3 = .ok (.invokevirtual 149, 3) := by decide +kernel
theorem dX11_digit_6 : decode cX11_digit 6 = .ok (.aload_n 0, 1) := by decide +kernel
theorem dX11_digit_7 : decode cX11_digit 7 = .ok (.getfield 70, 3) := by decide +kernel
theorem dX11_digit_10 : decode cX11_digit 10 = .ok (.getfield 215, 3) := by decide +kernel
theorem dX11_digit_13 : decode cX11_digit 13 = .ok (.iconst (-1), 1) := by decide +kernel
theorem dX11_digit_14 : decode cX11_digit 14 = .ok (.invokevirtual 219, 3) := by decide +kernel
theorem dX11_digit_17 : decode cX11_digit 17 = .ok (.aload_n 0, 1) := by decide +kernel
theorem dX11_digit_18 : decode cX11_digit 18 = .ok (.getfield 70, 3) := by decide +kernel
theorem dX11_digit_21 : decode cX11_digit 21 = .ok (.getfield 215, 3) := by decide +kernel
theorem dX11_digit_24 : decode cX11_digit 24 = .ok (.getfield 228, 3) := by decide +kernel
theorem dX11_digit_27 : decode cX11_digit 27 = .ok (.iload_n 2, 1) := by decide +kernel
theorem dX11_digit_28 : decode cX11_digit 28 = .ok (.invokevirtual 238, 3) := by decide +kernel
theorem dX11_digit_31 : decode cX11_digit 31 = .ok (.ireturn, 1) := by decide +kernel
theorem dX11_weighed_0 : decode cX11_weighed 0 = .ok (.aload_n 0, 1) := by decide +kernel
theorem dX11_weighed_1 : decode cX11_weighed 1 = .ok (.iload_n 1, 1) := by decide +kernel
theorem dX11_weighed_2 : decode cX11_weighed 2 = .ok (.invokevirtual 149, 3) := by decide +kernel
theorem dX11_weighed_5 : decode cX11_weighed 5 = .ok (.astore_n 3, 1) := by decide +kernel
theorem dX11_weighed_6 : decode cX11_weighed 6 = .ok (.aload_n 0, 1) := by decide +kernel
theorem dX11_weighed_7 : decode cX11_weighed 7 = .ok (.iload_n 2, 1) := by decide +kernel
theorem dX11_weighed_8 : decode cX11_weighed 8 = .ok (.invokevirtual 149, 3) := by decide +kernel
theorem dX11_weighed_11 : decode cX11_weighed 11 = .ok (.astore 4, 2) := by decide +kernel
theorem dX11_weighed_13 : decode cX11_weighed 13 = .ok (.aload_n 0, 1) := by decide +kernel
theorem dX11_weighed_14 : decode cX11_weighed 14 = .ok (.aload_n 3, 1) := by decide +kernel
theorem dX11_weighed_15 : decode cX11_weighed 15 = .ok (.aload_n 0, 1) := by decide +kernel
theorem dX11_weighed_16 : decode cX11_weighed 16 = .ok (.getfield 70, 3) := by decide +kernel
theorem dX11_weighed_19 : decode cX11_weighed 19 = .ok (.getfield 215, 3) := by decide +kernel
theorem dX11_weighed_22 : decode cX11_weighed 22 = .ok (.iconst (-1), 1) := by decide +kernel
theorem dX11_weighed_23 : decode cX11_weighed 23 = .ok (.invokevirtual 219, 3) := by decide +kernel
theorem dX11_weighed_26 : decode cX11_weighed 26 = .ok (.aload_n 0, 1) := by decide +kernel
theorem dX11_weighed_27 : decode cX11_weighed 27 = .ok (.aload 4, 2) := by decide +kernel
theorem dX11_weighed_29 : decode cX11_weighed 29 = .ok (.aload_n 0, 1) := by decide +kernel
theorem dX11_weighed_30 : decode cX11_weighed 30 = .ok (.getfield 70, 3) := by decide +kernel
theorem dX11_weighed_33 : decode cX11_weighed 33 = .ok (.getfield 241, 3) := by decide +kernel
theorem dX11_weighed_36 : decode cX11_weighed 36 = .ok (.iconst (-1), 1) := by decide +kernel
theorem dX11_weighed_37 : decode cX11_weighed 37 = .ok (.invokevirtual 219, 3) := by decide +kernel
theorem dX11_weighed_40 : decode cX11_weighed 40 = .ok (.aload_n 0, 1) := by decide +kernel
theorem dX11_weighed_41 : decode cX11_weighed 41 = .ok (.getfield 70, 3) := by decide +kernel
theorem dX11_weighed_44 : decode cX11_weighed 44 = .ok (.invokevirtual 244, 3) := by decide +kernel
theorem dX11_weighed_47 : decode cX11_weighed 47 = .ok (.ireturn, 1) := by decide +kernel
theorem dX11_worth_0 : decode cX11_worth 0 = .ok (.aload_n 0, 1) := by decide +kernel
theorem dX11_worth_1 : decode cX11_worth 1 = .ok (.iload_n 1, 1) := by decide +kernel
theorem dX11_worth_2 : decode cX11_worth 2 = .ok (.invokevirtual 149, 3) := by decide +kernel
theorem dX11_worth_5 : decode cX11_worth 5 = .ok (.astore_n 3, 1) := by decide +kernel
theorem dX11_worth_6 : decode cX11_worth 6 = .ok (.aload_n 0, 1) := by decide +kernel
theorem dX11_worth_7 : decode cX11_worth 7 = .ok (.iload_n 2, 1) := by decide +kernel
theorem dX11_worth_8 : decode cX11_worth 8 = .ok (.invokevirtual 149, 3) := by decide +kernel
theorem dX11_worth_11 : decode cX11_worth 11 = .ok (.astore 4, 2) := by decide +kernel
theorem dX11_worth_13 : decode cX11_worth 13 = .ok (.aload_n 0, 1) := by decide +kernel
theorem dX11_worth_14 : decode cX11_worth 14 = .ok (.aload_n 3, 1) := by decide +kernel
theorem dX11_worth_15 : decode cX11_worth 15 = .ok (.aload 4, 2) := by decide +kernel
theorem dX11_worth_17 : decode cX11_worth 17 = .ok (.iconst (-1), 1) := by decide +kernel
theorem dX11_worth_18 : decode cX11_worth 18 = .ok (.invokevirtual 247, 3) := by decide +kernel
theorem dX11_worth_21 : decode cX11_worth 21 = .ok (.ireturn, 1) := by decide +kernel
theorem dX11_part_0 : decode cX11_part 0 = .ok (.aload_n 0, 1) := by decide +kernel
theorem dX11_part_1 : decode cX11_part 1 = .ok (.iload_n 1, 1) := by decide +kernel
theorem dX11_part_2 : decode cX11_part 2 = .ok (.invokevirtual 149, 3) := by decide +kernel
theorem dX11_part_5 : decode cX11_part 5 = .ok (.astore 4, 2) := by decide +kernel
theorem dX11_part_7 : decode cX11_part 7 = .ok (.aload_n 0, 1) := by decide +kernel
theorem dX11_part_8 : decode cX11_part 8 = .ok (.iload_n 2, 1) := by decide +kernel
theorem dX11_part_9 : decode cX11_part 9 = .ok (.invokevirtual 149, 3) := by decide +kernel
theorem dX11_part_12 : decode cX11_part 12 = .ok (.astore 5, 2) := by decide +kernel
theorem dX11_part_14 : decode cX11_part 14 = .ok (.iload_n 3, 1) := by decide +kernel
theorem dX11_part_15 : decode cX11_part 15 = .ok (.aload_n 0, 1) := by decide +kernel
theorem dX11_part_16 : decode cX11_part 16 = .ok (.getfield 43, 3) := by decide +kernel
theorem dX11_part_19 : decode cX11_part 19 = .ok (.getfield 181, 3) := by decide +kernel
theorem dX11_part_22 : decode cX11_part 22 = .ok (.getfield 191, 3) := by decide +kernel
theorem dX11_part_25 : decode cX11_part 25 = .ok (.invokestatic 197, 3) := by decide +kernel
theorem dX11_part_28 : decode cX11_part 28 = .ok (.aload_n 0, 1) := by decide +kernel
theorem dX11_part_29 : decode cX11_part 29 = .ok (.aload 4, 2) := by decide +kernel
theorem dX11_part_31 : decode cX11_part 31 = .ok (.aload 5, 2) := by decide +kernel
theorem dX11_part_33 : decode cX11_part 33 = .ok (.iload_n 3, 1) := by decide +kernel
theorem dX11_part_34 : decode cX11_part 34 = .ok (.invokevirtual 247, 3) := by decide +kernel
theorem dX11_part_37 : decode cX11_part 37 = .ok (.ireturn, 1) := by decide +kernel
theorem dX11_said_0 : decode cX11_said 0 = .ok (.aload_n 0, 1) := by decide +kernel
theorem dX11_said_1 : decode cX11_said 1 = .ok (.iload_n 1, 1) := by decide +kernel
theorem dX11_said_2 : decode cX11_said 2 = .ok (.invokevirtual 149, 3) := by decide +kernel
theorem dX11_said_5 : decode cX11_said 5 = .ok (.astore_n 3, 1) := by decide +kernel
theorem dX11_said_6 : decode cX11_said 6 = .ok (.aload_n 0, 1) := by decide +kernel
theorem dX11_said_7 : decode cX11_said 7 = .ok (.iload_n 2, 1) := by decide +kernel
theorem dX11_said_8 : decode cX11_said 8 = .ok (.invokevirtual 149, 3) := by decide +kernel
theorem dX11_said_11 : decode cX11_said 11 = .ok (.astore 4, 2) := by decide +kernel
theorem dX11_said_13 : decode cX11_said 13 = .ok (.aload_n 0, 1) := by decide +kernel
theorem dX11_said_14 : decode cX11_said 14 = .ok (.aload_n 3, 1) := by decide +kernel
theorem dX11_said_15 : decode cX11_said 15 = .ok (.aload 4, 2) := by decide +kernel
theorem dX11_said_17 : decode cX11_said 17 = .ok (.iconst (-1), 1) := by decide +kernel
theorem dX11_said_18 : decode cX11_said 18 = .ok (.invokevirtual 247, 3) := by decide +kernel
theorem dX11_said_21 : decode cX11_said 21 = .ok (.istore 5, 2) := by decide +kernel
theorem dX11_said_23 : decode cX11_said 23 = .ok (.iload 5, 2) := by decide +kernel
theorem dX11_said_25 : decode cX11_said 25 = .ok (.bipush 10, 2) := by decide +kernel
theorem dX11_said_27 : decode cX11_said 27 = .ok (.if_icmp .ge 5, 3) := by decide +kernel
theorem dX11_said_30 : decode cX11_said 30 = .ok (.iconst 0, 1) := by decide +kernel
theorem dX11_said_31 : decode cX11_said 31 = .ok (.ireturn, 1) := by decide +kernel
theorem dX11_said_32 : decode cX11_said 32 = .ok (.iload 5, 2) := by decide +kernel
theorem dX11_said_34 : decode cX11_said 34 = .ok (.sipush 1000, 3) := by decide +kernel
theorem dX11_said_37 : decode cX11_said 37 = .ok (.if_icmp .ge 5, 3) := by decide +kernel
theorem dX11_said_40 : decode cX11_said 40 = .ok (.iconst 1, 1) := by decide +kernel
theorem dX11_said_41 : decode cX11_said 41 = .ok (.ireturn, 1) := by decide +kernel
theorem dX11_said_42 : decode cX11_said 42 = .ok (.iload 5, 2) := by decide +kernel
theorem dX11_said_44 : decode cX11_said 44 = .ok (.ldc 251, 2) := by decide +kernel
theorem dX11_said_46 : decode cX11_said 46 = .ok (.if_icmp .ge 7, 3) := by decide +kernel
theorem dX11_said_49 : decode cX11_said 49 = .ok (.iconst 2, 1) := by decide +kernel
theorem dX11_said_50 : decode cX11_said 50 = .ok (.goto 4, 3) := by decide +kernel
theorem dX11_said_53 : decode cX11_said 53 = .ok (.iconst 3, 1) := by decide +kernel
theorem dX11_said_54 : decode cX11_said 54 = .ok (.ireturn, 1) := by decide +kernel
theorem dX11_worthOf_0 : decode cX11_worthOf 0 = .ok (.aload_n 0, 1) := by decide +kernel
theorem dX11_worthOf_1 : decode cX11_worthOf 1 = .ok (.aload_n 1, 1) := by decide +kernel
theorem dX11_worthOf_2 : decode cX11_worthOf 2 = .ok (.aload_n 0, 1) := by decide +kernel
theorem dX11_worthOf_3 : decode cX11_worthOf 3 = .ok (.getfield 70, 3) := by decide +kernel
theorem dX11_worthOf_6 : decode cX11_worthOf 6 = .ok (.getfield 215, 3) := by decide +kernel
theorem dX11_worthOf_9 : decode cX11_worthOf 9 = .ok (.iload_n 3, 1) := by decide +kernel
theorem dX11_worthOf_10 : decode cX11_worthOf 10 = .ok (.invokevirtual 219, 3) := by decide +kernel
theorem dX11_worthOf_13 : decode cX11_worthOf 13 = .ok (.aload_n 0, 1) := by decide +kernel
theorem dX11_worthOf_14 : decode cX11_worthOf 14 = .ok (.aload_n 2, 1) := by decide +kernel
theorem dX11_worthOf_15 : decode cX11_worthOf 15 = .ok (.aload_n 0, 1) := by decide +kernel
theorem dX11_worthOf_16 : decode cX11_worthOf 16 = .ok (.getfield 70, 3) := by decide +kernel
theorem dX11_worthOf_19 : decode cX11_worthOf 19 = .ok (.getfield 241, 3) := by decide +kernel
theorem dX11_worthOf_22 : decode cX11_worthOf 22 = .ok (.iload_n 3, 1) := by decide +kernel
theorem dX11_worthOf_23 : decode cX11_worthOf 23 = .ok (.invokevirtual 219, 3) := by decide +kernel
theorem dX11_worthOf_26 : decode cX11_worthOf 26 = .ok (.aload_n 0, 1) := by decide +kernel
theorem dX11_worthOf_27 : decode cX11_worthOf 27 = .ok (.getfield 70, 3) := by decide +kernel
theorem dX11_worthOf_30 : decode cX11_worthOf 30 = .ok (.invokevirtual 252, 3) := by decide +kernel
theorem dX11_worthOf_33 : decode cX11_worthOf 33 = .ok (.ireturn, 1) := by decide +kernel
theorem dX11_judge_0 : decode cX11_judge 0 = .ok (.aload_n 0, 1) := by decide +kernel
theorem dX11_judge_1 : decode cX11_judge 1 = .ok (.aload_n 1, 1) := by decide +kernel
theorem dX11_judge_2 : decode cX11_judge 2 = .ok (.invokevirtual 255, 3) := by decide +kernel
theorem dX11_judge_5 : decode cX11_judge 5 = .ok (.aload_n 2, 1) := by decide +kernel
theorem dX11_judge_6 : decode cX11_judge 6 = .ok (.invokevirtual 259, 3) := by decide +kernel
theorem dX11_judge_9 : decode cX11_judge 9 = .ok (.iconst 0, 1) := by decide +kernel
theorem dX11_judge_10 : decode cX11_judge 10 = .ok (.istore 4, 2) := by decide +kernel
theorem dX11_judge_12 : decode cX11_judge 12 = .ok (.iload 4, 2) := by decide +kernel
theorem dX11_judge_14 : decode cX11_judge 14 = .ok (.aload_n 0, 1) := by decide +kernel
theorem dX11_judge_15 : decode cX11_judge 15 = .ok (.getfield 43, 3) := by decide +kernel
theorem dX11_judge_18 : decode cX11_judge 18 = .ok (.getfield 181, 3) := by decide +kernel
theorem dX11_judge_21 : decode cX11_judge 21 = .ok (.getfield 191, 3) := by decide +kernel
theorem dX11_judge_24 : decode cX11_judge 24 = .ok (.if_icmp .ge 58, 3) := by decide +kernel
theorem dX11_judge_27 : decode cX11_judge 27 = .ok (.iload 4, 2) := by decide +kernel
theorem dX11_judge_29 : decode cX11_judge 29 = .ok (.bipush 8, 2) := by decide +kernel
theorem dX11_judge_31 : decode cX11_judge 31 = .ok (.if_icmp .ge 51, 3) := by decide +kernel
theorem dX11_judge_34 : decode cX11_judge 34 = .ok (.iload_n 3, 1) := by decide +kernel
theorem dX11_judge_35 : decode cX11_judge 35 = .ok (.iconst (-1), 1) := by decide +kernel
theorem dX11_judge_36 : decode cX11_judge 36 = .ok (.if_icmp .eq 9, 3) := by decide +kernel
theorem dX11_judge_39 : decode cX11_judge 39 = .ok (.iload_n 3, 1) := by decide +kernel
theorem dX11_judge_40 : decode cX11_judge 40 = .ok (.iload 4, 2) := by decide +kernel
theorem dX11_judge_42 : decode cX11_judge 42 = .ok (.if_icmp .ne 34, 3) := by decide +kernel
theorem dX11_judge_45 : decode cX11_judge 45 = .ok (.aload_n 2, 1) := by decide +kernel
theorem dX11_judge_46 : decode cX11_judge 46 = .ok (.aload_n 0, 1) := by decide +kernel
theorem dX11_judge_47 : decode cX11_judge 47 = .ok (.getfield 63, 3) := by decide +kernel
theorem dX11_judge_50 : decode cX11_judge 50 = .ok (.iload 4, 2) := by decide +kernel
theorem dX11_judge_52 : decode cX11_judge 52 = .ok (.iaload, 1) := by decide +kernel
theorem dX11_judge_53 : decode cX11_judge 53 = .ok (.aload_n 0, 1) := by decide +kernel
theorem dX11_judge_54 : decode cX11_judge 54 = .ok (.getfield 43, 3) := by decide +kernel
theorem dX11_judge_57 : decode cX11_judge 57 = .ok (.getfield 181, 3) := by decide +kernel
theorem dX11_judge_60 : decode cX11_judge 60 = .ok (.getfield 209, 3) := by decide +kernel
theorem dX11_judge_63 : decode cX11_judge 63 = .ok (.iload 4, 2) := by decide +kernel
theorem dX11_judge_65 : decode cX11_judge 65 = .ok (.iaload, 1) := by decide +kernel
theorem dX11_judge_66 : decode cX11_judge 66 = .ok (.aload_n 0, 1) := by decide +kernel
theorem dX11_judge_67 : decode cX11_judge 67 = .ok (.getfield 19, 3) := by decide +kernel
theorem dX11_judge_70 : decode cX11_judge 70 = .ok (.getfield 141, 3) := by decide +kernel
theorem dX11_judge_73 : decode cX11_judge 73 = .ok (.invokevirtual 261, 3) := by decide +kernel
theorem dX11_judge_76 : decode cX11_judge 76 = .ok (.iinc 4 1, 3) := by decide +kernel
theorem dX11_judge_79 : decode cX11_judge 79 = .ok (.goto (-67), 3) := by decide +kernel
theorem dX11_judge_82 : decode cX11_judge 82 = .ok (.return_, 1) := by decide +kernel
theorem dX11_fillPiles_0 : decode cX11_fillPiles 0 = .ok (.aload_n 0, 1) := by decide +kernel
theorem dX11_fillPiles_1 : decode cX11_fillPiles 1 = .ok (.getfield 43, 3) := by decide +kernel
theorem dX11_fillPiles_4 : decode cX11_fillPiles 4 = .ok (.getfield 181, 3) := by decide +kernel
theorem dX11_fillPiles_7 : decode cX11_fillPiles 7 = .ok (.astore_n 2, 1) := by decide +kernel
theorem dX11_fillPiles_8 : decode cX11_fillPiles 8 = .ok (.aload_n 2, 1) := by decide +kernel
theorem dX11_fillPiles_9 : decode cX11_fillPiles 9 = .ok (.invokevirtual 265, 3) := by decide +kernel
theorem dX11_fillPiles_12 : decode cX11_fillPiles 12 = .ok (.istore_n 3, 1) := by decide +kernel
theorem dX11_fillPiles_13 : decode cX11_fillPiles 13 = .ok (.aload_n 0, 1) := by decide +kernel
theorem dX11_fillPiles_14 : decode cX11_fillPiles 14 = .ok (.getfield 56, 3) := by decide +kernel
theorem dX11_fillPiles_17 : decode cX11_fillPiles 17 = .ok (.aload_n 0, 1) := by decide +kernel
theorem dX11_fillPiles_18 : decode cX11_fillPiles 18 = .ok (.getfield 19, 3) := by decide +kernel
theorem dX11_fillPiles_21 : decode cX11_fillPiles 21 = .ok (.aload_n 1, 1) := by decide +kernel
theorem dX11_fillPiles_22 : decode cX11_fillPiles 22 = .ok (.invokevirtual 157, 3) := by decide +kernel
theorem dX11_fillPiles_25 : decode cX11_fillPiles 25 = .ok (.iconst 0, 1) := by decide +kernel
theorem dX11_fillPiles_26 : decode cX11_fillPiles 26 = .ok (.istore 4, 2) := by decide +kernel
theorem dX11_fillPiles_28 : decode cX11_fillPiles 28 = .ok (.iload 4, 2) := by decide +kernel
theorem dX11_fillPiles_30 : decode cX11_fillPiles 30 = .ok (.iload_n 3, 1) := by decide +kernel
theorem dX11_fillPiles_31 : decode cX11_fillPiles 31 = .ok (.if_icmp .gt 90, 3) := by decide +kernel
theorem dX11_fillPiles_34 : decode cX11_fillPiles 34 = .ok (.iload 4, 2) := by decide +kernel
theorem dX11_fillPiles_36 : decode cX11_fillPiles 36 = .ok (.bipush 100, 2) := by decide +kernel
theorem dX11_fillPiles_38 : decode cX11_fillPiles 38 = .ok (.if_icmp .ge 83, 3) := by decide +kernel
theorem dX11_fillPiles_41 : decode cX11_fillPiles 41 = .ok (.aload_n 0, 1) := by decide +kernel
theorem dX11_fillPiles_42 : decode cX11_fillPiles 42 = .ok (.getfield 56, 3) := by decide +kernel
theorem dX11_fillPiles_45 : decode cX11_fillPiles 45 = .ok (.iload 4, 2) := by decide +kernel
theorem dX11_fillPiles_47 : decode cX11_fillPiles 47 = .ok (.invokevirtual 160, 3) := by decide +kernel
theorem dX11_fillPiles_50 : decode cX11_fillPiles 50 = .ok (.iconst 0, 1) := by decide +kernel
theorem dX11_fillPiles_51 : decode cX11_fillPiles 51 = .ok (.istore 5, 2) := by decide +kernel
theorem dX11_fillPiles_53 : decode cX11_fillPiles 53 = .ok (.iload 5, 2) := by decide +kernel
theorem dX11_fillPiles_55 : decode cX11_fillPiles 55 = .ok (.aload_n 2, 1) := by decide +kernel
theorem dX11_fillPiles_56 : decode cX11_fillPiles 56 = .ok (.getfield 191, 3) := by decide +kernel
theorem dX11_fillPiles_59 : decode cX11_fillPiles 59 = .ok (.if_icmp .ge 56, 3) := by decide +kernel
theorem dX11_fillPiles_62 : decode cX11_fillPiles 62 = .ok (.iload 5, 2) := by decide +kernel
theorem dX11_fillPiles_64 : decode cX11_fillPiles 64 = .ok (.bipush 8, 2) := by decide +kernel
theorem dX11_fillPiles_66 : decode cX11_fillPiles 66 = .ok (.if_icmp .ge 49, 3) := by decide +kernel
theorem dX11_fillPiles_69 : decode cX11_fillPiles 69 = .ok (.aload_n 2, 1) := by decide +kernel
theorem dX11_fillPiles_70 : decode cX11_fillPiles 70 = .ok (.getfield 203, 3) := by decide +kernel
theorem dX11_fillPiles_73 : decode cX11_fillPiles 73 = .ok (.iload 5, 2) := by decide +kernel
theorem dX11_fillPiles_75 : decode cX11_fillPiles 75 = .ok (.iaload, 1) := by decide +kernel
theorem dX11_fillPiles_76 : decode cX11_fillPiles 76 = .ok (.iload 4, 2) := by decide +kernel
theorem dX11_fillPiles_78 : decode cX11_fillPiles 78 = .ok (.if_icmp .ne 31, 3) := by decide +kernel
theorem dX11_fillPiles_81 : decode cX11_fillPiles 81 = .ok (.aload_n 0, 1) := by decide +kernel
theorem dX11_fillPiles_82 : decode cX11_fillPiles 82 = .ok (.getfield 63, 3) := by decide +kernel
theorem dX11_fillPiles_85 : decode cX11_fillPiles 85 = .ok (.iload 5, 2) := by decide +kernel
theorem dX11_fillPiles_87 : decode cX11_fillPiles 87 = .ok (.aload_n 0, 1) := by decide +kernel
theorem dX11_fillPiles_88 : decode cX11_fillPiles 88 = .ok (.getfield 56, 3) := by decide +kernel
theorem dX11_fillPiles_91 : decode cX11_fillPiles 91 = .ok (.aload_n 2, 1) := by decide +kernel
theorem dX11_fillPiles_92 : decode cX11_fillPiles 92 = .ok (.getfield 200, 3) := by decide +kernel
theorem dX11_fillPiles_95 : decode cX11_fillPiles 95 = .ok (.iload 5, 2) := by decide +kernel
theorem dX11_fillPiles_97 : decode cX11_fillPiles 97 = .ok (.iaload, 1) := by decide +kernel
theorem dX11_fillPiles_98 : decode cX11_fillPiles 98 = .ok (.aload_n 2, 1) := by decide +kernel
theorem dX11_fillPiles_99 : decode cX11_fillPiles 99 = .ok (.getfield 206, 3) := by decide +kernel
theorem dX11_fillPiles_102 : decode cX11_fillPiles 102 = .ok (.iload 5, 2) := by decide +kernel
theorem dX11_fillPiles_104 : decode cX11_fillPiles 104 = .ok (.iaload, 1) := by decide +kernel
theorem dX11_fillPiles_105 : decode cX11_fillPiles 105 = .ok (.invokevirtual 163, 3) := by decide +kernel
theorem dX11_fillPiles_108 : decode cX11_fillPiles 108 = .ok (.iastore, 1) := by decide +kernel
theorem dX11_fillPiles_109 : decode cX11_fillPiles 109 = .ok (.iinc 5 1, 3) := by decide +kernel
theorem dX11_fillPiles_112 : decode cX11_fillPiles 112 = .ok (.goto (-59), 3) := by decide +kernel
theorem dX11_fillPiles_115 : decode cX11_fillPiles 115 = .ok (.iinc 4 1, 3) := by decide +kernel
theorem dX11_fillPiles_118 : decode cX11_fillPiles 118 = .ok (.goto (-90), 3) := by decide +kernel
theorem dX11_fillPiles_121 : decode cX11_fillPiles 121 = .ok (.return_, 1) := by decide +kernel
theorem dX11_events_0 : decode cX11_events 0 = .ok (.aload_n 0, 1) := by decide +kernel
theorem dX11_events_1 : decode cX11_events 1 = .ok (.iload_n 1, 1) := by decide +kernel
theorem dX11_events_2 : decode cX11_events 2 = .ok (.invokevirtual 149, 3) := by decide +kernel
theorem dX11_events_5 : decode cX11_events 5 = .ok (.getfield 268, 3) := by decide +kernel
theorem dX11_events_8 : decode cX11_events 8 = .ok (.ireturn, 1) := by decide +kernel
theorem dX11_counts_0 : decode cX11_counts 0 = .ok (.aload_n 0, 1) := by decide +kernel
theorem dX11_counts_1 : decode cX11_counts 1 = .ok (.iload_n 1, 1) := by decide +kernel
theorem dX11_counts_2 : decode cX11_counts 2 = .ok (.invokevirtual 149, 3) := by decide +kernel
theorem dX11_counts_5 : decode cX11_counts 5 = .ok (.astore_n 3, 1) := by decide +kernel
theorem dX11_counts_6 : decode cX11_counts 6 = .ok (.iload_n 2, 1) := by decide +kernel
theorem dX11_counts_7 : decode cX11_counts 7 = .ok (.aload_n 3, 1) := by decide +kernel
theorem dX11_counts_8 : decode cX11_counts 8 = .ok (.getfield 268, 3) := by decide +kernel
theorem dX11_counts_11 : decode cX11_counts 11 = .ok (.invokestatic 197, 3) := by decide +kernel
theorem dX11_counts_14 : decode cX11_counts 14 = .ok (.aload_n 0, 1) := by decide +kernel
theorem dX11_counts_15 : decode cX11_counts 15 = .ok (.getfield 37, 3) := by decide +kernel
theorem dX11_counts_18 : decode cX11_counts 18 = .ok (.aload_n 3, 1) := by decide +kernel
theorem dX11_counts_19 : decode cX11_counts 19 = .ok (.iload_n 2, 1) := by decide +kernel
theorem dX11_counts_20 : decode cX11_counts 20 = .ok (.invokevirtual 269, 3) := by decide +kernel
theorem dX11_counts_23 : decode cX11_counts 23 = .ok (.aload_n 0, 1) := by decide +kernel
theorem dX11_counts_24 : decode cX11_counts 24 = .ok (.aload_n 3, 1) := by decide +kernel
theorem dX11_counts_25 : decode cX11_counts 25 = .ok (.aload_n 0, 1) := by decide +kernel
theorem dX11_counts_26 : decode cX11_counts 26 = .ok (.getfield 37, 3) := by decide +kernel
theorem dX11_counts_29 : decode cX11_counts 29 = .ok (.iconst (-1), 1) := by decide +kernel
theorem dX11_counts_30 : decode cX11_counts 30 = .ok (.invokevirtual 247, 3) := by decide +kernel
theorem dX11_counts_33 : decode cX11_counts 33 = .ok (.ireturn, 1) := by decide +kernel
theorem dX11_needed_0 : decode cX11_needed 0 = .ok (.aload_n 0, 1) := by decide +kernel
theorem dX11_needed_1 : decode cX11_needed 1 = .ok (.iload_n 1, 1) := by decide +kernel
theorem dX11_needed_2 : decode cX11_needed 2 = .ok (.invokevirtual 149, 3) := by decide +kernel
theorem dX11_needed_5 : decode cX11_needed 5 = .ok (.astore_n 3, 1) := by decide +kernel
theorem dX11_needed_6 : decode cX11_needed 6 = .ok (.iload_n 2, 1) := by decide +kernel
theorem dX11_needed_7 : decode cX11_needed 7 = .ok (.ifCond .lt 11, 3) := by decide +kernel
theorem dX11_needed_10 : decode cX11_needed 10 = .ok (.aload_n 0, 1) := by decide +kernel
theorem dX11_needed_11 : decode cX11_needed 11 = .ok (.aload_n 3, 1) := by decide +kernel
theorem dX11_needed_12 : decode cX11_needed 12 = .ok (.invokevirtual 273, 3) := by decide +kernel
theorem dX11_needed_15 : decode cX11_needed 15 = .ok (.ifCond .ne 5, 3) := by decide +kernel
theorem dX11_needed_18 : decode cX11_needed 18 = .ok (.iconst (-1), 1) := by decide +kernel
theorem dX11_needed_19 : decode cX11_needed 19 = .ok (.ireturn, 1) := by decide +kernel
theorem dX11_needed_20 : decode cX11_needed 20 = .ok (.iconst 0, 1) := by decide +kernel
theorem dX11_needed_21 : decode cX11_needed 21 = .ok (.istore 4, 2) := by decide +kernel
theorem dX11_needed_23 : decode cX11_needed 23 = .ok (.iconst 0, 1) := by decide +kernel
theorem dX11_needed_24 : decode cX11_needed 24 = .ok (.istore 5, 2) := by decide +kernel
theorem dX11_needed_26 : decode cX11_needed 26 = .ok (.iload 5, 2) := by decide +kernel
theorem dX11_needed_28 : decode cX11_needed 28 = .ok (.aload_n 3, 1) := by decide +kernel
theorem dX11_needed_29 : decode cX11_needed 29 = .ok (.getfield 268, 3) := by decide +kernel
theorem dX11_needed_32 : decode cX11_needed 32 = .ok (.if_icmp .ge 42, 3) := by decide +kernel
theorem dX11_needed_35 : decode cX11_needed 35 = .ok (.aload_n 0, 1) := by decide +kernel
theorem dX11_needed_36 : decode cX11_needed 36 = .ok (.getfield 37, 3) := by decide +kernel
theorem dX11_needed_39 : decode cX11_needed 39 = .ok (.aload_n 3, 1) := by decide +kernel
theorem dX11_needed_40 : decode cX11_needed 40 = .ok (.iload 5, 2) := by decide +kernel
theorem dX11_needed_42 : decode cX11_needed 42 = .ok (.invokevirtual 269, 3) := by decide +kernel
theorem dX11_needed_45 : decode cX11_needed 45 = .ok (.aload_n 0, 1) := by decide +kernel
theorem dX11_needed_46 : decode cX11_needed 46 = .ok (.aload_n 0, 1) := by decide +kernel
theorem dX11_needed_47 : decode cX11_needed 47 = .ok (.getfield 37, 3) := by decide +kernel
theorem dX11_needed_50 : decode cX11_needed 50 = .ok (.invokevirtual 273, 3) := by decide +kernel
theorem dX11_needed_53 : decode cX11_needed 53 = .ok (.ifCond .ne 15, 3) := by decide +kernel
theorem dX11_needed_56 : decode cX11_needed 56 = .ok (.iload 4, 2) := by decide +kernel
theorem dX11_needed_58 : decode cX11_needed 58 = .ok (.iload_n 2, 1) := by decide +kernel
theorem dX11_needed_59 : decode cX11_needed 59 = .ok (.if_icmp .ne 6, 3) := by decide +kernel
theorem dX11_needed_62 : decode cX11_needed 62 = .ok (.iload 5, 2) := by decide +kernel
theorem dX11_needed_64 : decode cX11_needed 64 = .ok (.ireturn, 1) := by decide +kernel
theorem dX11_needed_65 : decode cX11_needed 65 = .ok (.iinc 4 1, 3) := by decide +kernel
theorem dX11_needed_68 : decode cX11_needed 68 = .ok (.iinc 5 1, 3) := by decide +kernel
theorem dX11_needed_71 : decode cX11_needed 71 = .ok (.goto (-45), 3) := by decide +kernel
theorem dX11_needed_74 : decode cX11_needed 74 = .ok (.iconst (-1), 1) := by decide +kernel
theorem dX11_needed_75 : decode cX11_needed 75 = .ok (.ireturn, 1) := by decide +kernel
theorem dX11_isLikely_0 : decode cX11_isLikely 0 = .ok (.aload_n 0, 1) := by decide +kernel
theorem dX11_isLikely_1 : decode cX11_isLikely 1 = .ok (.aload_n 1, 1) := by decide +kernel
theorem dX11_isLikely_2 : decode cX11_isLikely 2 = .ok (.invokevirtual 255, 3) := by decide +kernel
theorem dX11_isLikely_5 : decode cX11_isLikely 5 = .ok (.iconst 0, 1) := by decide +kernel
theorem dX11_isLikely_6 : decode cX11_isLikely 6 = .ok (.istore_n 2, 1) := by decide +kernel
theorem dX11_isLikely_7 : decode cX11_isLikely 7 = .ok (.iload_n 2, 1) := by decide +kernel
theorem dX11_isLikely_8 : decode cX11_isLikely 8 = .ok (.aload_n 0, 1) := by decide +kernel
theorem dX11_isLikely_9 : decode cX11_isLikely 9 = .ok (.getfield 43, 3) := by decide +kernel
theorem dX11_isLikely_12 : decode cX11_isLikely 12 = .ok (.getfield 181, 3) := by decide +kernel
theorem dX11_isLikely_15 : decode cX11_isLikely 15 = .ok (.getfield 191, 3) := by decide +kernel
theorem dX11_isLikely_18 : decode cX11_isLikely 18 = .ok (.if_icmp .ge 38, 3) := by decide +kernel
theorem dX11_isLikely_21 : decode cX11_isLikely 21 = .ok (.iload_n 2, 1) := by decide +kernel
theorem dX11_isLikely_22 : decode cX11_isLikely 22 = .ok (.bipush 8, 2) := by decide +kernel
theorem dX11_isLikely_24 : decode cX11_isLikely 24 = .ok (.if_icmp .ge 32, 3) := by decide +kernel
theorem dX11_isLikely_27 : decode cX11_isLikely 27 = .ok (.aload_n 0, 1) := by decide +kernel
theorem dX11_isLikely_28 : decode cX11_isLikely 28 = .ok (.getfield 43, 3) := by decide +kernel
theorem dX11_isLikely_31 : decode cX11_isLikely 31 = .ok (.getfield 181, 3) := by decide +kernel
theorem dX11_isLikely_34 : decode cX11_isLikely 34 = .ok (.getfield 209, 3) := by decide +kernel
theorem dX11_isLikely_37 : decode cX11_isLikely 37 = .ok (.iload_n 2, 1) := by decide +kernel
theorem dX11_isLikely_38 : decode cX11_isLikely 38 = .ok (.iaload, 1) := by decide +kernel
theorem dX11_isLikely_39 : decode cX11_isLikely 39 = .ok (.aload_n 0, 1) := by decide +kernel
theorem dX11_isLikely_40 : decode cX11_isLikely 40 = .ok (.getfield 63, 3) := by decide +kernel
theorem dX11_isLikely_43 : decode cX11_isLikely 43 = .ok (.iload_n 2, 1) := by decide +kernel
theorem dX11_isLikely_44 : decode cX11_isLikely 44 = .ok (.iaload, 1) := by decide +kernel
theorem dX11_isLikely_45 : decode cX11_isLikely 45 = .ok (.if_icmp .le 5, 3) := by decide +kernel
theorem dX11_isLikely_48 : decode cX11_isLikely 48 = .ok (.iconst 0, 1) := by decide +kernel
theorem dX11_isLikely_49 : decode cX11_isLikely 49 = .ok (.ireturn, 1) := by decide +kernel
theorem dX11_isLikely_50 : decode cX11_isLikely 50 = .ok (.iinc 2 1, 3) := by decide +kernel
theorem dX11_isLikely_53 : decode cX11_isLikely 53 = .ok (.goto (-46), 3) := by decide +kernel
theorem dX11_isLikely_56 : decode cX11_isLikely 56 = .ok (.iconst 1, 1) := by decide +kernel
theorem dX11_isLikely_57 : decode cX11_isLikely 57 = .ok (.ireturn, 1) := by decide +kernel
theorem dX11_bench_0 : decode cX11_bench 0 = .ok (.aload_n 0, 1) := by decide +kernel
theorem dX11_bench_1 : decode cX11_bench 1 = .ok (.iload_n 1, 1) := by decide +kernel
theorem dX11_bench_2 : decode cX11_bench 2 = .ok (.invokevirtual 149, 3) := by decide +kernel
theorem dX11_bench_5 : decode cX11_bench 5 = .ok (.astore 5, 2) := by decide +kernel
theorem dX11_bench_7 : decode cX11_bench 7 = .ok (.iload_n 2, 1) := by decide +kernel
theorem dX11_bench_8 : decode cX11_bench 8 = .ok (.bipush 10, 2) := by decide +kernel
theorem dX11_bench_10 : decode cX11_bench 10 = .ok (.invokestatic 121, 3) := by decide +kernel
theorem dX11_bench_13 : decode cX11_bench 13 = .ok (.iload_n 3, 1) := by decide +kernel
theorem dX11_bench_14 : decode cX11_bench 14 = .ok (.bipush 10, 2) := by decide +kernel
theorem dX11_bench_16 : decode cX11_bench 16 = .ok (.invokestatic 121, 3) := by decide +kernel
theorem dX11_bench_19 : decode cX11_bench 19 = .ok (.iload 4, 2) := by decide +kernel
theorem dX11_bench_21 : decode cX11_bench 21 = .ok (.bipush 100, 2) := by decide +kernel
theorem dX11_bench_23 : decode cX11_bench 23 = .ok (.invokestatic 121, 3) := by decide +kernel
theorem dX11_bench_26 : decode cX11_bench 26 = .ok (.iload_n 2, 1) := by decide +kernel
theorem dX11_bench_27 : decode cX11_bench 27 = .ok (.iload_n 3, 1) := by decide +kernel
theorem dX11_bench_28 : decode cX11_bench 28 = .ok (.if_icmp .ne 14, 3) := by decide +kernel
theorem dX11_bench_31 : decode cX11_bench 31 = .ok (.new 111, 3) := by decide +kernel
theorem dX11_bench_34 : decode cX11_bench 34 = .ok (.dup, 1) := by decide +kernel
theorem dX11_bench_35 : decode cX11_bench 35 = .ok (.ldc_w 277, 3) := by decide +kernel
theorem dX11_bench_38 : decode cX11_bench 38 = .ok (.invokespecial 115, 3) := by decide +kernel
theorem dX11_bench_41 : decode cX11_bench 41 = .ok (.athrow, 1) := by decide +kernel
theorem dX11_bench_42 : decode cX11_bench 42 = .ok (.aload_n 0, 1) := by decide +kernel
theorem dX11_bench_43 : decode cX11_bench 43 = .ok (.getfield 37, 3) := by decide +kernel
theorem dX11_bench_46 : decode cX11_bench 46 = .ok (.aload 5, 2) := by decide +kernel
theorem dX11_bench_48 : decode cX11_bench 48 = .ok (.iload_n 2, 1) := by decide +kernel
theorem dX11_bench_49 : decode cX11_bench 49 = .ok (.iload_n 3, 1) := by decide +kernel
theorem dX11_bench_50 : decode cX11_bench 50 = .ok (.iload 4, 2) := by decide +kernel
theorem dX11_bench_52 : decode cX11_bench 52 = .ok (.invokevirtual 279, 3) := by decide +kernel
theorem dX11_bench_55 : decode cX11_bench 55 = .ok (.aload_n 0, 1) := by decide +kernel
theorem dX11_bench_56 : decode cX11_bench 56 = .ok (.aload_n 0, 1) := by decide +kernel
theorem dX11_bench_57 : decode cX11_bench 57 = .ok (.getfield 37, 3) := by decide +kernel
theorem dX11_bench_60 : decode cX11_bench 60 = .ok (.aload 5, 2) := by decide +kernel
theorem dX11_bench_62 : decode cX11_bench 62 = .ok (.iconst (-1), 1) := by decide +kernel
theorem dX11_bench_63 : decode cX11_bench 63 = .ok (.invokevirtual 247, 3) := by decide +kernel
theorem dX11_bench_66 : decode cX11_bench 66 = .ok (.ireturn, 1) := by decide +kernel
theorem dX11_signs_0 : decode cX11_signs 0 = .ok (.aload_n 0, 1) := by decide +kernel
theorem dX11_signs_1 : decode cX11_signs 1 = .ok (.iload_n 1, 1) := by decide +kernel
theorem dX11_signs_2 : decode cX11_signs 2 = .ok (.invokevirtual 149, 3) := by decide +kernel
theorem dX11_signs_5 : decode cX11_signs 5 = .ok (.astore_n 3, 1) := by decide +kernel
theorem dX11_signs_6 : decode cX11_signs 6 = .ok (.iload_n 2, 1) := by decide +kernel
theorem dX11_signs_7 : decode cX11_signs 7 = .ok (.aload_n 3, 1) := by decide +kernel
theorem dX11_signs_8 : decode cX11_signs 8 = .ok (.getfield 268, 3) := by decide +kernel
theorem dX11_signs_11 : decode cX11_signs 11 = .ok (.bipush 21, 2) := by decide +kernel
theorem dX11_signs_13 : decode cX11_signs 13 = .ok (.invokestatic 192, 3) := by decide +kernel
theorem dX11_signs_16 : decode cX11_signs 16 = .ok (.invokestatic 197, 3) := by decide +kernel
theorem dX11_signs_19 : decode cX11_signs 19 = .ok (.aload_n 3, 1) := by decide +kernel
theorem dX11_signs_20 : decode cX11_signs 20 = .ok (.getfield 282, 3) := by decide +kernel
theorem dX11_signs_23 : decode cX11_signs 23 = .ok (.iload_n 2, 1) := by decide +kernel
theorem dX11_signs_24 : decode cX11_signs 24 = .ok (.iaload, 1) := by decide +kernel
theorem dX11_signs_25 : decode cX11_signs 25 = .ok (.iconst 2, 1) := by decide +kernel
theorem dX11_signs_26 : decode cX11_signs 26 = .ok (.if_icmp .eq 5, 3) := by decide +kernel
theorem dX11_signs_29 : decode cX11_signs 29 = .ok (.iconst 0, 1) := by decide +kernel
theorem dX11_signs_30 : decode cX11_signs 30 = .ok (.ireturn, 1) := by decide +kernel
theorem dX11_signs_31 : decode cX11_signs 31 = .ok (.aload_n 3, 1) := by decide +kernel
theorem dX11_signs_32 : decode cX11_signs 32 = .ok (.getfield 285, 3) := by decide +kernel
theorem dX11_signs_35 : decode cX11_signs 35 = .ok (.iload_n 2, 1) := by decide +kernel
theorem dX11_signs_36 : decode cX11_signs 36 = .ok (.iaload, 1) := by decide +kernel
theorem dX11_signs_37 : decode cX11_signs 37 = .ok (.istore 4, 2) := by decide +kernel
theorem dX11_signs_39 : decode cX11_signs 39 = .ok (.aload_n 3, 1) := by decide +kernel
theorem dX11_signs_40 : decode cX11_signs 40 = .ok (.getfield 288, 3) := by decide +kernel
theorem dX11_signs_43 : decode cX11_signs 43 = .ok (.iload_n 2, 1) := by decide +kernel
theorem dX11_signs_44 : decode cX11_signs 44 = .ok (.iaload, 1) := by decide +kernel
theorem dX11_signs_45 : decode cX11_signs 45 = .ok (.istore 5, 2) := by decide +kernel
theorem dX11_signs_47 : decode cX11_signs 47 = .ok (.aload_n 3, 1) := by decide +kernel
theorem dX11_signs_48 : decode cX11_signs 48 = .ok (.getfield 291, 3) := by decide +kernel
theorem dX11_signs_51 : decode cX11_signs 51 = .ok (.iload_n 2, 1) := by decide +kernel
theorem dX11_signs_52 : decode cX11_signs 52 = .ok (.iaload, 1) := by decide +kernel
theorem dX11_signs_53 : decode cX11_signs 53 = .ok (.istore 6, 2) := by decide +kernel
theorem dX11_signs_55 : decode cX11_signs 55 = .ok (.iconst 0, 1) := by decide +kernel
theorem dX11_signs_56 : decode cX11_signs 56 = .ok (.istore 7, 2) := by decide +kernel
theorem dX11_signs_58 : decode cX11_signs 58 = .ok (.aload_n 0, 1) := by decide +kernel
theorem dX11_signs_59 : decode cX11_signs 59 = .ok (.iload 5, 2) := by decide +kernel
theorem dX11_signs_61 : decode cX11_signs 61 = .ok (.aload_n 3, 1) := by decide +kernel
theorem dX11_signs_62 : decode cX11_signs 62 = .ok (.iload 4, 2) := by decide +kernel
theorem dX11_signs_64 : decode cX11_signs 64 = .ok (.iload_n 2, 1) := by decide +kernel
theorem dX11_signs_65 : decode cX11_signs 65 = .ok (.invokevirtual 169, 3) := by decide +kernel
theorem dX11_signs_68 : decode cX11_signs 68 = .ok (.iload 6, 2) := by decide +kernel
theorem dX11_signs_70 : decode cX11_signs 70 = .ok (.invokevirtual 292, 3) := by decide +kernel
theorem dX11_signs_73 : decode cX11_signs 73 = .ok (.ifCond .eq 6, 3) := by decide +kernel
theorem dX11_signs_76 : decode cX11_signs 76 = .ok (.iinc 7 1, 3) := by decide +kernel
theorem dX11_signs_79 : decode cX11_signs 79 = .ok (.aload_n 0, 1) := by decide +kernel
theorem dX11_signs_80 : decode cX11_signs 80 = .ok (.iload 4, 2) := by decide +kernel
theorem dX11_signs_82 : decode cX11_signs 82 = .ok (.aload_n 3, 1) := by decide +kernel
theorem dX11_signs_83 : decode cX11_signs 83 = .ok (.iload 5, 2) := by decide +kernel
theorem dX11_signs_85 : decode cX11_signs 85 = .ok (.iload_n 2, 1) := by decide +kernel
theorem dX11_signs_86 : decode cX11_signs 86 = .ok (.invokevirtual 169, 3) := by decide +kernel
theorem dX11_signs_89 : decode cX11_signs 89 = .ok (.iload 6, 2) := by decide +kernel
theorem dX11_signs_91 : decode cX11_signs 91 = .ok (.invokevirtual 292, 3) := by decide +kernel
theorem dX11_signs_94 : decode cX11_signs 94 = .ok (.ifCond .eq 6, 3) := by decide +kernel
theorem dX11_signs_97 : decode cX11_signs 97 = .ok (.iinc 7 2, 3) := by decide +kernel
theorem dX11_signs_100 : decode cX11_signs 100 = .ok (.iload 7, 2) := by decide +kernel
theorem dX11_signs_102 : decode cX11_signs 102 = .ok (.ireturn, 1) := by decide +kernel
theorem dX11_showsOn_0 : decode cX11_showsOn 0 = .ok (.aload_n 0, 1) := by decide +kernel
theorem dX11_showsOn_1 : decode cX11_showsOn 1 = .ok (.getfield 43, 3) := by decide +kernel
theorem dX11_showsOn_4 : decode cX11_showsOn 4 = .ok (.getfield 181, 3) := by decide +kernel
theorem dX11_showsOn_7 : decode cX11_showsOn 7 = .ok (.astore 4, 2) := by decide +kernel
theorem dX11_showsOn_9 : decode cX11_showsOn 9 = .ok (.iconst 0, 1) := by decide +kernel
theorem dX11_showsOn_10 : decode cX11_showsOn 10 = .ok (.istore 5, 2) := by decide +kernel
theorem dX11_showsOn_12 : decode cX11_showsOn 12 = .ok (.iload 5, 2) := by decide +kernel
theorem dX11_showsOn_14 : decode cX11_showsOn 14 = .ok (.aload 4, 2) := by decide +kernel
theorem dX11_showsOn_16 : decode cX11_showsOn 16 = .ok (.getfield 191, 3) := by decide +kernel
theorem dX11_showsOn_19 : decode cX11_showsOn 19 = .ok (.if_icmp .ge 84, 3) := by decide +kernel
theorem dX11_showsOn_22 : decode cX11_showsOn 22 = .ok (.iload 5, 2) := by decide +kernel
theorem dX11_showsOn_24 : decode cX11_showsOn 24 = .ok (.bipush 8, 2) := by decide +kernel
theorem dX11_showsOn_26 : decode cX11_showsOn 26 = .ok (.if_icmp .ge 77, 3) := by decide +kernel
theorem dX11_showsOn_29 : decode cX11_showsOn 29 = .ok (.aload 4, 2) := by decide +kernel
theorem dX11_showsOn_31 : decode cX11_showsOn 31 = .ok (.getfield 200, 3) := by decide +kernel
theorem dX11_showsOn_34 : decode cX11_showsOn 34 = .ok (.iload 5, 2) := by decide +kernel
theorem dX11_showsOn_36 : decode cX11_showsOn 36 = .ok (.iaload, 1) := by decide +kernel
theorem dX11_showsOn_37 : decode cX11_showsOn 37 = .ok (.iload_n 1, 1) := by decide +kernel
theorem dX11_showsOn_38 : decode cX11_showsOn 38 = .ok (.if_icmp .ne 30, 3) := by decide +kernel
theorem dX11_showsOn_41 : decode cX11_showsOn 41 = .ok (.aload 4, 2) := by decide +kernel
theorem dX11_showsOn_43 : decode cX11_showsOn 43 = .ok (.getfield 203, 3) := by decide +kernel
theorem dX11_showsOn_46 : decode cX11_showsOn 46 = .ok (.iload 5, 2) := by decide +kernel
theorem dX11_showsOn_48 : decode cX11_showsOn 48 = .ok (.iaload, 1) := by decide +kernel
theorem dX11_showsOn_49 : decode cX11_showsOn 49 = .ok (.iload_n 3, 1) := by decide +kernel
theorem dX11_showsOn_50 : decode cX11_showsOn 50 = .ok (.if_icmp .lt 18, 3) := by decide +kernel
theorem dX11_showsOn_53 : decode cX11_showsOn 53 = .ok (.aload 4, 2) := by decide +kernel
theorem dX11_showsOn_55 : decode cX11_showsOn 55 = .ok (.getfield 209, 3) := by decide +kernel
theorem dX11_showsOn_58 : decode cX11_showsOn 58 = .ok (.iload 5, 2) := by decide +kernel
theorem dX11_showsOn_60 : decode cX11_showsOn 60 = .ok (.iaload, 1) := by decide +kernel
theorem dX11_showsOn_61 : decode cX11_showsOn 61 = .ok (.ifCond .le 7, 3) := by decide +kernel
theorem dX11_showsOn_64 : decode cX11_showsOn 64 = .ok (.iconst 1, 1) := by decide +kernel
theorem dX11_showsOn_65 : decode cX11_showsOn 65 = .ok (.goto 4, 3) := by decide +kernel
theorem dX11_showsOn_68 : decode cX11_showsOn 68 = .ok (.iconst 0, 1) := by decide +kernel
theorem dX11_showsOn_69 : decode cX11_showsOn 69 = .ok (.istore 6, 2) := by decide +kernel
theorem dX11_showsOn_71 : decode cX11_showsOn 71 = .ok (.iload 6, 2) := by decide +kernel
theorem dX11_showsOn_73 : decode cX11_showsOn 73 = .ok (.ifCond .eq 24, 3) := by decide +kernel
theorem dX11_showsOn_76 : decode cX11_showsOn 76 = .ok (.aload_n 0, 1) := by decide +kernel
theorem dX11_showsOn_77 : decode cX11_showsOn 77 = .ok (.getfield 19, 3) := by decide +kernel
theorem dX11_showsOn_80 : decode cX11_showsOn 80 = .ok (.iload_n 2, 1) := by decide +kernel
theorem dX11_showsOn_81 : decode cX11_showsOn 81 = .ok (.aload 4, 2) := by decide +kernel
theorem dX11_showsOn_83 : decode cX11_showsOn 83 = .ok (.getfield 206, 3) := by decide +kernel
theorem dX11_showsOn_86 : decode cX11_showsOn 86 = .ok (.iload 5, 2) := by decide +kernel
theorem dX11_showsOn_88 : decode cX11_showsOn 88 = .ok (.iaload, 1) := by decide +kernel
theorem dX11_showsOn_89 : decode cX11_showsOn 89 = .ok (.invokevirtual 124, 3) := by decide +kernel
theorem dX11_showsOn_92 : decode cX11_showsOn 92 = .ok (.ifCond .le 5, 3) := by decide +kernel
theorem dX11_showsOn_95 : decode cX11_showsOn 95 = .ok (.iconst 1, 1) := by decide +kernel
theorem dX11_showsOn_96 : decode cX11_showsOn 96 = .ok (.ireturn, 1) := by decide +kernel
theorem dX11_showsOn_97 : decode cX11_showsOn 97 = .ok (.iinc 5 1, 3) := by decide +kernel
theorem dX11_showsOn_100 : decode cX11_showsOn 100 = .ok (.goto (-88), 3) := by decide +kernel
theorem dX11_showsOn_103 : decode cX11_showsOn 103 = .ok (.iconst 0, 1) := by decide +kernel
theorem dX11_showsOn_104 : decode cX11_showsOn 104 = .ok (.ireturn, 1) := by decide +kernel
theorem dX11_next_0 : decode cX11_next 0 = .ok (.aload_n 0, 1) := by decide +kernel
theorem dX11_next_1 : decode cX11_next 1 = .ok (.iload_n 1, 1) := by decide +kernel
theorem dX11_next_2 : decode cX11_next 2 = .ok (.invokevirtual 149, 3) := by decide +kernel
theorem dX11_next_5 : decode cX11_next 5 = .ok (.astore 4, 2) := by decide +kernel
theorem dX11_next_7 : decode cX11_next 7 = .ok (.aload_n 0, 1) := by decide +kernel
theorem dX11_next_8 : decode cX11_next 8 = .ok (.iload_n 2, 1) := by decide +kernel
theorem dX11_next_9 : decode cX11_next 9 = .ok (.invokevirtual 149, 3) := by decide +kernel
theorem dX11_next_12 : decode cX11_next 12 = .ok (.astore 5, 2) := by decide +kernel
theorem dX11_next_14 : decode cX11_next 14 = .ok (.iload_n 3, 1) := by decide +kernel
theorem dX11_next_15 : decode cX11_next 15 = .ok (.bipush 100, 2) := by decide +kernel
theorem dX11_next_17 : decode cX11_next 17 = .ok (.invokestatic 121, 3) := by decide +kernel
theorem dX11_next_20 : decode cX11_next 20 = .ok (.aload_n 0, 1) := by decide +kernel
theorem dX11_next_21 : decode cX11_next 21 = .ok (.getfield 56, 3) := by decide +kernel
theorem dX11_next_24 : decode cX11_next 24 = .ok (.aload_n 0, 1) := by decide +kernel
theorem dX11_next_25 : decode cX11_next 25 = .ok (.getfield 19, 3) := by decide +kernel
theorem dX11_next_28 : decode cX11_next 28 = .ok (.aload 4, 2) := by decide +kernel
theorem dX11_next_30 : decode cX11_next 30 = .ok (.invokevirtual 157, 3) := by decide +kernel
theorem dX11_next_33 : decode cX11_next 33 = .ok (.aload_n 0, 1) := by decide +kernel
theorem dX11_next_34 : decode cX11_next 34 = .ok (.getfield 56, 3) := by decide +kernel
theorem dX11_next_37 : decode cX11_next 37 = .ok (.iload_n 3, 1) := by decide +kernel
theorem dX11_next_38 : decode cX11_next 38 = .ok (.invokevirtual 160, 3) := by decide +kernel
theorem dX11_next_41 : decode cX11_next 41 = .ok (.aload_n 0, 1) := by decide +kernel
theorem dX11_next_42 : decode cX11_next 42 = .ok (.getfield 60, 3) := by decide +kernel
theorem dX11_next_45 : decode cX11_next 45 = .ok (.aload_n 0, 1) := by decide +kernel
theorem dX11_next_46 : decode cX11_next 46 = .ok (.getfield 19, 3) := by decide +kernel
theorem dX11_next_49 : decode cX11_next 49 = .ok (.aload 5, 2) := by decide +kernel
theorem dX11_next_51 : decode cX11_next 51 = .ok (.invokevirtual 157, 3) := by decide +kernel
theorem dX11_next_54 : decode cX11_next 54 = .ok (.aload_n 0, 1) := by decide +kernel
theorem dX11_next_55 : decode cX11_next 55 = .ok (.getfield 60, 3) := by decide +kernel
theorem dX11_next_58 : decode cX11_next 58 = .ok (.iload_n 3, 1) := by decide +kernel
theorem dX11_next_59 : decode cX11_next 59 = .ok (.invokevirtual 160, 3) := by decide +kernel
theorem dX11_next_62 : decode cX11_next 62 = .ok (.iconst 0, 1) := by decide +kernel
theorem dX11_next_63 : decode cX11_next 63 = .ok (.istore 6, 2) := by decide +kernel
theorem dX11_next_65 : decode cX11_next 65 = .ok (.iconst (-1), 1) := by decide +kernel
theorem dX11_next_66 : decode cX11_next 66 = .ok (.istore 7, 2) := by decide +kernel
theorem dX11_next_68 : decode cX11_next 68 = .ok (.iconst 0, 1) := by decide +kernel
theorem dX11_next_69 : decode cX11_next 69 = .ok (.istore 8, 2) := by decide +kernel
theorem dX11_next_71 : decode cX11_next 71 = .ok (.iload 8, 2) := by decide +kernel
theorem dX11_next_73 : decode cX11_next 73 = .ok (.bipush 10, 2) := by decide +kernel
theorem dX11_next_75 : decode cX11_next 75 = .ok (.if_icmp .ge 105, 3) := by decide +kernel
theorem dX11_next_78 : decode cX11_next 78 = .ok (.iconst 0, 1) := by decide +kernel
theorem dX11_next_79 : decode cX11_next 79 = .ok (.istore 9, 2) := by decide +kernel
theorem dX11_next_81 : decode cX11_next 81 = .ok (.iload 9, 2) := by decide +kernel
theorem dX11_next_83 : decode cX11_next 83 = .ok (.bipush 10, 2) := by decide +kernel
theorem dX11_next_85 : decode cX11_next 85 = .ok (.if_icmp .ge 89, 3) := by decide +kernel
theorem dX11_next_88 : decode cX11_next 88 = .ok (.aload_n 0, 1) := by decide +kernel
theorem dX11_next_89 : decode cX11_next 89 = .ok (.getfield 56, 3) := by decide +kernel
theorem dX11_next_92 : decode cX11_next 92 = .ok (.iload 8, 2) := by decide +kernel
theorem dX11_next_94 : decode cX11_next 94 = .ok (.iload 9, 2) := by decide +kernel
theorem dX11_next_96 : decode cX11_next 96 = .ok (.invokevirtual 163, 3) := by decide +kernel
theorem dX11_next_99 : decode cX11_next 99 = .ok (.aload_n 0, 1) := by decide +kernel
theorem dX11_next_100 : decode cX11_next 100 = .ok (.getfield 60, 3) := by decide +kernel
theorem dX11_next_103 : decode cX11_next 103 = .ok (.iload 8, 2) := by decide +kernel
theorem dX11_next_105 : decode cX11_next 105 = .ok (.iload 9, 2) := by decide +kernel
theorem dX11_next_107 : decode cX11_next 107 = .ok (.invokevirtual 163, 3) := by decide +kernel
theorem dX11_next_110 : decode cX11_next 110 = .ok (.isub, 1) := by decide +kernel
theorem dX11_next_111 : decode cX11_next 111 = .ok (.invokestatic 296, 3) := by decide +kernel
theorem dX11_next_114 : decode cX11_next 114 = .ok (.istore 10, 2) := by decide +kernel
theorem dX11_next_116 : decode cX11_next 116 = .ok (.iload 10, 2) := by decide +kernel
theorem dX11_next_118 : decode cX11_next 118 = .ok (.iload 6, 2) := by decide +kernel
theorem dX11_next_120 : decode cX11_next 120 = .ok (.if_icmp .le 48, 3) := by decide +kernel
theorem dX11_next_123 : decode cX11_next 123 = .ok (.aload_n 0, 1) := by decide +kernel
theorem dX11_next_124 : decode cX11_next 124 = .ok (.getfield 43, 3) := by decide +kernel
theorem dX11_next_127 : decode cX11_next 127 = .ok (.getfield 181, 3) := by decide +kernel
theorem dX11_next_130 : decode cX11_next 130 = .ok (.iload 8, 2) := by decide +kernel
theorem dX11_next_132 : decode cX11_next 132 = .ok (.iload_n 3, 1) := by decide +kernel
theorem dX11_next_133 : decode cX11_next 133 = .ok (.aload_n 0, 1) := by decide +kernel
theorem dX11_next_134 : decode cX11_next 134 = .ok (.getfield 19, 3) := by decide +kernel
theorem dX11_next_137 : decode cX11_next 137 = .ok (.iload 9, 2) := by decide +kernel
theorem dX11_next_139 : decode cX11_next 139 = .ok (.invokevirtual 146, 3) := by decide +kernel
theorem dX11_next_142 : decode cX11_next 142 = .ok (.invokevirtual 299, 3) := by decide +kernel
theorem dX11_next_145 : decode cX11_next 145 = .ok (.ifCond .ne 23, 3) := by decide +kernel
theorem dX11_next_148 : decode cX11_next 148 = .ok (.iload 10, 2) := by decide +kernel
theorem dX11_next_150 : decode cX11_next 150 = .ok (.istore 6, 2) := by decide +kernel
theorem dX11_next_152 : decode cX11_next 152 = .ok (.bipush 100, 2) := by decide +kernel
theorem dX11_next_154 : decode cX11_next 154 = .ok (.iload 10, 2) := by decide +kernel
theorem dX11_next_156 : decode cX11_next 156 = .ok (.imul, 1) := by decide +kernel
theorem dX11_next_157 : decode cX11_next 157 = .ok (.bipush 10, 2) := by decide +kernel
theorem dX11_next_159 : decode cX11_next 159 = .ok (.iload 8, 2) := by decide +kernel
theorem dX11_next_161 : decode cX11_next 161 = .ok (.imul, 1) := by decide +kernel
theorem dX11_next_162 : decode cX11_next 162 = .ok (.iadd, 1) := by decide +kernel
theorem dX11_next_163 : decode cX11_next 163 = .ok (.iload 9, 2) := by decide +kernel
theorem dX11_next_165 : decode cX11_next 165 = .ok (.iadd, 1) := by decide +kernel
theorem dX11_next_166 : decode cX11_next 166 = .ok (.istore 7, 2) := by decide +kernel
theorem dX11_next_168 : decode cX11_next 168 = .ok (.iinc 9 1, 3) := by decide +kernel
theorem dX11_next_171 : decode cX11_next 171 = .ok (.goto (-90), 3) := by decide +kernel
theorem dX11_next_174 : decode cX11_next 174 = .ok (.iinc 8 1, 3) := by decide +kernel
theorem dX11_next_177 : decode cX11_next 177 = .ok (.goto (-106), 3) := by decide +kernel
theorem dX11_next_180 : decode cX11_next 180 = .ok (.iload 7, 2) := by decide +kernel
theorem dX11_next_182 : decode cX11_next 182 = .ok (.ireturn, 1) := by decide +kernel
theorem dX11_after_0 : decode cX11_after 0 = .ok (.iload_n 1, 1) := by decide +kernel
theorem dX11_after_1 : decode cX11_after 1 = .ok (.bipush 10, 2) := by decide +kernel
theorem dX11_after_3 : decode cX11_after 3 = .ok (.invokestatic 121, 3) := by decide +kernel
theorem dX11_after_6 : decode cX11_after 6 = .ok (.iload_n 2, 1) := by decide +kernel
theorem dX11_after_7 : decode cX11_after 7 = .ok (.sipush 10000, 3) := by decide +kernel
theorem dX11_after_10 : decode cX11_after 10 = .ok (.invokestatic 121, 3) := by decide +kernel
theorem dX11_after_13 : decode cX11_after 13 = .ok (.iload_n 3, 1) := by decide +kernel
theorem dX11_after_14 : decode cX11_after 14 = .ok (.bipush 61, 2) := by decide +kernel
theorem dX11_after_16 : decode cX11_after 16 = .ok (.invokestatic 121, 3) := by decide +kernel
theorem dX11_after_19 : decode cX11_after 19 = .ok (.aload_n 0, 1) := by decide +kernel
theorem dX11_after_20 : decode cX11_after 20 = .ok (.getfield 19, 3) := by decide +kernel
theorem dX11_after_23 : decode cX11_after 23 = .ok (.iload_n 1, 1) := by decide +kernel
theorem dX11_after_24 : decode cX11_after 24 = .ok (.invokevirtual 128, 3) := by decide +kernel
theorem dX11_after_27 : decode cX11_after 27 = .ok (.istore 5, 2) := by decide +kernel
theorem dX11_after_29 : decode cX11_after 29 = .ok (.iload 5, 2) := by decide +kernel
theorem dX11_after_31 : decode cX11_after 31 = .ok (.ifCond .ne 14, 3) := by decide +kernel
theorem dX11_after_34 : decode cX11_after 34 = .ok (.new 111, 3) := by decide +kernel
theorem dX11_after_37 : decode cX11_after 37 = .ok (.dup, 1) := by decide +kernel
theorem dX11_after_38 : decode cX11_after 38 = .ok (.ldc_w 302, 3) := by decide +kernel
theorem dX11_after_41 : decode cX11_after 41 = .ok (.invokespecial 115, 3) := by decide +kernel
theorem dX11_after_44 : decode cX11_after 44 = .ok (.athrow, 1) := by decide +kernel
theorem dX11_after_45 : decode cX11_after 45 = .ok (.iload 4, 2) := by decide +kernel
theorem dX11_after_47 : decode cX11_after 47 = .ok (.ifCond .eq 17, 3) := by decide +kernel
theorem dX11_after_50 : decode cX11_after 50 = .ok (.iload_n 2, 1) := by decide +kernel
theorem dX11_after_51 : decode cX11_after 51 = .ok (.iconst 1, 1) := by decide +kernel
theorem dX11_after_52 : decode cX11_after 52 = .ok (.iadd, 1) := by decide +kernel
theorem dX11_after_53 : decode cX11_after 53 = .ok (.iload 5, 2) := by decide +kernel
theorem dX11_after_55 : decode cX11_after 55 = .ok (.iload_n 3, 1) := by decide +kernel
theorem dX11_after_56 : decode cX11_after 56 = .ok (.invokestatic 304, 3) := by decide +kernel
theorem dX11_after_59 : decode cX11_after 59 = .ok (.iconst 1, 1) := by decide +kernel
theorem dX11_after_60 : decode cX11_after 60 = .ok (.isub, 1) := by decide +kernel
theorem dX11_after_61 : decode cX11_after 61 = .ok (.goto 10, 3) := by decide +kernel
theorem dX11_after_64 : decode cX11_after 64 = .ok (.iload_n 2, 1) := by decide +kernel
theorem dX11_after_65 : decode cX11_after 65 = .ok (.iload 5, 2) := by decide +kernel
theorem dX11_after_67 : decode cX11_after 67 = .ok (.iload_n 3, 1) := by decide +kernel
theorem dX11_after_68 : decode cX11_after 68 = .ok (.invokestatic 304, 3) := by decide +kernel
theorem dX11_after_71 : decode cX11_after 71 = .ok (.istore 6, 2) := by decide +kernel
theorem dX11_after_73 : decode cX11_after 73 = .ok (.iload 6, 2) := by decide +kernel
theorem dX11_after_75 : decode cX11_after 75 = .ok (.ldc_w 308, 3) := by decide +kernel
theorem dX11_after_78 : decode cX11_after 78 = .ok (.if_icmp .gt 15, 3) := by decide +kernel
theorem dX11_after_81 : decode cX11_after 81 = .ok (.iload 6, 2) := by decide +kernel
theorem dX11_after_83 : decode cX11_after 83 = .ok (.iload 5, 2) := by decide +kernel
theorem dX11_after_85 : decode cX11_after 85 = .ok (.iload_n 3, 1) := by decide +kernel
theorem dX11_after_86 : decode cX11_after 86 = .ok (.invokestatic 309, 3) := by decide +kernel
theorem dX11_after_89 : decode cX11_after 89 = .ok (.iload_n 2, 1) := by decide +kernel
theorem dX11_after_90 : decode cX11_after 90 = .ok (.if_icmp .eq 5, 3) := by decide +kernel
theorem dX11_after_93 : decode cX11_after 93 = .ok (.iconst (-1), 1) := by decide +kernel
theorem dX11_after_94 : decode cX11_after 94 = .ok (.ireturn, 1) := by decide +kernel
theorem dX11_after_95 : decode cX11_after 95 = .ok (.iload 6, 2) := by decide +kernel
theorem dX11_after_97 : decode cX11_after 97 = .ok (.ireturn, 1) := by decide +kernel
theorem dX11_leastLeaving_0 : decode cX11_leastLeaving 0 = .ok (.iconst 0, 1) := by decide +kernel
theorem dX11_leastLeaving_1 : decode cX11_leastLeaving 1 = .ok (.istore_n 3, 1) := by decide +kernel
theorem dX11_leastLeaving_2 : decode cX11_leastLeaving 2 = .ok (.ldc_w 312, 3) := by decide +kernel
theorem dX11_leastLeaving_5 : decode cX11_leastLeaving 5 = .ok (.istore 4, 2) := by decide +kernel
theorem dX11_leastLeaving_7 : decode cX11_leastLeaving 7 = .ok (.iconst 0, 1) := by decide +kernel
theorem dX11_leastLeaving_8 : decode cX11_leastLeaving 8 = .ok (.istore 5, 2) := by decide +kernel
theorem dX11_leastLeaving_10 : decode cX11_leastLeaving 10 = .ok (.iload 5, 2) := by decide +kernel
theorem dX11_leastLeaving_12 : decode cX11_leastLeaving 12 = .ok (.bipush 32, 2) := by decide +kernel
theorem dX11_leastLeaving_14 : decode cX11_leastLeaving 14 = .ok (.if_icmp .ge 46, 3) := by decide +kernel
theorem dX11_leastLeaving_17 : decode cX11_leastLeaving 17 = .ok (.iload_n 3, 1) := by decide +kernel
theorem dX11_leastLeaving_18 : decode cX11_leastLeaving 18 = .ok (.iload 4, 2) := by decide +kernel
theorem dX11_leastLeaving_20 : decode cX11_leastLeaving 20 = .ok (.if_icmp .ge 40, 3) := by decide +kernel
theorem dX11_leastLeaving_23 : decode cX11_leastLeaving 23 = .ok (.iload_n 3, 1) := by decide +kernel
theorem dX11_leastLeaving_24 : decode cX11_leastLeaving 24 = .ok (.iload 4, 2) := by decide +kernel
theorem dX11_leastLeaving_26 : decode cX11_leastLeaving 26 = .ok (.iadd, 1) := by decide +kernel
theorem dX11_leastLeaving_27 : decode cX11_leastLeaving 27 = .ok (.iconst 2, 1) := by decide +kernel
theorem dX11_leastLeaving_28 : decode cX11_leastLeaving 28 = .ok (.idiv, 1) := by decide +kernel
theorem dX11_leastLeaving_29 : decode cX11_leastLeaving 29 = .ok (.istore 6, 2) := by decide +kernel
theorem dX11_leastLeaving_31 : decode cX11_leastLeaving 31 = .ok (.iload 6, 2) := by decide +kernel
theorem dX11_leastLeaving_33 : decode cX11_leastLeaving 33 = .ok (.iload_n 1, 1) := by decide +kernel
theorem dX11_leastLeaving_34 : decode cX11_leastLeaving 34 = .ok (.iload_n 2, 1) := by decide +kernel
theorem dX11_leastLeaving_35 : decode cX11_leastLeaving 35 = .ok (.invokestatic 309, 3) := by decide +kernel
theorem dX11_leastLeaving_38 : decode cX11_leastLeaving 38 = .ok (.iload_n 0, 1) := by decide +kernel
theorem dX11_leastLeaving_39 : decode cX11_leastLeaving 39 = .ok (.if_icmp .lt 10, 3) := by decide +kernel
theorem dX11_leastLeaving_42 : decode cX11_leastLeaving 42 = .ok (.iload 6, 2) := by decide +kernel
theorem dX11_leastLeaving_44 : decode cX11_leastLeaving 44 = .ok (.istore 4, 2) := by decide +kernel
theorem dX11_leastLeaving_46 : decode cX11_leastLeaving 46 = .ok (.goto 8, 3) := by decide +kernel
theorem dX11_leastLeaving_49 : decode cX11_leastLeaving 49 = .ok (.iload 6, 2) := by decide +kernel
theorem dX11_leastLeaving_51 : decode cX11_leastLeaving 51 = .ok (.iconst 1, 1) := by decide +kernel
theorem dX11_leastLeaving_52 : decode cX11_leastLeaving 52 = .ok (.iadd, 1) := by decide +kernel
theorem dX11_leastLeaving_53 : decode cX11_leastLeaving 53 = .ok (.istore_n 3, 1) := by decide +kernel
theorem dX11_leastLeaving_54 : decode cX11_leastLeaving 54 = .ok (.iinc 5 1, 3) := by decide +kernel
theorem dX11_leastLeaving_57 : decode cX11_leastLeaving 57 = .ok (.goto (-47), 3) := by decide +kernel
theorem dX11_leastLeaving_60 : decode cX11_leastLeaving 60 = .ok (.iload_n 3, 1) := by decide +kernel
theorem dX11_leastLeaving_61 : decode cX11_leastLeaving 61 = .ok (.ireturn, 1) := by decide +kernel
theorem dX11_leftOf_0 : decode cX11_leftOf 0 = .ok (.iload_n 0, 1) := by decide +kernel
theorem dX11_leftOf_1 : decode cX11_leftOf 1 = .ok (.istore_n 3, 1) := by decide +kernel
theorem dX11_leftOf_2 : decode cX11_leftOf 2 = .ok (.iconst 0, 1) := by decide +kernel
theorem dX11_leftOf_3 : decode cX11_leftOf 3 = .ok (.istore 4, 2) := by decide +kernel
theorem dX11_leftOf_5 : decode cX11_leftOf 5 = .ok (.iload 4, 2) := by decide +kernel
theorem dX11_leftOf_7 : decode cX11_leftOf 7 = .ok (.iload_n 2, 1) := by decide +kernel
theorem dX11_leftOf_8 : decode cX11_leftOf 8 = .ok (.if_icmp .ge 16, 3) := by decide +kernel
theorem dX11_leftOf_11 : decode cX11_leftOf 11 = .ok (.iload_n 3, 1) := by decide +kernel
theorem dX11_leftOf_12 : decode cX11_leftOf 12 = .ok (.iload_n 1, 1) := by decide +kernel
theorem dX11_leftOf_13 : decode cX11_leftOf 13 = .ok (.imul, 1) := by decide +kernel
theorem dX11_leftOf_14 : decode cX11_leftOf 14 = .ok (.bipush 16, 2) := by decide +kernel
theorem dX11_leftOf_16 : decode cX11_leftOf 16 = .ok (.idiv, 1) := by decide +kernel
theorem dX11_leftOf_17 : decode cX11_leftOf 17 = .ok (.istore_n 3, 1) := by decide +kernel
theorem dX11_leftOf_18 : decode cX11_leftOf 18 = .ok (.iinc 4 1, 3) := by decide +kernel
theorem dX11_leftOf_21 : decode cX11_leftOf 21 = .ok (.goto (-16), 3) := by decide +kernel
theorem dX11_leftOf_24 : decode cX11_leftOf 24 = .ok (.iload_n 3, 1) := by decide +kernel
theorem dX11_leftOf_25 : decode cX11_leftOf 25 = .ok (.ireturn, 1) := by decide +kernel
theorem dX11_seat_0 : decode cX11_seat 0 = .ok (.iload_n 1, 1) := by decide +kernel
theorem dX11_seat_1 : decode cX11_seat 1 = .ok (.sipush 1024, 3) := by decide +kernel
theorem dX11_seat_4 : decode cX11_seat 4 = .ok (.invokestatic 121, 3) := by decide +kernel
theorem dX11_seat_7 : decode cX11_seat 7 = .ok (.aload_n 0, 1) := by decide +kernel
theorem dX11_seat_8 : decode cX11_seat 8 = .ok (.getfield 43, 3) := by decide +kernel
theorem dX11_seat_11 : decode cX11_seat 11 = .ok (.getfield 313, 3) := by decide +kernel
theorem dX11_seat_14 : decode cX11_seat 14 = .ok (.iload_n 1, 1) := by decide +kernel
theorem dX11_seat_15 : decode cX11_seat 15 = .ok (.invokevirtual 317, 3) := by decide +kernel
theorem dX11_seat_18 : decode cX11_seat 18 = .ok (.ireturn, 1) := by decide +kernel
theorem dX11_share_0 : decode cX11_share 0 = .ok (.iload_n 1, 1) := by decide +kernel
theorem dX11_share_1 : decode cX11_share 1 = .ok (.bipush 10, 2) := by decide +kernel
theorem dX11_share_3 : decode cX11_share 3 = .ok (.invokestatic 121, 3) := by decide +kernel
theorem dX11_share_6 : decode cX11_share 6 = .ok (.aload_n 0, 1) := by decide +kernel
theorem dX11_share_7 : decode cX11_share 7 = .ok (.getfield 43, 3) := by decide +kernel
theorem dX11_share_10 : decode cX11_share 10 = .ok (.getfield 313, 3) := by decide +kernel
theorem dX11_share_13 : decode cX11_share 13 = .ok (.iconst 1, 1) := by decide +kernel
theorem dX11_share_14 : decode cX11_share 14 = .ok (.iload_n 1, 1) := by decide +kernel
theorem dX11_share_15 : decode cX11_share 15 = .ok (.ishl, 1) := by decide +kernel
theorem dX11_share_16 : decode cX11_share 16 = .ok (.invokevirtual 321, 3) := by decide +kernel
theorem dX11_share_19 : decode cX11_share 19 = .ok (.ireturn, 1) := by decide +kernel
theorem dX11_together_0 : decode cX11_together 0 = .ok (.iload_n 1, 1) := by decide +kernel
theorem dX11_together_1 : decode cX11_together 1 = .ok (.bipush 10, 2) := by decide +kernel
theorem dX11_together_3 : decode cX11_together 3 = .ok (.invokestatic 121, 3) := by decide +kernel
theorem dX11_together_6 : decode cX11_together 6 = .ok (.iload_n 2, 1) := by decide +kernel
theorem dX11_together_7 : decode cX11_together 7 = .ok (.bipush 10, 2) := by decide +kernel
theorem dX11_together_9 : decode cX11_together 9 = .ok (.invokestatic 121, 3) := by decide +kernel
theorem dX11_together_12 : decode cX11_together 12 = .ok (.aload_n 0, 1) := by decide +kernel
theorem dX11_together_13 : decode cX11_together 13 = .ok (.getfield 43, 3) := by decide +kernel
theorem dX11_together_16 : decode cX11_together 16 = .ok (.getfield 313, 3) := by decide +kernel
theorem dX11_together_19 : decode cX11_together 19 = .ok (.astore_n 3, 1) := by decide +kernel
theorem dX11_together_20 : decode cX11_together 20 = .ok (.aload_n 3, 1) := by decide +kernel
theorem dX11_together_21 : decode cX11_together 21 = .ok (.iconst 1, 1) := by decide +kernel
theorem dX11_together_22 : decode cX11_together 22 = .ok (.iload_n 1, 1) := by decide +kernel
theorem dX11_together_23 : decode cX11_together 23 = .ok (.ishl, 1) := by decide +kernel
theorem dX11_together_24 : decode cX11_together 24 = .ok (.iconst 1, 1) := by decide +kernel
theorem dX11_together_25 : decode cX11_together 25 = .ok (.iload_n 2, 1) := by decide +kernel
theorem dX11_together_26 : decode cX11_together 26 = .ok (.ishl, 1) := by decide +kernel
theorem dX11_together_27 : decode cX11_together 27 = .ok (.ior, 1) := by decide +kernel
theorem dX11_together_28 : decode cX11_together 28 = .ok (.invokevirtual 321, 3) := by decide +kernel
theorem dX11_together_31 : decode cX11_together 31 = .ok (.istore 4, 2) := by decide +kernel
theorem dX11_together_33 : decode cX11_together 33 = .ok (.iload 4, 2) := by decide +kernel
theorem dX11_together_35 : decode cX11_together 35 = .ok (.aload_n 3, 1) := by decide +kernel
theorem dX11_together_36 : decode cX11_together 36 = .ok (.getfield 324, 3) := by decide +kernel
theorem dX11_together_39 : decode cX11_together 39 = .ok (.imul, 1) := by decide +kernel
theorem dX11_together_40 : decode cX11_together 40 = .ok (.aload_n 3, 1) := by decide +kernel
theorem dX11_together_41 : decode cX11_together 41 = .ok (.iconst 1, 1) := by decide +kernel
theorem dX11_together_42 : decode cX11_together 42 = .ok (.iload_n 1, 1) := by decide +kernel
theorem dX11_together_43 : decode cX11_together 43 = .ok (.ishl, 1) := by decide +kernel
theorem dX11_together_44 : decode cX11_together 44 = .ok (.invokevirtual 321, 3) := by decide +kernel
theorem dX11_together_47 : decode cX11_together 47 = .ok (.aload_n 3, 1) := by decide +kernel
theorem dX11_together_48 : decode cX11_together 48 = .ok (.iconst 1, 1) := by decide +kernel
theorem dX11_together_49 : decode cX11_together 49 = .ok (.iload_n 2, 1) := by decide +kernel
theorem dX11_together_50 : decode cX11_together 50 = .ok (.ishl, 1) := by decide +kernel
theorem dX11_together_51 : decode cX11_together 51 = .ok (.invokevirtual 321, 3) := by decide +kernel
theorem dX11_together_54 : decode cX11_together 54 = .ok (.imul, 1) := by decide +kernel
theorem dX11_together_55 : decode cX11_together 55 = .ok (.isub, 1) := by decide +kernel
theorem dX11_together_56 : decode cX11_together 56 = .ok (.ireturn, 1) := by decide +kernel
theorem dX11_shop_0 : decode cX11_shop 0 = .ok (.iload_n 1, 1) := by decide +kernel
theorem dX11_shop_1 : decode cX11_shop 1 = .ok (.bipush 10, 2) := by decide +kernel
theorem dX11_shop_3 : decode cX11_shop 3 = .ok (.invokestatic 121, 3) := by decide +kernel
theorem dX11_shop_6 : decode cX11_shop 6 = .ok (.iload_n 3, 1) := by decide +kernel
theorem dX11_shop_7 : decode cX11_shop 7 = .ok (.iconst 1, 1) := by decide +kernel
theorem dX11_shop_8 : decode cX11_shop 8 = .ok (.if_icmp .lt 18, 3) := by decide +kernel
theorem dX11_shop_11 : decode cX11_shop 11 = .ok (.iload_n 3, 1) := by decide +kernel
theorem dX11_shop_12 : decode cX11_shop 12 = .ok (.ldc 251, 2) := by decide +kernel
theorem dX11_shop_14 : decode cX11_shop 14 = .ok (.if_icmp .gt 12, 3) := by decide +kernel
theorem dX11_shop_17 : decode cX11_shop 17 = .ok (.iload_n 2, 1) := by decide +kernel
theorem dX11_shop_18 : decode cX11_shop 18 = .ok (.ifCond .lt 8, 3) := by decide +kernel
theorem dX11_shop_21 : decode cX11_shop 21 = .ok (.iload_n 2, 1) := by decide +kernel
theorem dX11_shop_22 : decode cX11_shop 22 = .ok (.iload_n 3, 1) := by decide +kernel
theorem dX11_shop_23 : decode cX11_shop 23 = .ok (.if_icmp .le 14, 3) := by decide +kernel
theorem dX11_shop_26 : decode cX11_shop 26 = .ok (.new 111, 3) := by decide +kernel
theorem dX11_shop_29 : decode cX11_shop 29 = .ok (.dup, 1) := by decide +kernel
theorem dX11_shop_30 : decode cX11_shop 30 = .ok (.ldc_w 325, 3) := by decide +kernel
theorem dX11_shop_33 : decode cX11_shop 33 = .ok (.invokespecial 115, 3) := by decide +kernel
theorem dX11_shop_36 : decode cX11_shop 36 = .ok (.athrow, 1) := by decide +kernel
theorem dX11_shop_37 : decode cX11_shop 37 = .ok (.aload_n 0, 1) := by decide +kernel
theorem dX11_shop_38 : decode cX11_shop 38 = .ok (.getfield 43, 3) := by decide +kernel
theorem dX11_shop_41 : decode cX11_shop 41 = .ok (.getfield 327, 3) := by decide +kernel
theorem dX11_shop_44 : decode cX11_shop 44 = .ok (.iload_n 1, 1) := by decide +kernel
theorem dX11_shop_45 : decode cX11_shop 45 = .ok (.iload_n 2, 1) := by decide +kernel
theorem dX11_shop_46 : decode cX11_shop 46 = .ok (.iload_n 3, 1) := by decide +kernel
theorem dX11_shop_47 : decode cX11_shop 47 = .ok (.invokevirtual 331, 3) := by decide +kernel
theorem dX11_shop_50 : decode cX11_shop 50 = .ok (.ireturn, 1) := by decide +kernel
theorem dX11_rare_0 : decode cX11_rare 0 = .ok (.iload_n 1, 1) := by decide +kernel
theorem dX11_rare_1 : decode cX11_rare 1 = .ok (.bipush 10, 2) := by decide +kernel
theorem dX11_rare_3 : decode cX11_rare 3 = .ok (.invokestatic 121, 3) := by decide +kernel
theorem dX11_rare_6 : decode cX11_rare 6 = .ok (.iload_n 2, 1) := by decide +kernel
theorem dX11_rare_7 : decode cX11_rare 7 = .ok (.tableswitch 61 0 2 #[25, 37, 49], 25) := by decide +kernel
theorem dX11_rare_32 : decode cX11_rare 32 = .ok (.aload_n 0, 1) := by decide +kernel
theorem dX11_rare_33 : decode cX11_rare 33 = .ok (.getfield 43, 3) := by decide +kernel
theorem dX11_rare_36 : decode cX11_rare 36 = .ok (.getfield 327, 3) := by decide +kernel
theorem dX11_rare_39 : decode cX11_rare 39 = .ok (.iload_n 1, 1) := by decide +kernel
theorem dX11_rare_40 : decode cX11_rare 40 = .ok (.invokevirtual 335, 3) := by decide +kernel
theorem dX11_rare_43 : decode cX11_rare 43 = .ok (.ireturn, 1) := by decide +kernel
theorem dX11_rare_44 : decode cX11_rare 44 = .ok (.aload_n 0, 1) := by decide +kernel
theorem dX11_rare_45 : decode cX11_rare 45 = .ok (.getfield 43, 3) := by decide +kernel
theorem dX11_rare_48 : decode cX11_rare 48 = .ok (.getfield 327, 3) := by decide +kernel
theorem dX11_rare_51 : decode cX11_rare 51 = .ok (.iload_n 1, 1) := by decide +kernel
theorem dX11_rare_52 : decode cX11_rare 52 = .ok (.invokevirtual 338, 3) := by decide +kernel
theorem dX11_rare_55 : decode cX11_rare 55 = .ok (.ireturn, 1) := by decide +kernel
theorem dX11_rare_56 : decode cX11_rare 56 = .ok (.aload_n 0, 1) := by decide +kernel
theorem dX11_rare_57 : decode cX11_rare 57 = .ok (.getfield 43, 3) := by decide +kernel
theorem dX11_rare_60 : decode cX11_rare 60 = .ok (.getfield 327, 3) := by decide +kernel
theorem dX11_rare_63 : decode cX11_rare 63 = .ok (.iload_n 1, 1) := by decide +kernel
theorem dX11_rare_64 : decode cX11_rare 64 = .ok (.invokevirtual 341, 3) := by decide +kernel
theorem dX11_rare_67 : decode cX11_rare 67 = .ok (.ireturn, 1) := by decide +kernel
theorem dX11_rare_68 : decode cX11_rare 68 = .ok (.new 111, 3) := by decide +kernel
theorem dX11_rare_71 : decode cX11_rare 71 = .ok (.dup, 1) := by decide +kernel
theorem dX11_rare_72 : decode cX11_rare 72 = .ok (.ldc 144, 2) := by decide +kernel
theorem dX11_rare_74 : decode cX11_rare 74 = .ok (.invokespecial 115, 3) := by decide +kernel
theorem dX11_rare_77 : decode cX11_rare 77 = .ok (.athrow, 1) := by decide +kernel
theorem dX11_image_0 : decode cX11_image 0 = .ok (.aload_n 0, 1) := by decide +kernel
theorem dX11_image_1 : decode cX11_image 1 = .ok (.getfield 344, 3) := by decide +kernel
theorem dX11_image_4 : decode cX11_image 4 = .ok (.iconst 3, 1) := by decide +kernel
theorem dX11_image_5 : decode cX11_image 5 = .ok (.invokestatic 103, 3) := by decide +kernel
theorem dX11_image_8 : decode cX11_image 8 = .ok (.ifCond .ne 5, 3) := by decide +kernel
theorem dX11_image_11 : decode cX11_image 11 = .ok (.iconst (-1), 1) := by decide +kernel
theorem dX11_image_12 : decode cX11_image 12 = .ok (.ireturn, 1) := by decide +kernel
theorem dX11_image_13 : decode cX11_image 13 = .ok (.aload_n 0, 1) := by decide +kernel
theorem dX11_image_14 : decode cX11_image 14 = .ok (.getfield 47, 3) := by decide +kernel
theorem dX11_image_17 : decode cX11_image 17 = .ok (.aload_n 0, 1) := by decide +kernel
theorem dX11_image_18 : decode cX11_image 18 = .ok (.getfield 344, 3) := by decide +kernel
theorem dX11_image_21 : decode cX11_image 21 = .ok (.aaload, 1) := by decide +kernel
theorem dX11_image_22 : decode cX11_image 22 = .ok (.aload_n 0, 1) := by decide +kernel
theorem dX11_image_23 : decode cX11_image 23 = .ok (.getfield 43, 3) := by decide +kernel
theorem dX11_image_26 : decode cX11_image 26 = .ok (.invokevirtual 347, 3) := by decide +kernel
theorem dX11_image_29 : decode cX11_image 29 = .ok (.aload_n 0, 1) := by decide +kernel
theorem dX11_image_30 : decode cX11_image 30 = .ok (.dup, 1) := by decide +kernel
theorem dX11_image_31 : decode cX11_image 31 = .ok (.getfield 344, 3) := by decide +kernel
theorem dX11_image_34 : decode cX11_image 34 = .ok (.iconst 1, 1) := by decide +kernel
theorem dX11_image_35 : decode cX11_image 35 = .ok (.iadd, 1) := by decide +kernel
theorem dX11_image_36 : decode cX11_image 36 = .ok (.putfield 344, 3) := by decide +kernel
theorem dX11_image_39 : decode cX11_image 39 = .ok (.aload_n 0, 1) := by decide +kernel
theorem dX11_image_40 : decode cX11_image 40 = .ok (.getfield 344, 3) := by decide +kernel
theorem dX11_image_43 : decode cX11_image 43 = .ok (.ireturn, 1) := by decide +kernel
theorem dX11_restore_0 : decode cX11_restore 0 = .ok (.aload_n 0, 1) := by decide +kernel
theorem dX11_restore_1 : decode cX11_restore 1 = .ok (.getfield 344, 3) := by decide +kernel
theorem dX11_restore_4 : decode cX11_restore 4 = .ok (.iconst 1, 1) := by decide +kernel
theorem dX11_restore_5 : decode cX11_restore 5 = .ok (.isub, 1) := by decide +kernel
theorem dX11_restore_6 : decode cX11_restore 6 = .ok (.iconst 3, 1) := by decide +kernel
theorem dX11_restore_7 : decode cX11_restore 7 = .ok (.invokestatic 103, 3) := by decide +kernel
theorem dX11_restore_10 : decode cX11_restore 10 = .ok (.ifCond .ne 5, 3) := by decide +kernel
theorem dX11_restore_13 : decode cX11_restore 13 = .ok (.iconst (-1), 1) := by decide +kernel
theorem dX11_restore_14 : decode cX11_restore 14 = .ok (.ireturn, 1) := by decide +kernel
theorem dX11_restore_15 : decode cX11_restore 15 = .ok (.aload_n 0, 1) := by decide +kernel
theorem dX11_restore_16 : decode cX11_restore 16 = .ok (.dup, 1) := by decide +kernel
theorem dX11_restore_17 : decode cX11_restore 17 = .ok (.getfield 344, 3) := by decide +kernel
theorem dX11_restore_20 : decode cX11_restore 20 = .ok (.iconst 1, 1) := by decide +kernel
theorem dX11_restore_21 : decode cX11_restore 21 = .ok (.isub, 1) := by decide +kernel
theorem dX11_restore_22 : decode cX11_restore 22 = .ok (.putfield 344, 3) := by decide +kernel
theorem dX11_restore_25 : decode cX11_restore 25 = .ok (.aload_n 0, 1) := by decide +kernel
theorem dX11_restore_26 : decode cX11_restore 26 = .ok (.getfield 43, 3) := by decide +kernel
theorem dX11_restore_29 : decode cX11_restore 29 = .ok (.aload_n 0, 1) := by decide +kernel
theorem dX11_restore_30 : decode cX11_restore 30 = .ok (.getfield 47, 3) := by decide +kernel
theorem dX11_restore_33 : decode cX11_restore 33 = .ok (.aload_n 0, 1) := by decide +kernel
theorem dX11_restore_34 : decode cX11_restore 34 = .ok (.getfield 344, 3) := by decide +kernel
theorem dX11_restore_37 : decode cX11_restore 37 = .ok (.aaload, 1) := by decide +kernel
theorem dX11_restore_38 : decode cX11_restore 38 = .ok (.invokevirtual 347, 3) := by decide +kernel
theorem dX11_restore_41 : decode cX11_restore 41 = .ok (.aload_n 0, 1) := by decide +kernel
theorem dX11_restore_42 : decode cX11_restore 42 = .ok (.getfield 344, 3) := by decide +kernel
theorem dX11_restore_45 : decode cX11_restore 45 = .ok (.ireturn, 1) := by decide +kernel
theorem dX11_count_0 : decode cX11_count 0 = .ok (.iload_n 1, 1) := by decide +kernel
theorem dX11_count_1 : decode cX11_count 1 = .ok (.tableswitch 102 0 6 #[43, 51, 56, 67, 78, 89, 94], 43) := by decide +kernel
theorem dX11_count_44 : decode cX11_count 44 = .ok (.aload_n 0, 1) := by decide +kernel
theorem dX11_count_45 : decode cX11_count 45 = .ok (.getfield 19, 3) := by decide +kernel
theorem dX11_count_48 : decode cX11_count 48 = .ok (.getfield 97, 3) := by decide +kernel
theorem dX11_count_51 : decode cX11_count 51 = .ok (.ireturn, 1) := by decide +kernel
theorem dX11_count_52 : decode cX11_count 52 = .ok (.aload_n 0, 1) := by decide +kernel
theorem dX11_count_53 : decode cX11_count 53 = .ok (.getfield 100, 3) := by decide +kernel
theorem dX11_count_56 : decode cX11_count 56 = .ok (.ireturn, 1) := by decide +kernel
theorem dX11_count_57 : decode cX11_count 57 = .ok (.aload_n 0, 1) := by decide +kernel
theorem dX11_count_58 : decode cX11_count 58 = .ok (.getfield 43, 3) := by decide +kernel
theorem dX11_count_61 : decode cX11_count 61 = .ok (.getfield 181, 3) := by decide +kernel
theorem dX11_count_64 : decode cX11_count 64 = .ok (.getfield 191, 3) := by decide +kernel
theorem dX11_count_67 : decode cX11_count 67 = .ok (.ireturn, 1) := by decide +kernel
theorem dX11_count_68 : decode cX11_count 68 = .ok (.aload_n 0, 1) := by decide +kernel
theorem dX11_count_69 : decode cX11_count 69 = .ok (.getfield 43, 3) := by decide +kernel
theorem dX11_count_72 : decode cX11_count 72 = .ok (.getfield 313, 3) := by decide +kernel
theorem dX11_count_75 : decode cX11_count 75 = .ok (.getfield 324, 3) := by decide +kernel
theorem dX11_count_78 : decode cX11_count 78 = .ok (.ireturn, 1) := by decide +kernel
theorem dX11_count_79 : decode cX11_count 79 = .ok (.aload_n 0, 1) := by decide +kernel
theorem dX11_count_80 : decode cX11_count 80 = .ok (.getfield 43, 3) := by decide +kernel
theorem dX11_count_83 : decode cX11_count 83 = .ok (.getfield 327, 3) := by decide +kernel
theorem dX11_count_86 : decode cX11_count 86 = .ok (.getfield 351, 3) := by decide +kernel
theorem dX11_count_89 : decode cX11_count 89 = .ok (.ireturn, 1) := by decide +kernel
theorem dX11_count_90 : decode cX11_count 90 = .ok (.aload_n 0, 1) := by decide +kernel
theorem dX11_count_91 : decode cX11_count 91 = .ok (.getfield 344, 3) := by decide +kernel
theorem dX11_count_94 : decode cX11_count 94 = .ok (.ireturn, 1) := by decide +kernel
theorem dX11_count_95 : decode cX11_count 95 = .ok (.aload_n 0, 1) := by decide +kernel
theorem dX11_count_96 : decode cX11_count 96 = .ok (.getfield 10, 3) := by decide +kernel
theorem dX11_count_99 : decode cX11_count 99 = .ok (.getfield 74, 3) := by decide +kernel
theorem dX11_count_102 : decode cX11_count 102 = .ok (.ireturn, 1) := by decide +kernel
theorem dX11_count_103 : decode cX11_count 103 = .ok (.iconst (-1), 1) := by decide +kernel
theorem dX11_count_104 : decode cX11_count 104 = .ok (.ireturn, 1) := by decide +kernel
theorem dX11_within_0 : decode cX11_within 0 = .ok (.iload_n 0, 1) := by decide +kernel
theorem dX11_within_1 : decode cX11_within 1 = .ok (.ifCond .lt 12, 3) := by decide +kernel
theorem dX11_within_4 : decode cX11_within 4 = .ok (.iload_n 0, 1) := by decide +kernel
theorem dX11_within_5 : decode cX11_within 5 = .ok (.iload_n 1, 1) := by decide +kernel
theorem dX11_within_6 : decode cX11_within 6 = .ok (.if_icmp .ge 7, 3) := by decide +kernel
theorem dX11_within_9 : decode cX11_within 9 = .ok (.iconst 1, 1) := by decide +kernel
theorem dX11_within_10 : decode cX11_within 10 = .ok (.goto 4, 3) := by decide +kernel
theorem dX11_within_13 : decode cX11_within 13 = .ok (.iconst 0, 1) := by decide +kernel
theorem dX11_within_14 : decode cX11_within 14 = .ok (.ireturn, 1) := by decide +kernel
theorem dX11_needBelow_0 : decode cX11_needBelow 0 = .ok (.iload_n 0, 1) := by decide +kernel
theorem dX11_needBelow_1 : decode cX11_needBelow 1 = .ok (.iload_n 1, 1) := by decide +kernel
theorem dX11_needBelow_2 : decode cX11_needBelow 2 = .ok (.invokestatic 103, 3) := by decide +kernel
theorem dX11_needBelow_5 : decode cX11_needBelow 5 = .ok (.ifCond .ne 14, 3) := by decide +kernel
theorem dX11_needBelow_8 : decode cX11_needBelow 8 = .ok (.new 111, 3) := by decide +kernel
theorem dX11_needBelow_11 : decode cX11_needBelow 11 = .ok (.dup, 1) := by decide +kernel
theorem dX11_needBelow_12 : decode cX11_needBelow 12 = .ok (.ldc_w 352, 3) := by decide +kernel
theorem dX11_needBelow_15 : decode cX11_needBelow 15 = .ok (.invokespecial 115, 3) := by decide +kernel
theorem dX11_needBelow_18 : decode cX11_needBelow 18 = .ok (.athrow, 1) := by decide +kernel
theorem dX11_needBelow_19 : decode cX11_needBelow 19 = .ok (.return_, 1) := by decide +kernel
theorem dX11_needIndex_0 : decode cX11_needIndex 0 = .ok (.iload_n 0, 1) := by decide +kernel
theorem dX11_needIndex_1 : decode cX11_needIndex 1 = .ok (.iload_n 1, 1) := by decide +kernel
theorem dX11_needIndex_2 : decode cX11_needIndex 2 = .ok (.invokestatic 103, 3) := by decide +kernel
theorem dX11_needIndex_5 : decode cX11_needIndex 5 = .ok (.ifCond .ne 14, 3) := by decide +kernel
theorem dX11_needIndex_8 : decode cX11_needIndex 8 = .ok (.new 354, 3) := by decide +kernel
theorem dX11_needIndex_11 : decode cX11_needIndex 11 = .ok (.dup, 1) := by decide +kernel
theorem dX11_needIndex_12 : decode cX11_needIndex 12 = .ok (.ldc_w 356, 3) := by decide +kernel
theorem dX11_needIndex_15 : decode cX11_needIndex 15 = .ok (.invokespecial 358, 3) := by decide +kernel
theorem dX11_needIndex_18 : decode cX11_needIndex 18 = .ok (.athrow, 1) := by decide +kernel
theorem dX11_needIndex_19 : decode cX11_needIndex 19 = .ok (.return_, 1) := by decide +kernel
theorem dX11_storyAt_0 : decode cX11_storyAt 0 = .ok (.iload_n 1, 1) := by decide +kernel
theorem dX11_storyAt_1 : decode cX11_storyAt 1 = .ok (.aload_n 0, 1) := by decide +kernel
theorem dX11_storyAt_2 : decode cX11_storyAt 2 = .ok (.getfield 100, 3) := by decide +kernel
theorem dX11_storyAt_5 : decode cX11_storyAt 5 = .ok (.invokestatic 103, 3) := by decide +kernel
theorem dX11_storyAt_8 : decode cX11_storyAt 8 = .ok (.ifCond .eq 11, 3) := by decide +kernel
theorem dX11_storyAt_11 : decode cX11_storyAt 11 = .ok (.iload_n 1, 1) := by decide +kernel
theorem dX11_storyAt_12 : decode cX11_storyAt 12 = .ok (.iconst 4, 1) := by decide +kernel
theorem dX11_storyAt_13 : decode cX11_storyAt 13 = .ok (.invokestatic 103, 3) := by decide +kernel
theorem dX11_storyAt_16 : decode cX11_storyAt 16 = .ok (.ifCond .ne 14, 3) := by decide +kernel
theorem dX11_storyAt_19 : decode cX11_storyAt 19 = .ok (.new 359, 3) := by decide +kernel
theorem dX11_storyAt_22 : decode cX11_storyAt 22 = .ok (.dup, 1) := by decide +kernel
theorem dX11_storyAt_23 : decode cX11_storyAt 23 = .ok (.ldc_w 361, 3) := by decide +kernel
theorem dX11_storyAt_26 : decode cX11_storyAt 26 = .ok (.invokespecial 363, 3) := by decide +kernel
theorem dX11_storyAt_29 : decode cX11_storyAt 29 = .ok (.athrow, 1) := by decide +kernel
theorem dX11_storyAt_30 : decode cX11_storyAt 30 = .ok (.aload_n 0, 1) := by decide +kernel
theorem dX11_storyAt_31 : decode cX11_storyAt 31 = .ok (.getfield 28, 3) := by decide +kernel
theorem dX11_storyAt_34 : decode cX11_storyAt 34 = .ok (.iload_n 1, 1) := by decide +kernel
theorem dX11_storyAt_35 : decode cX11_storyAt 35 = .ok (.aaload, 1) := by decide +kernel
theorem dX11_storyAt_36 : decode cX11_storyAt 36 = .ok (.areturn, 1) := by decide +kernel
theorem dX12_init_0 : decode cX12_init 0 = .ok (.aload_n 0, 1) := by decide +kernel
theorem dX12_init_1 : decode cX12_init 1 = .ok (.invokespecial 1, 3) := by decide +kernel
theorem dX12_init_4 : decode cX12_init 4 = .ok (.aload_n 0, 1) := by decide +kernel
theorem dX12_init_5 : decode cX12_init 5 = .ok (.iconst (-1), 1) := by decide +kernel
theorem dX12_init_6 : decode cX12_init 6 = .ok (.putfield 9, 3) := by decide +kernel
theorem dX12_init_9 : decode cX12_init 9 = .ok (.aload_n 0, 1) := by decide +kernel
theorem dX12_init_10 : decode cX12_init 10 = .ok (.sipush 400, 3) := by decide +kernel
theorem dX12_init_13 : decode cX12_init 13 = .ok (.newarray .int, 2) := by decide +kernel
theorem dX12_init_15 : decode cX12_init 15 = .ok (.putfield 13, 3) := by decide +kernel
theorem dX12_init_18 : decode cX12_init 18 = .ok (.aload_n 0, 1) := by decide +kernel
theorem dX12_init_19 : decode cX12_init 19 = .ok (.bipush 8, 2) := by decide +kernel
theorem dX12_init_21 : decode cX12_init 21 = .ok (.putfield 17, 3) := by decide +kernel
theorem dX12_init_24 : decode cX12_init 24 = .ok (.aload_n 0, 1) := by decide +kernel
theorem dX12_init_25 : decode cX12_init 25 = .ok (.bipush 8, 2) := by decide +kernel
theorem dX12_init_27 : decode cX12_init 27 = .ok (.bipush 10, 2) := by decide +kernel
theorem dX12_init_29 : decode cX12_init 29 = .ok (.multianewarray 20 2, 4) := by decide +kernel
theorem dX12_init_33 : decode cX12_init 33 = .ok (.putfield 22, 3) := by decide +kernel
theorem dX12_init_36 : decode cX12_init 36 = .ok (.aload_n 0, 1) := by decide +kernel
theorem dX12_init_37 : decode cX12_init 37 = .ok (.bipush 10, 2) := by decide +kernel
theorem dX12_init_39 : decode cX12_init 39 = .ok (.newarray .int, 2) := by decide +kernel
theorem dX12_init_41 : decode cX12_init 41 = .ok (.putfield 25, 3) := by decide +kernel
theorem dX12_init_44 : decode cX12_init 44 = .ok (.aload_n 0, 1) := by decide +kernel
theorem dX12_init_45 : decode cX12_init 45 = .ok (.bipush 10, 2) := by decide +kernel
theorem dX12_init_47 : decode cX12_init 47 = .ok (.newarray .int, 2) := by decide +kernel
theorem dX12_init_49 : decode cX12_init 49 = .ok (.putfield 28, 3) := by decide +kernel
theorem dX12_init_52 : decode cX12_init 52 = .ok (.aload_n 0, 1) := by decide +kernel
theorem dX12_init_53 : decode cX12_init 53 = .ok (.bipush 10, 2) := by decide +kernel
theorem dX12_init_55 : decode cX12_init 55 = .ok (.newarray .int, 2) := by decide +kernel
theorem dX12_init_57 : decode cX12_init 57 = .ok (.putfield 31, 3) := by decide +kernel
theorem dX12_init_60 : decode cX12_init 60 = .ok (.aload_n 0, 1) := by decide +kernel
theorem dX12_init_61 : decode cX12_init 61 = .ok (.bipush 8, 2) := by decide +kernel
theorem dX12_init_63 : decode cX12_init 63 = .ok (.bipush 10, 2) := by decide +kernel
theorem dX12_init_65 : decode cX12_init 65 = .ok (.multianewarray 20 2, 4) := by decide +kernel
theorem dX12_init_69 : decode cX12_init 69 = .ok (.putfield 34, 3) := by decide +kernel
theorem dX12_init_72 : decode cX12_init 72 = .ok (.aload_n 0, 1) := by decide +kernel
theorem dX12_init_73 : decode cX12_init 73 = .ok (.bipush 10, 2) := by decide +kernel
theorem dX12_init_75 : decode cX12_init 75 = .ok (.newarray .int, 2) := by decide +kernel
theorem dX12_init_77 : decode cX12_init 77 = .ok (.putfield 37, 3) := by decide +kernel
theorem dX12_init_80 : decode cX12_init 80 = .ok (.aload_n 0, 1) := by decide +kernel
theorem dX12_init_81 : decode cX12_init 81 = .ok (.bipush 10, 2) := by decide +kernel
theorem dX12_init_83 : decode cX12_init 83 = .ok (.newarray .int, 2) := by decide +kernel
theorem dX12_init_85 : decode cX12_init 85 = .ok (.putfield 40, 3) := by decide +kernel
theorem dX12_init_88 : decode cX12_init 88 = .ok (.aload_n 0, 1) := by decide +kernel
theorem dX12_init_89 : decode cX12_init 89 = .ok (.bipush 10, 2) := by decide +kernel
theorem dX12_init_91 : decode cX12_init 91 = .ok (.newarray .int, 2) := by decide +kernel
theorem dX12_init_93 : decode cX12_init 93 = .ok (.putfield 43, 3) := by decide +kernel
theorem dX12_init_96 : decode cX12_init 96 = .ok (.aload_n 0, 1) := by decide +kernel
theorem dX12_init_97 : decode cX12_init 97 = .ok (.iconst 4, 1) := by decide +kernel
theorem dX12_init_98 : decode cX12_init 98 = .ok (.newarray .int, 2) := by decide +kernel
theorem dX12_init_100 : decode cX12_init 100 = .ok (.putfield 46, 3) := by decide +kernel
theorem dX12_init_103 : decode cX12_init 103 = .ok (.aload_n 0, 1) := by decide +kernel
theorem dX12_init_104 : decode cX12_init 104 = .ok (.bipush 80, 2) := by decide +kernel
theorem dX12_init_106 : decode cX12_init 106 = .ok (.iconst 4, 1) := by decide +kernel
theorem dX12_init_107 : decode cX12_init 107 = .ok (.multianewarray 20 2, 4) := by decide +kernel
theorem dX12_init_111 : decode cX12_init 111 = .ok (.putfield 49, 3) := by decide +kernel
theorem dX12_init_114 : decode cX12_init 114 = .ok (.aload_n 0, 1) := by decide +kernel
theorem dX12_init_115 : decode cX12_init 115 = .ok (.bipush 21, 2) := by decide +kernel
theorem dX12_init_117 : decode cX12_init 117 = .ok (.iconst 4, 1) := by decide +kernel
theorem dX12_init_118 : decode cX12_init 118 = .ok (.multianewarray 20 2, 4) := by decide +kernel
theorem dX12_init_122 : decode cX12_init 122 = .ok (.putfield 52, 3) := by decide +kernel
theorem dX12_init_125 : decode cX12_init 125 = .ok (.aload_n 0, 1) := by decide +kernel
theorem dX12_init_126 : decode cX12_init 126 = .ok (.bipush 8, 2) := by decide +kernel
theorem dX12_init_128 : decode cX12_init 128 = .ok (.iconst 4, 1) := by decide +kernel
theorem dX12_init_129 : decode cX12_init 129 = .ok (.multianewarray 20 2, 4) := by decide +kernel
theorem dX12_init_133 : decode cX12_init 133 = .ok (.putfield 55, 3) := by decide +kernel
theorem dX12_init_136 : decode cX12_init 136 = .ok (.aload_n 0, 1) := by decide +kernel
theorem dX12_init_137 : decode cX12_init 137 = .ok (.bipush 40, 2) := by decide +kernel
theorem dX12_init_139 : decode cX12_init 139 = .ok (.newarray .int, 2) := by decide +kernel
theorem dX12_init_141 : decode cX12_init 141 = .ok (.putfield 58, 3) := by decide +kernel
theorem dX12_init_144 : decode cX12_init 144 = .ok (.aload_n 0, 1) := by decide +kernel
theorem dX12_init_145 : decode cX12_init 145 = .ok (.bipush 12, 2) := by decide +kernel
theorem dX12_init_147 : decode cX12_init 147 = .ok (.iconst 3, 1) := by decide +kernel
theorem dX12_init_148 : decode cX12_init 148 = .ok (.multianewarray 20 2, 4) := by decide +kernel
theorem dX12_init_152 : decode cX12_init 152 = .ok (.putfield 61, 3) := by decide +kernel
theorem dX12_init_155 : decode cX12_init 155 = .ok (.aload_n 0, 1) := by decide +kernel
theorem dX12_init_156 : decode cX12_init 156 = .ok (.bipush 24, 2) := by decide +kernel
theorem dX12_init_158 : decode cX12_init 158 = .ok (.iconst 4, 1) := by decide +kernel
theorem dX12_init_159 : decode cX12_init 159 = .ok (.multianewarray 20 2, 4) := by decide +kernel
theorem dX12_init_163 : decode cX12_init 163 = .ok (.putfield 64, 3) := by decide +kernel
theorem dX12_init_166 : decode cX12_init 166 = .ok (.aload_n 0, 1) := by decide +kernel
theorem dX12_init_167 : decode cX12_init 167 = .ok (.iconst 3, 1) := by decide +kernel
theorem dX12_init_168 : decode cX12_init 168 = .ok (.bipush 40, 2) := by decide +kernel
theorem dX12_init_170 : decode cX12_init 170 = .ok (.multianewarray 20 2, 4) := by decide +kernel
theorem dX12_init_174 : decode cX12_init 174 = .ok (.putfield 67, 3) := by decide +kernel
theorem dX12_init_177 : decode cX12_init 177 = .ok (.aload_n 0, 1) := by decide +kernel
theorem dX12_init_178 : decode cX12_init 178 = .ok (.bipush 36, 2) := by decide +kernel
theorem dX12_init_180 : decode cX12_init 180 = .ok (.iconst 3, 1) := by decide +kernel
theorem dX12_init_181 : decode cX12_init 181 = .ok (.multianewarray 20 2, 4) := by decide +kernel
theorem dX12_init_185 : decode cX12_init 185 = .ok (.putfield 70, 3) := by decide +kernel
theorem dX12_init_188 : decode cX12_init 188 = .ok (.aload_n 0, 1) := by decide +kernel
theorem dX12_init_189 : decode cX12_init 189 = .ok (.iconst 3, 1) := by decide +kernel
theorem dX12_init_190 : decode cX12_init 190 = .ok (.iconst 3, 1) := by decide +kernel
theorem dX12_init_191 : decode cX12_init 191 = .ok (.multianewarray 20 2, 4) := by decide +kernel
theorem dX12_init_195 : decode cX12_init 195 = .ok (.putfield 73, 3) := by decide +kernel
theorem dX12_init_198 : decode cX12_init 198 = .ok (.aload_n 0, 1) := by decide +kernel
theorem dX12_init_199 : decode cX12_init 199 = .ok (.bipush 10, 2) := by decide +kernel
theorem dX12_init_201 : decode cX12_init 201 = .ok (.bipush 10, 2) := by decide +kernel
theorem dX12_init_203 : decode cX12_init 203 = .ok (.multianewarray 20 2, 4) := by decide +kernel
theorem dX12_init_207 : decode cX12_init 207 = .ok (.putfield 76, 3) := by decide +kernel
theorem dX12_init_210 : decode cX12_init 210 = .ok (.aload_n 0, 1) := by decide +kernel
theorem dX12_init_211 : decode cX12_init 211 = .ok (.bipush 10, 2) := by decide +kernel
theorem dX12_init_213 : decode cX12_init 213 = .ok (.newarray .int, 2) := by decide +kernel
theorem dX12_init_215 : decode cX12_init 215 = .ok (.putfield 79, 3) := by decide +kernel
theorem dX12_init_218 : decode cX12_init 218 = .ok (.aload_n 0, 1) := by decide +kernel
theorem dX12_init_219 : decode cX12_init 219 = .ok (.iconst (-1), 1) := by decide +kernel
theorem dX12_init_220 : decode cX12_init 220 = .ok (.putfield 82, 3) := by decide +kernel
theorem dX12_init_223 : decode cX12_init 223 = .ok (.aload_n 0, 1) := by decide +kernel
theorem dX12_init_224 : decode cX12_init 224 = .ok (.iconst (-1), 1) := by decide +kernel
theorem dX12_init_225 : decode cX12_init 225 = .ok (.putfield 85, 3) := by decide +kernel
theorem dX12_init_228 : decode cX12_init 228 = .ok (.aload_n 0, 1) := by decide +kernel
theorem dX12_init_229 : decode cX12_init 229 = .ok (.iconst (-1), 1) := by decide +kernel
theorem dX12_init_230 : decode cX12_init 230 = .ok (.putfield 88, 3) := by decide +kernel
theorem dX12_init_233 : decode cX12_init 233 = .ok (.aload_n 0, 1) := by decide +kernel
theorem dX12_init_234 : decode cX12_init 234 = .ok (.iconst 3, 1) := by decide +kernel
theorem dX12_init_235 : decode cX12_init 235 = .ok (.sipush 330, 3) := by decide +kernel
theorem dX12_init_238 : decode cX12_init 238 = .ok (.multianewarray 20 2, 4) := by decide +kernel
theorem dX12_init_242 : decode cX12_init 242 = .ok (.putfield 91, 3) := by decide +kernel
theorem dX12_init_245 : decode cX12_init 245 = .ok (.iconst 0, 1) := by decide +kernel
theorem dX12_init_246 : decode cX12_init 246 = .ok (.istore_n 1, 1) := by decide +kernel
theorem dX12_init_247 : decode cX12_init 247 = .ok (.iload_n 1, 1) := by decide +kernel
theorem dX12_init_248 : decode cX12_init 248 = .ok (.bipush 10, 2) := by decide +kernel
theorem dX12_init_250 : decode cX12_init 250 = .ok (.if_icmp .ge 17, 3) := by decide +kernel
theorem dX12_init_253 : decode cX12_init 253 = .ok (.aload_n 0, 1) := by decide +kernel
theorem dX12_init_254 : decode cX12_init 254 = .ok (.getfield 25, 3) := by decide +kernel
theorem dX12_init_257 : decode cX12_init 257 = .ok (.iload_n 1, 1) := by decide +kernel
theorem dX12_init_258 : decode cX12_init 258 = .ok (.bipush 16, 2) := by decide +kernel
theorem dX12_init_260 : decode cX12_init 260 = .ok (.iastore, 1) := by decide +kernel
theorem dX12_init_261 : decode cX12_init 261 = .ok (.iinc 1 1, 3) := by decide +kernel
theorem dX12_init_264 : decode cX12_init 264 = .ok (.goto (-17), 3) := by decide +kernel
theorem dX12_init_267 : decode cX12_init 267 = .ok (.return_, 1) := by decide +kernel
theorem dX12_thrown_0 : decode cX12_thrown 0 = .ok (.aload_n 0, 1) := by decide +kernel
theorem dX12_thrown_1 : decode cX12_thrown 1 = .ok (.getfield 94, 3) := by decide +kernel
theorem dX12_thrown_4 : decode cX12_thrown 4 = .ok (.ireturn, 1) := by decide +kernel
theorem dX12_bad_0 : decode cX12_bad 0 = .ok (.iload_n 1, 1) := by decide +kernel
theorem dX12_bad_1 : decode cX12_bad 1 = .ok (.ifCond .eq 15, 3) := by decide +kernel
theorem dX12_bad_4 : decode cX12_bad 4 = .ok (.aload_n 0, 1) := by decide +kernel
theorem dX12_bad_5 : decode cX12_bad 5 = .ok (.getfield 94, 3) := by decide +kernel
theorem dX12_bad_8 : decode cX12_bad 8 = .ok (.ifCond .ne 8, 3) := by decide +kernel
theorem dX12_bad_11 : decode cX12_bad 11 = .ok (.aload_n 0, 1) := by decide +kernel
theorem dX12_bad_12 : decode cX12_bad 12 = .ok (.iload_n 2, 1) := by decide +kernel
theorem dX12_bad_13 : decode cX12_bad 13 = .ok (.putfield 94, 3) := by decide +kernel
theorem dX12_bad_16 : decode cX12_bad 16 = .ok (.aload_n 0, 1) := by decide +kernel
theorem dX12_bad_17 : decode cX12_bad 17 = .ok (.getfield 94, 3) := by decide +kernel
theorem dX12_bad_20 : decode cX12_bad 20 = .ok (.ifCond .eq 7, 3) := by decide +kernel
theorem dX12_bad_23 : decode cX12_bad 23 = .ok (.iconst 1, 1) := by decide +kernel
theorem dX12_bad_24 : decode cX12_bad 24 = .ok (.goto 4, 3) := by decide +kernel
theorem dX12_bad_27 : decode cX12_bad 27 = .ok (.iconst 0, 1) := by decide +kernel
theorem dX12_bad_28 : decode cX12_bad 28 = .ok (.ireturn, 1) := by decide +kernel
theorem dX12_in_0 : decode cX12_in 0 = .ok (.iload_n 0, 1) := by decide +kernel
theorem dX12_in_1 : decode cX12_in 1 = .ok (.iload_n 1, 1) := by decide +kernel
theorem dX12_in_2 : decode cX12_in 2 = .ok (.if_icmp .lt 12, 3) := by decide +kernel
theorem dX12_in_5 : decode cX12_in 5 = .ok (.iload_n 0, 1) := by decide +kernel
theorem dX12_in_6 : decode cX12_in 6 = .ok (.iload_n 2, 1) := by decide +kernel
theorem dX12_in_7 : decode cX12_in 7 = .ok (.if_icmp .gt 7, 3) := by decide +kernel
theorem dX12_in_10 : decode cX12_in 10 = .ok (.iconst 1, 1) := by decide +kernel
theorem dX12_in_11 : decode cX12_in 11 = .ok (.goto 4, 3) := by decide +kernel
theorem dX12_in_14 : decode cX12_in 14 = .ok (.iconst 0, 1) := by decide +kernel
theorem dX12_in_15 : decode cX12_in 15 = .ok (.ireturn, 1) := by decide +kernel
theorem dX12_less_0 : decode cX12_less 0 = .ok (.iload_n 0, 1) := by decide +kernel
theorem dX12_less_1 : decode cX12_less 1 = .ok (.iload_n 1, 1) := by decide +kernel
theorem dX12_less_2 : decode cX12_less 2 = .ok (.if_icmp .ge 7, 3) := by decide +kernel
theorem dX12_less_5 : decode cX12_less 5 = .ok (.iload_n 0, 1) := by decide +kernel
theorem dX12_less_6 : decode cX12_less 6 = .ok (.goto 4, 3) := by decide +kernel
theorem dX12_less_9 : decode cX12_less 9 = .ok (.iload_n 1, 1) := by decide +kernel
theorem dX12_less_10 : decode cX12_less 10 = .ok (.ireturn, 1) := by decide +kernel
theorem dX12_feed_0 : decode cX12_feed 0 = .ok (.aload_n 0, 1) := by decide +kernel
theorem dX12_feed_1 : decode cX12_feed 1 = .ok (.iconst 0, 1) := by decide +kernel
theorem dX12_feed_2 : decode cX12_feed 2 = .ok (.putfield 94, 3) := by decide +kernel
theorem dX12_feed_5 : decode cX12_feed 5 = .ok (.aload_n 0, 1) := by decide +kernel
theorem dX12_feed_6 : decode cX12_feed 6 = .ok (.getfield 97, 3) := by decide +kernel
theorem dX12_feed_9 : decode cX12_feed 9 = .ok (.bipush 20, 2) := by decide +kernel
theorem dX12_feed_11 : decode cX12_feed 11 = .ok (.iadd, 1) := by decide +kernel
theorem dX12_feed_12 : decode cX12_feed 12 = .ok (.sipush 400, 3) := by decide +kernel
theorem dX12_feed_15 : decode cX12_feed 15 = .ok (.if_icmp .le 5, 3) := by decide +kernel
theorem dX12_feed_18 : decode cX12_feed 18 = .ok (.iconst (-1), 1) := by decide +kernel
theorem dX12_feed_19 : decode cX12_feed 19 = .ok (.ireturn, 1) := by decide +kernel
theorem dX12_feed_20 : decode cX12_feed 20 = .ok (.iconst 0, 1) := by decide +kernel
theorem dX12_feed_21 : decode cX12_feed 21 = .ok (.istore 6, 2) := by decide +kernel
theorem dX12_feed_23 : decode cX12_feed 23 = .ok (.iload 6, 2) := by decide +kernel
theorem dX12_feed_25 : decode cX12_feed 25 = .ok (.bipush 20, 2) := by decide +kernel
theorem dX12_feed_27 : decode cX12_feed 27 = .ok (.if_icmp .ge 93, 3) := by decide +kernel
theorem dX12_feed_30 : decode cX12_feed 30 = .ok (.iload 6, 2) := by decide +kernel
theorem dX12_feed_32 : decode cX12_feed 32 = .ok (.iconst 4, 1) := by decide +kernel
theorem dX12_feed_33 : decode cX12_feed 33 = .ok (.if_icmp .ge 7, 3) := by decide +kernel
theorem dX12_feed_36 : decode cX12_feed 36 = .ok (.iload_n 1, 1) := by decide +kernel
theorem dX12_feed_37 : decode cX12_feed 37 = .ok (.goto 39, 3) := by decide +kernel
theorem dX12_feed_40 : decode cX12_feed 40 = .ok (.iload 6, 2) := by decide +kernel
theorem dX12_feed_42 : decode cX12_feed 42 = .ok (.bipush 8, 2) := by decide +kernel
theorem dX12_feed_44 : decode cX12_feed 44 = .ok (.if_icmp .ge 7, 3) := by decide +kernel
theorem dX12_feed_47 : decode cX12_feed 47 = .ok (.iload_n 2, 1) := by decide +kernel
theorem dX12_feed_48 : decode cX12_feed 48 = .ok (.goto 28, 3) := by decide +kernel
theorem dX12_feed_51 : decode cX12_feed 51 = .ok (.iload 6, 2) := by decide +kernel
theorem dX12_feed_53 : decode cX12_feed 53 = .ok (.bipush 12, 2) := by decide +kernel
theorem dX12_feed_55 : decode cX12_feed 55 = .ok (.if_icmp .ge 7, 3) := by decide +kernel
theorem dX12_feed_58 : decode cX12_feed 58 = .ok (.iload_n 3, 1) := by decide +kernel
theorem dX12_feed_59 : decode cX12_feed 59 = .ok (.goto 17, 3) := by decide +kernel
theorem dX12_feed_62 : decode cX12_feed 62 = .ok (.iload 6, 2) := by decide +kernel
theorem dX12_feed_64 : decode cX12_feed 64 = .ok (.bipush 16, 2) := by decide +kernel
theorem dX12_feed_66 : decode cX12_feed 66 = .ok (.if_icmp .ge 8, 3) := by decide +kernel
theorem dX12_feed_69 : decode cX12_feed 69 = .ok (.iload 4, 2) := by decide +kernel
theorem dX12_feed_71 : decode cX12_feed 71 = .ok (.goto 5, 3) := by decide +kernel
theorem dX12_feed_74 : decode cX12_feed 74 = .ok (.iload 5, 2) := by decide +kernel
theorem dX12_feed_76 : decode cX12_feed 76 = .ok (.istore 7, 2) := by decide +kernel
theorem dX12_feed_78 : decode cX12_feed 78 = .ok (.aload_n 0, 1) := by decide +kernel
theorem dX12_feed_79 : decode cX12_feed 79 = .ok (.getfield 13, 3) := by decide +kernel
theorem dX12_feed_82 : decode cX12_feed 82 = .ok (.aload_n 0, 1) := by decide +kernel
theorem dX12_feed_83 : decode cX12_feed 83 = .ok (.getfield 97, 3) := by decide +kernel
theorem dX12_feed_86 : decode cX12_feed 86 = .ok (.iload 7, 2) := by decide +kernel
theorem dX12_feed_88 : decode cX12_feed 88 = .ok (.bipush 24, 2) := by decide +kernel
theorem dX12_feed_90 : decode cX12_feed 90 = .ok (.bipush 8, 2) := by decide +kernel
theorem dX12_feed_92 : decode cX12_feed 92 = .ok (.iload 6, 2) := by decide +kernel
theorem dX12_feed_94 : decode cX12_feed 94 = .ok (.iconst 4, 1) := by decide +kernel
theorem dX12_feed_95 : decode cX12_feed 95 = .ok (.irem, 1) := by decide +kernel
theorem dX12_feed_96 : decode cX12_feed 96 = .ok (.imul, 1) := by decide +kernel
theorem dX12_feed_97 : decode cX12_feed 97 = .ok (.isub, 1) := by decide +kernel
theorem dX12_feed_98 : decode cX12_feed 98 = .ok (.ishr, 1) := by decide +kernel
theorem dX12_feed_99 : decode cX12_feed 99 = .ok (.sipush 255, 3) := by decide +kernel
theorem dX12_feed_102 : decode cX12_feed 102 = .ok (.iand, 1) := by decide +kernel
theorem dX12_feed_103 : decode cX12_feed 103 = .ok (.iastore, 1) := by decide +kernel
theorem dX12_feed_104 : decode cX12_feed 104 = .ok (.aload_n 0, 1) := by decide +kernel
theorem dX12_feed_105 : decode cX12_feed 105 = .ok (.dup, 1) := by decide +kernel
theorem dX12_feed_106 : decode cX12_feed 106 = .ok (.getfield 97, 3) := by decide +kernel
theorem dX12_feed_109 : decode cX12_feed 109 = .ok (.iconst 1, 1) := by decide +kernel
theorem dX12_feed_110 : decode cX12_feed 110 = .ok (.iadd, 1) := by decide +kernel
theorem dX12_feed_111 : decode cX12_feed 111 = .ok (.putfield 97, 3) := by decide +kernel
theorem dX12_feed_114 : decode cX12_feed 114 = .ok (.iinc 6 1, 3) := by decide +kernel
theorem dX12_feed_117 : decode cX12_feed 117 = .ok (.goto (-94), 3) := by decide +kernel
theorem dX12_feed_120 : decode cX12_feed 120 = .ok (.aload_n 0, 1) := by decide +kernel
theorem dX12_feed_121 : decode cX12_feed 121 = .ok (.getfield 97, 3) := by decide +kernel
theorem dX12_feed_124 : decode cX12_feed 124 = .ok (.ireturn, 1) := by decide +kernel
theorem dX12_byteAt_0 : decode cX12_byteAt 0 = .ok (.iload_n 1, 1) := by decide +kernel
theorem dX12_byteAt_1 : decode cX12_byteAt 1 = .ok (.aload_n 0, 1) := by decide +kernel
theorem dX12_byteAt_2 : decode cX12_byteAt 2 = .ok (.getfield 100, 3) := by decide +kernel
theorem dX12_byteAt_5 : decode cX12_byteAt 5 = .ok (.if_icmp .lt 7, 3) := by decide +kernel
theorem dX12_byteAt_8 : decode cX12_byteAt 8 = .ok (.iconst (-1), 1) := by decide +kernel
theorem dX12_byteAt_9 : decode cX12_byteAt 9 = .ok (.goto 9, 3) := by decide +kernel
theorem dX12_byteAt_12 : decode cX12_byteAt 12 = .ok (.aload_n 0, 1) := by decide +kernel
theorem dX12_byteAt_13 : decode cX12_byteAt 13 = .ok (.getfield 13, 3) := by decide +kernel
theorem dX12_byteAt_16 : decode cX12_byteAt 16 = .ok (.iload_n 1, 1) := by decide +kernel
theorem dX12_byteAt_17 : decode cX12_byteAt 17 = .ok (.iaload, 1) := by decide +kernel
theorem dX12_byteAt_18 : decode cX12_byteAt 18 = .ok (.ireturn, 1) := by decide +kernel
theorem dX12_blanks_0 : decode cX12_blanks 0 = .ok (.aload_n 0, 1) := by decide +kernel
theorem dX12_blanks_1 : decode cX12_blanks 1 = .ok (.aload_n 0, 1) := by decide +kernel
theorem dX12_blanks_2 : decode cX12_blanks 2 = .ok (.getfield 103, 3) := by decide +kernel
theorem dX12_blanks_5 : decode cX12_blanks 5 = .ok (.invokevirtual 106, 3) := by decide +kernel
theorem dX12_blanks_8 : decode cX12_blanks 8 = .ok (.bipush 32, 2) := by decide +kernel
theorem dX12_blanks_10 : decode cX12_blanks 10 = .ok (.if_icmp .ne 16, 3) := by decide +kernel
theorem dX12_blanks_13 : decode cX12_blanks 13 = .ok (.aload_n 0, 1) := by decide +kernel
theorem dX12_blanks_14 : decode cX12_blanks 14 = .ok (.dup, 1) := by decide +kernel
theorem dX12_blanks_15 : decode cX12_blanks 15 = .ok (.getfield 103, 3) := by decide +kernel
theorem dX12_blanks_18 : decode cX12_blanks 18 = .ok (.iconst 1, 1) := by decide +kernel
theorem dX12_blanks_19 : decode cX12_blanks 19 = .ok (.iadd, 1) := by decide +kernel
theorem dX12_blanks_20 : decode cX12_blanks 20 = .ok (.putfield 103, 3) := by decide +kernel
theorem dX12_blanks_23 : decode cX12_blanks 23 = .ok (.goto (-23), 3) := by decide +kernel
theorem dX12_blanks_26 : decode cX12_blanks 26 = .ok (.return_, 1) := by decide +kernel
theorem dX12_wrong_0 : decode cX12_wrong 0 = .ok (.aload_n 0, 1) := by decide +kernel
theorem dX12_wrong_1 : decode cX12_wrong 1 = .ok (.getfield 110, 3) := by decide +kernel
theorem dX12_wrong_4 : decode cX12_wrong 4 = .ok (.ifCond .ne 13, 3) := by decide +kernel
theorem dX12_wrong_7 : decode cX12_wrong 7 = .ok (.aload_n 0, 1) := by decide +kernel
theorem dX12_wrong_8 : decode cX12_wrong 8 = .ok (.iload_n 1, 1) := by decide +kernel
theorem dX12_wrong_9 : decode cX12_wrong 9 = .ok (.putfield 110, 3) := by decide +kernel
theorem dX12_wrong_12 : decode cX12_wrong 12 = .ok (.aload_n 0, 1) := by decide +kernel
theorem dX12_wrong_13 : decode cX12_wrong 13 = .ok (.iload_n 2, 1) := by decide +kernel
theorem dX12_wrong_14 : decode cX12_wrong 14 = .ok (.putfield 113, 3) := by decide +kernel
theorem dX12_wrong_17 : decode cX12_wrong 17 = .ok (.return_, 1) := by decide +kernel
theorem dX12_isDigit_0 : decode cX12_isDigit 0 = .ok (.iload_n 0, 1) := by decide +kernel
theorem dX12_isDigit_1 : decode cX12_isDigit 1 = .ok (.bipush 48, 2) := by decide +kernel
theorem dX12_isDigit_3 : decode cX12_isDigit 3 = .ok (.if_icmp .lt 13, 3) := by decide +kernel
theorem dX12_isDigit_6 : decode cX12_isDigit 6 = .ok (.iload_n 0, 1) := by decide +kernel
theorem dX12_isDigit_7 : decode cX12_isDigit 7 = .ok (.bipush 57, 2) := by decide +kernel
theorem dX12_isDigit_9 : decode cX12_isDigit 9 = .ok (.if_icmp .gt 7, 3) := by decide +kernel
theorem dX12_isDigit_12 : decode cX12_isDigit 12 = .ok (.iconst 1, 1) := by decide +kernel
theorem dX12_isDigit_13 : decode cX12_isDigit 13 = .ok (.goto 4, 3) := by decide +kernel
theorem dX12_isDigit_16 : decode cX12_isDigit 16 = .ok (.iconst 0, 1) := by decide +kernel
theorem dX12_isDigit_17 : decode cX12_isDigit 17 = .ok (.ireturn, 1) := by decide +kernel
theorem dX12_number_0 : decode cX12_number 0 = .ok (.aload_n 0, 1) := by decide +kernel
theorem dX12_number_1 : decode cX12_number 1 = .ok (.getfield 110, 3) := by decide +kernel
theorem dX12_number_4 : decode cX12_number 4 = .ok (.ifCond .eq 5, 3) := by decide +kernel
theorem dX12_number_7 : decode cX12_number 7 = .ok (.iconst 0, 1) := by decide +kernel
theorem dX12_number_8 : decode cX12_number 8 = .ok (.ireturn, 1) := by decide +kernel
theorem dX12_number_9 : decode cX12_number 9 = .ok (.aload_n 0, 1) := by decide +kernel
theorem dX12_number_10 : decode cX12_number 10 = .ok (.invokevirtual 116, 3) := by decide +kernel
theorem dX12_number_13 : decode cX12_number 13 = .ok (.aload_n 0, 1) := by decide +kernel
theorem dX12_number_14 : decode cX12_number 14 = .ok (.getfield 103, 3) := by decide +kernel
theorem dX12_number_17 : decode cX12_number 17 = .ok (.istore 4, 2) := by decide +kernel
theorem dX12_number_19 : decode cX12_number 19 = .ok (.iconst 0, 1) := by decide +kernel
theorem dX12_number_20 : decode cX12_number 20 = .ok (.istore 5, 2) := by decide +kernel
theorem dX12_number_22 : decode cX12_number 22 = .ok (.aload_n 0, 1) := by decide +kernel
theorem dX12_number_23 : decode cX12_number 23 = .ok (.aload_n 0, 1) := by decide +kernel
theorem dX12_number_24 : decode cX12_number 24 = .ok (.getfield 103, 3) := by decide +kernel
theorem dX12_number_27 : decode cX12_number 27 = .ok (.invokevirtual 106, 3) := by decide +kernel
theorem dX12_number_30 : decode cX12_number 30 = .ok (.invokestatic 119, 3) := by decide +kernel
theorem dX12_number_33 : decode cX12_number 33 = .ok (.ifCond .ne 12, 3) := by decide +kernel
theorem dX12_number_36 : decode cX12_number 36 = .ok (.aload_n 0, 1) := by decide +kernel
theorem dX12_number_37 : decode cX12_number 37 = .ok (.iconst 1, 1) := by decide +kernel
theorem dX12_number_38 : decode cX12_number 38 = .ok (.aload_n 0, 1) := by decide +kernel
theorem dX12_number_39 : decode cX12_number 39 = .ok (.getfield 103, 3) := by decide +kernel
theorem dX12_number_42 : decode cX12_number 42 = .ok (.invokevirtual 123, 3) := by decide +kernel
theorem dX12_number_45 : decode cX12_number 45 = .ok (.aload_n 0, 1) := by decide +kernel
theorem dX12_number_46 : decode cX12_number 46 = .ok (.aload_n 0, 1) := by decide +kernel
theorem dX12_number_47 : decode cX12_number 47 = .ok (.getfield 103, 3) := by decide +kernel
theorem dX12_number_50 : decode cX12_number 50 = .ok (.invokevirtual 106, 3) := by decide +kernel
theorem dX12_number_53 : decode cX12_number 53 = .ok (.invokestatic 119, 3) := by decide +kernel
theorem dX12_number_56 : decode cX12_number 56 = .ok (.ifCond .eq 51, 3) := by decide +kernel
theorem dX12_number_59 : decode cX12_number 59 = .ok (.bipush 10, 2) := by decide +kernel
theorem dX12_number_61 : decode cX12_number 61 = .ok (.iload 5, 2) := by decide +kernel
theorem dX12_number_63 : decode cX12_number 63 = .ok (.imul, 1) := by decide +kernel
theorem dX12_number_64 : decode cX12_number 64 = .ok (.aload_n 0, 1) := by decide +kernel
theorem dX12_number_65 : decode cX12_number 65 = .ok (.aload_n 0, 1) := by decide +kernel
theorem dX12_number_66 : decode cX12_number 66 = .ok (.getfield 103, 3) := by decide +kernel
theorem dX12_number_69 : decode cX12_number 69 = .ok (.invokevirtual 106, 3) := by decide +kernel
theorem dX12_number_72 : decode cX12_number 72 = .ok (.iadd, 1) := by decide +kernel
theorem dX12_number_73 : decode cX12_number 73 = .ok (.bipush 48, 2) := by decide +kernel
theorem dX12_number_75 : decode cX12_number 75 = .ok (.isub, 1) := by decide +kernel
theorem dX12_number_76 : decode cX12_number 76 = .ok (.istore 5, 2) := by decide +kernel
theorem dX12_number_78 : decode cX12_number 78 = .ok (.iload 5, 2) := by decide +kernel
theorem dX12_number_80 : decode cX12_number 80 = .ok (.ldc 127, 2) := by decide +kernel
theorem dX12_number_82 : decode cX12_number 82 = .ok (.if_icmp .le 8, 3) := by decide +kernel
theorem dX12_number_85 : decode cX12_number 85 = .ok (.ldc 127, 2) := by decide +kernel
theorem dX12_number_87 : decode cX12_number 87 = .ok (.goto 5, 3) := by decide +kernel
theorem dX12_number_90 : decode cX12_number 90 = .ok (.iload 5, 2) := by decide +kernel
theorem dX12_number_92 : decode cX12_number 92 = .ok (.istore 5, 2) := by decide +kernel
theorem dX12_number_94 : decode cX12_number 94 = .ok (.aload_n 0, 1) := by decide +kernel
theorem dX12_number_95 : decode cX12_number 95 = .ok (.dup, 1) := by decide +kernel
theorem dX12_number_96 : decode cX12_number 96 = .ok (.getfield 103, 3) := by decide +kernel
theorem dX12_number_99 : decode cX12_number 99 = .ok (.iconst 1, 1) := by decide +kernel
theorem dX12_number_100 : decode cX12_number 100 = .ok (.iadd, 1) := by decide +kernel
theorem dX12_number_101 : decode cX12_number 101 = .ok (.putfield 103, 3) := by decide +kernel
theorem dX12_number_104 : decode cX12_number 104 = .ok (.goto (-59), 3) := by decide +kernel
theorem dX12_number_107 : decode cX12_number 107 = .ok (.iload 5, 2) := by decide +kernel
theorem dX12_number_109 : decode cX12_number 109 = .ok (.iload_n 1, 1) := by decide +kernel
theorem dX12_number_110 : decode cX12_number 110 = .ok (.iload_n 2, 1) := by decide +kernel
theorem dX12_number_111 : decode cX12_number 111 = .ok (.invokestatic 128, 3) := by decide +kernel
theorem dX12_number_114 : decode cX12_number 114 = .ok (.ifCond .eq 9, 3) := by decide +kernel
theorem dX12_number_117 : decode cX12_number 117 = .ok (.iload 5, 2) := by decide +kernel
theorem dX12_number_119 : decode cX12_number 119 = .ok (.iload_n 3, 1) := by decide +kernel
theorem dX12_number_120 : decode cX12_number 120 = .ok (.if_icmp .ne 10, 3) := by decide +kernel
theorem dX12_number_123 : decode cX12_number 123 = .ok (.aload_n 0, 1) := by decide +kernel
theorem dX12_number_124 : decode cX12_number 124 = .ok (.iconst 2, 1) := by decide +kernel
theorem dX12_number_125 : decode cX12_number 125 = .ok (.iload 4, 2) := by decide +kernel
theorem dX12_number_127 : decode cX12_number 127 = .ok (.invokevirtual 123, 3) := by decide +kernel
theorem dX12_number_130 : decode cX12_number 130 = .ok (.iload 5, 2) := by decide +kernel
theorem dX12_number_132 : decode cX12_number 132 = .ok (.ireturn, 1) := by decide +kernel
theorem dX12_wordHere_0 : decode cX12_wordHere 0 = .ok (.aload_n 0, 1) := by decide +kernel
theorem dX12_wordHere_1 : decode cX12_wordHere 1 = .ok (.invokevirtual 116, 3) := by decide +kernel
theorem dX12_wordHere_4 : decode cX12_wordHere 4 = .ok (.iconst 0, 1) := by decide +kernel
theorem dX12_wordHere_5 : decode cX12_wordHere 5 = .ok (.istore_n 1, 1) := by decide +kernel
theorem dX12_wordHere_6 : decode cX12_wordHere 6 = .ok (.iconst 0, 1) := by decide +kernel
theorem dX12_wordHere_7 : decode cX12_wordHere 7 = .ok (.istore_n 2, 1) := by decide +kernel
theorem dX12_wordHere_8 : decode cX12_wordHere 8 = .ok (.aload_n 0, 1) := by decide +kernel
theorem dX12_wordHere_9 : decode cX12_wordHere 9 = .ok (.aload_n 0, 1) := by decide +kernel
theorem dX12_wordHere_10 : decode cX12_wordHere 10 = .ok (.getfield 103, 3) := by decide +kernel
theorem dX12_wordHere_13 : decode cX12_wordHere 13 = .ok (.iload_n 2, 1) := by decide +kernel
theorem dX12_wordHere_14 : decode cX12_wordHere 14 = .ok (.iadd, 1) := by decide +kernel
theorem dX12_wordHere_15 : decode cX12_wordHere 15 = .ok (.invokevirtual 106, 3) := by decide +kernel
theorem dX12_wordHere_18 : decode cX12_wordHere 18 = .ok (.bipush 97, 2) := by decide +kernel
theorem dX12_wordHere_20 : decode cX12_wordHere 20 = .ok (.if_icmp .lt 55, 3) := by decide +kernel
theorem dX12_wordHere_23 : decode cX12_wordHere 23 = .ok (.aload_n 0, 1) := by decide +kernel
theorem dX12_wordHere_24 : decode cX12_wordHere 24 = .ok (.aload_n 0, 1) := by decide +kernel
theorem dX12_wordHere_25 : decode cX12_wordHere 25 = .ok (.getfield 103, 3) := by decide +kernel
theorem dX12_wordHere_28 : decode cX12_wordHere 28 = .ok (.iload_n 2, 1) := by decide +kernel
theorem dX12_wordHere_29 : decode cX12_wordHere 29 = .ok (.iadd, 1) := by decide +kernel
theorem dX12_wordHere_30 : decode cX12_wordHere 30 = .ok (.invokevirtual 106, 3) := by decide +kernel
theorem dX12_wordHere_33 : decode cX12_wordHere 33 = .ok (.bipush 122, 2) := by decide +kernel
theorem dX12_wordHere_35 : decode cX12_wordHere 35 = .ok (.if_icmp .gt 40, 3) := by decide +kernel
theorem dX12_wordHere_38 : decode cX12_wordHere 38 = .ok (.iload_n 2, 1) := by decide +kernel
theorem dX12_wordHere_39 : decode cX12_wordHere 39 = .ok (.bipush 6, 2) := by decide +kernel
theorem dX12_wordHere_41 : decode cX12_wordHere 41 = .ok (.if_icmp .ge 26, 3) := by decide +kernel
theorem dX12_wordHere_44 : decode cX12_wordHere 44 = .ok (.bipush 27, 2) := by decide +kernel
theorem dX12_wordHere_46 : decode cX12_wordHere 46 = .ok (.iload_n 1, 1) := by decide +kernel
theorem dX12_wordHere_47 : decode cX12_wordHere 47 = .ok (.imul, 1) := by decide +kernel
theorem dX12_wordHere_48 : decode cX12_wordHere 48 = .ok (.aload_n 0, 1) := by decide +kernel
theorem dX12_wordHere_49 : decode cX12_wordHere 49 = .ok (.aload_n 0, 1) := by decide +kernel
theorem dX12_wordHere_50 : decode cX12_wordHere 50 = .ok (.getfield 103, 3) := by decide +kernel
theorem dX12_wordHere_53 : decode cX12_wordHere 53 = .ok (.iload_n 2, 1) := by decide +kernel
theorem dX12_wordHere_54 : decode cX12_wordHere 54 = .ok (.iadd, 1) := by decide +kernel
theorem dX12_wordHere_55 : decode cX12_wordHere 55 = .ok (.invokevirtual 106, 3) := by decide +kernel
theorem dX12_wordHere_58 : decode cX12_wordHere 58 = .ok (.iadd, 1) := by decide +kernel
theorem dX12_wordHere_59 : decode cX12_wordHere 59 = .ok (.bipush 97, 2) := by decide +kernel
theorem dX12_wordHere_61 : decode cX12_wordHere 61 = .ok (.isub, 1) := by decide +kernel
theorem dX12_wordHere_62 : decode cX12_wordHere 62 = .ok (.iconst 1, 1) := by decide +kernel
theorem dX12_wordHere_63 : decode cX12_wordHere 63 = .ok (.iadd, 1) := by decide +kernel
theorem dX12_wordHere_64 : decode cX12_wordHere 64 = .ok (.goto 4, 3) := by decide +kernel
theorem dX12_wordHere_67 : decode cX12_wordHere 67 = .ok (.iload_n 1, 1) := by decide +kernel
theorem dX12_wordHere_68 : decode cX12_wordHere 68 = .ok (.istore_n 1, 1) := by decide +kernel
theorem dX12_wordHere_69 : decode cX12_wordHere 69 = .ok (.iinc 2 1, 3) := by decide +kernel
theorem dX12_wordHere_72 : decode cX12_wordHere 72 = .ok (.goto (-64), 3) := by decide +kernel
theorem dX12_wordHere_75 : decode cX12_wordHere 75 = .ok (.iload_n 2, 1) := by decide +kernel
theorem dX12_wordHere_76 : decode cX12_wordHere 76 = .ok (.bipush 6, 2) := by decide +kernel
theorem dX12_wordHere_78 : decode cX12_wordHere 78 = .ok (.if_icmp .le 7, 3) := by decide +kernel
theorem dX12_wordHere_81 : decode cX12_wordHere 81 = .ok (.iconst (-1), 1) := by decide +kernel
theorem dX12_wordHere_82 : decode cX12_wordHere 82 = .ok (.goto 4, 3) := by decide +kernel
theorem dX12_wordHere_85 : decode cX12_wordHere 85 = .ok (.iload_n 1, 1) := by decide +kernel
theorem dX12_wordHere_86 : decode cX12_wordHere 86 = .ok (.ireturn, 1) := by decide +kernel
theorem dX12_word_0 : decode cX12_word 0 = .ok (.bipush 27, 2) := by decide +kernel
theorem dX12_word_2 : decode cX12_word 2 = .ok (.iload_n 0, 1) := by decide +kernel
theorem dX12_word_3 : decode cX12_word 3 = .ok (.imul, 1) := by decide +kernel
theorem dX12_word_4 : decode cX12_word 4 = .ok (.iload_n 1, 1) := by decide +kernel
theorem dX12_word_5 : decode cX12_word 5 = .ok (.iadd, 1) := by decide +kernel
theorem dX12_word_6 : decode cX12_word 6 = .ok (.istore 6, 2) := by decide +kernel
theorem dX12_word_8 : decode cX12_word 8 = .ok (.iload_n 2, 1) := by decide +kernel
theorem dX12_word_9 : decode cX12_word 9 = .ok (.ifCond .ne 8, 3) := by decide +kernel
theorem dX12_word_12 : decode cX12_word 12 = .ok (.iload 6, 2) := by decide +kernel
theorem dX12_word_14 : decode cX12_word 14 = .ok (.goto 10, 3) := by decide +kernel
theorem dX12_word_17 : decode cX12_word 17 = .ok (.bipush 27, 2) := by decide +kernel
theorem dX12_word_19 : decode cX12_word 19 = .ok (.iload 6, 2) := by decide +kernel
theorem dX12_word_21 : decode cX12_word 21 = .ok (.imul, 1) := by decide +kernel
theorem dX12_word_22 : decode cX12_word 22 = .ok (.iload_n 2, 1) := by decide +kernel
theorem dX12_word_23 : decode cX12_word 23 = .ok (.iadd, 1) := by decide +kernel
theorem dX12_word_24 : decode cX12_word 24 = .ok (.istore 6, 2) := by decide +kernel
theorem dX12_word_26 : decode cX12_word 26 = .ok (.iload_n 3, 1) := by decide +kernel
theorem dX12_word_27 : decode cX12_word 27 = .ok (.ifCond .ne 8, 3) := by decide +kernel
theorem dX12_word_30 : decode cX12_word 30 = .ok (.iload 6, 2) := by decide +kernel
theorem dX12_word_32 : decode cX12_word 32 = .ok (.goto 10, 3) := by decide +kernel
theorem dX12_word_35 : decode cX12_word 35 = .ok (.bipush 27, 2) := by decide +kernel
theorem dX12_word_37 : decode cX12_word 37 = .ok (.iload 6, 2) := by decide +kernel
theorem dX12_word_39 : decode cX12_word 39 = .ok (.imul, 1) := by decide +kernel
theorem dX12_word_40 : decode cX12_word 40 = .ok (.iload_n 3, 1) := by decide +kernel
theorem dX12_word_41 : decode cX12_word 41 = .ok (.iadd, 1) := by decide +kernel
theorem dX12_word_42 : decode cX12_word 42 = .ok (.istore 6, 2) := by decide +kernel
theorem dX12_word_44 : decode cX12_word 44 = .ok (.iload 4, 2) := by decide +kernel
theorem dX12_word_46 : decode cX12_word 46 = .ok (.ifCond .ne 8, 3) := by decide +kernel
theorem dX12_word_49 : decode cX12_word 49 = .ok (.iload 6, 2) := by decide +kernel
theorem dX12_word_51 : decode cX12_word 51 = .ok (.goto 11, 3) := by decide +kernel
theorem dX12_word_54 : decode cX12_word 54 = .ok (.bipush 27, 2) := by decide +kernel
theorem dX12_word_56 : decode cX12_word 56 = .ok (.iload 6, 2) := by decide +kernel
theorem dX12_word_58 : decode cX12_word 58 = .ok (.imul, 1) := by decide +kernel
theorem dX12_word_59 : decode cX12_word 59 = .ok (.iload 4, 2) := by decide +kernel
theorem dX12_word_61 : decode cX12_word 61 = .ok (.iadd, 1) := by decide +kernel
theorem dX12_word_62 : decode cX12_word 62 = .ok (.istore 6, 2) := by decide +kernel
theorem dX12_word_64 : decode cX12_word 64 = .ok (.iload 5, 2) := by decide +kernel
theorem dX12_word_66 : decode cX12_word 66 = .ok (.ifCond .ne 8, 3) := by decide +kernel
theorem dX12_word_69 : decode cX12_word 69 = .ok (.iload 6, 2) := by decide +kernel
theorem dX12_word_71 : decode cX12_word 71 = .ok (.goto 11, 3) := by decide +kernel
theorem dX12_word_74 : decode cX12_word 74 = .ok (.bipush 27, 2) := by decide +kernel
theorem dX12_word_76 : decode cX12_word 76 = .ok (.iload 6, 2) := by decide +kernel
theorem dX12_word_78 : decode cX12_word 78 = .ok (.imul, 1) := by decide +kernel
theorem dX12_word_79 : decode cX12_word 79 = .ok (.iload 5, 2) := by decide +kernel
theorem dX12_word_81 : decode cX12_word 81 = .ok (.iadd, 1) := by decide +kernel
theorem dX12_word_82 : decode cX12_word 82 = .ok (.ireturn, 1) := by decide +kernel
theorem dX12_isWord_0 : decode cX12_isWord 0 = .ok (.aload_n 0, 1) := by decide +kernel
theorem dX12_isWord_1 : decode cX12_isWord 1 = .ok (.invokevirtual 132, 3) := by decide +kernel
theorem dX12_isWord_4 : decode cX12_isWord 4 = .ok (.iload_n 1, 1) := by decide +kernel
theorem dX12_isWord_5 : decode cX12_isWord 5 = .ok (.iload_n 2, 1) := by decide +kernel
theorem dX12_isWord_6 : decode cX12_isWord 6 = .ok (.iload_n 3, 1) := by decide +kernel
theorem dX12_isWord_7 : decode cX12_isWord 7 = .ok (.iload 4, 2) := by decide +kernel
theorem dX12_isWord_9 : decode cX12_isWord 9 = .ok (.iload 5, 2) := by decide +kernel
theorem dX12_isWord_11 : decode cX12_isWord 11 = .ok (.iload 6, 2) := by decide +kernel
theorem dX12_isWord_13 : decode cX12_isWord 13 = .ok (.invokestatic 136, 3) := by decide +kernel
theorem dX12_isWord_16 : decode cX12_isWord 16 = .ok (.if_icmp .ne 7, 3) := by decide +kernel
theorem dX12_isWord_19 : decode cX12_isWord 19 = .ok (.iconst 1, 1) := by decide +kernel
theorem dX12_isWord_20 : decode cX12_isWord 20 = .ok (.goto 4, 3) := by decide +kernel
theorem dX12_isWord_23 : decode cX12_isWord 23 = .ok (.iconst 0, 1) := by decide +kernel
theorem dX12_isWord_24 : decode cX12_isWord 24 = .ok (.ireturn, 1) := by decide +kernel
theorem dX12_skipWord_0 : decode cX12_skipWord 0 = .ok (.aload_n 0, 1) := by decide +kernel
theorem dX12_skipWord_1 : decode cX12_skipWord 1 = .ok (.aload_n 0, 1) := by decide +kernel
theorem dX12_skipWord_2 : decode cX12_skipWord 2 = .ok (.getfield 103, 3) := by decide +kernel
theorem dX12_skipWord_5 : decode cX12_skipWord 5 = .ok (.invokevirtual 106, 3) := by decide +kernel
theorem dX12_skipWord_8 : decode cX12_skipWord 8 = .ok (.bipush 97, 2) := by decide +kernel
theorem dX12_skipWord_10 : decode cX12_skipWord 10 = .ok (.if_icmp .lt 29, 3) := by decide +kernel
theorem dX12_skipWord_13 : decode cX12_skipWord 13 = .ok (.aload_n 0, 1) := by decide +kernel
theorem dX12_skipWord_14 : decode cX12_skipWord 14 = .ok (.aload_n 0, 1) := by decide +kernel
theorem dX12_skipWord_15 : decode cX12_skipWord 15 = .ok (.getfield 103, 3) := by decide +kernel
theorem dX12_skipWord_18 : decode cX12_skipWord 18 = .ok (.invokevirtual 106, 3) := by decide +kernel
theorem dX12_skipWord_21 : decode cX12_skipWord 21 = .ok (.bipush 122, 2) := by decide +kernel
theorem dX12_skipWord_23 : decode cX12_skipWord 23 = .ok (.if_icmp .gt 16, 3) := by decide +kernel
theorem dX12_skipWord_26 : decode cX12_skipWord 26 = .ok (.aload_n 0, 1) := by decide +kernel
theorem dX12_skipWord_27 : decode cX12_skipWord 27 = .ok (.dup, 1) := by decide +kernel
theorem dX12_skipWord_28 : decode cX12_skipWord 28 = .ok (.getfield 103, 3) := by decide +kernel
theorem dX12_skipWord_31 : decode cX12_skipWord 31 = .ok (.iconst 1, 1) := by decide +kernel
theorem dX12_skipWord_32 : decode cX12_skipWord 32 = .ok (.iadd, 1) := by decide +kernel
theorem dX12_skipWord_33 : decode cX12_skipWord 33 = .ok (.putfield 103, 3) := by decide +kernel
theorem dX12_skipWord_36 : decode cX12_skipWord 36 = .ok (.goto (-36), 3) := by decide +kernel
theorem dX12_skipWord_39 : decode cX12_skipWord 39 = .ok (.return_, 1) := by decide +kernel
theorem dX12_sign_0 : decode cX12_sign 0 = .ok (.aload_n 0, 1) := by decide +kernel
theorem dX12_sign_1 : decode cX12_sign 1 = .ok (.getfield 110, 3) := by decide +kernel
theorem dX12_sign_4 : decode cX12_sign 4 = .ok (.ifCond .eq 4, 3) := by decide +kernel
theorem dX12_sign_7 : decode cX12_sign 7 = .ok (.return_, 1) := by decide +kernel
theorem dX12_sign_8 : decode cX12_sign 8 = .ok (.aload_n 0, 1) := by decide +kernel
theorem dX12_sign_9 : decode cX12_sign 9 = .ok (.invokevirtual 116, 3) := by decide +kernel
theorem dX12_sign_12 : decode cX12_sign 12 = .ok (.aload_n 0, 1) := by decide +kernel
theorem dX12_sign_13 : decode cX12_sign 13 = .ok (.aload_n 0, 1) := by decide +kernel
theorem dX12_sign_14 : decode cX12_sign 14 = .ok (.getfield 103, 3) := by decide +kernel
theorem dX12_sign_17 : decode cX12_sign 17 = .ok (.invokevirtual 106, 3) := by decide +kernel
theorem dX12_sign_20 : decode cX12_sign 20 = .ok (.iload_n 1, 1) := by decide +kernel
theorem dX12_sign_21 : decode cX12_sign 21 = .ok (.if_icmp .ne 16, 3) := by decide +kernel
theorem dX12_sign_24 : decode cX12_sign 24 = .ok (.aload_n 0, 1) := by decide +kernel
theorem dX12_sign_25 : decode cX12_sign 25 = .ok (.dup, 1) := by decide +kernel
theorem dX12_sign_26 : decode cX12_sign 26 = .ok (.getfield 103, 3) := by decide +kernel
theorem dX12_sign_29 : decode cX12_sign 29 = .ok (.iconst 1, 1) := by decide +kernel
theorem dX12_sign_30 : decode cX12_sign 30 = .ok (.iadd, 1) := by decide +kernel
theorem dX12_sign_31 : decode cX12_sign 31 = .ok (.putfield 103, 3) := by decide +kernel
theorem dX12_sign_34 : decode cX12_sign 34 = .ok (.goto 12, 3) := by decide +kernel
theorem dX12_sign_37 : decode cX12_sign 37 = .ok (.aload_n 0, 1) := by decide +kernel
theorem dX12_sign_38 : decode cX12_sign 38 = .ok (.iconst 1, 1) := by decide +kernel
theorem dX12_sign_39 : decode cX12_sign 39 = .ok (.aload_n 0, 1) := by decide +kernel
theorem dX12_sign_40 : decode cX12_sign 40 = .ok (.getfield 103, 3) := by decide +kernel
theorem dX12_sign_43 : decode cX12_sign 43 = .ok (.invokevirtual 123, 3) := by decide +kernel
theorem dX12_sign_46 : decode cX12_sign 46 = .ok (.return_, 1) := by decide +kernel
theorem dX12_clauseHere_0 : decode cX12_clauseHere 0 = .ok (.aload_n 0, 1) := by decide +kernel
theorem dX12_clauseHere_1 : decode cX12_clauseHere 1 = .ok (.bipush 19, 2) := by decide +kernel
theorem dX12_clauseHere_3 : decode cX12_clauseHere 3 = .ok (.bipush 8, 2) := by decide +kernel
theorem dX12_clauseHere_5 : decode cX12_clauseHere 5 = .ok (.iconst 5, 1) := by decide +kernel
theorem dX12_clauseHere_6 : decode cX12_clauseHere 6 = .ok (.iconst 4, 1) := by decide +kernel
theorem dX12_clauseHere_7 : decode cX12_clauseHere 7 = .ok (.iconst 0, 1) := by decide +kernel
theorem dX12_clauseHere_8 : decode cX12_clauseHere 8 = .ok (.iconst 0, 1) := by decide +kernel
theorem dX12_clauseHere_9 : decode cX12_clauseHere 9 = .ok (.invokevirtual 140, 3) := by decide +kernel
theorem dX12_clauseHere_12 : decode cX12_clauseHere 12 = .ok (.ifCond .eq 5, 3) := by decide +kernel
theorem dX12_clauseHere_15 : decode cX12_clauseHere 15 = .ok (.iconst 0, 1) := by decide +kernel
theorem dX12_clauseHere_16 : decode cX12_clauseHere 16 = .ok (.ireturn, 1) := by decide +kernel
theorem dX12_clauseHere_17 : decode cX12_clauseHere 17 = .ok (.aload_n 0, 1) := by decide +kernel
theorem dX12_clauseHere_18 : decode cX12_clauseHere 18 = .ok (.bipush 8, 2) := by decide +kernel
theorem dX12_clauseHere_20 : decode cX12_clauseHere 20 = .ok (.bipush 15, 2) := by decide +kernel
theorem dX12_clauseHere_22 : decode cX12_clauseHere 22 = .ok (.bipush 12, 2) := by decide +kernel
theorem dX12_clauseHere_24 : decode cX12_clauseHere 24 = .ok (.iconst 4, 1) := by decide +kernel
theorem dX12_clauseHere_25 : decode cX12_clauseHere 25 = .ok (.iconst 0, 1) := by decide +kernel
theorem dX12_clauseHere_26 : decode cX12_clauseHere 26 = .ok (.iconst 0, 1) := by decide +kernel
theorem dX12_clauseHere_27 : decode cX12_clauseHere 27 = .ok (.invokevirtual 140, 3) := by decide +kernel
theorem dX12_clauseHere_30 : decode cX12_clauseHere 30 = .ok (.ifCond .eq 5, 3) := by decide +kernel
theorem dX12_clauseHere_33 : decode cX12_clauseHere 33 = .ok (.iconst 1, 1) := by decide +kernel
theorem dX12_clauseHere_34 : decode cX12_clauseHere 34 = .ok (.ireturn, 1) := by decide +kernel
theorem dX12_clauseHere_35 : decode cX12_clauseHere 35 = .ok (.aload_n 0, 1) := by decide +kernel
theorem dX12_clauseHere_36 : decode cX12_clauseHere 36 = .ok (.bipush 23, 2) := by decide +kernel
theorem dX12_clauseHere_38 : decode cX12_clauseHere 38 = .ok (.iconst 1, 1) := by decide +kernel
theorem dX12_clauseHere_39 : decode cX12_clauseHere 39 = .ok (.bipush 19, 2) := by decide +kernel
theorem dX12_clauseHere_41 : decode cX12_clauseHere 41 = .ok (.bipush 8, 2) := by decide +kernel
theorem dX12_clauseHere_43 : decode cX12_clauseHere 43 = .ok (.iconst 0, 1) := by decide +kernel
theorem dX12_clauseHere_44 : decode cX12_clauseHere 44 = .ok (.iconst 0, 1) := by decide +kernel
theorem dX12_clauseHere_45 : decode cX12_clauseHere 45 = .ok (.invokevirtual 140, 3) := by decide +kernel
theorem dX12_clauseHere_48 : decode cX12_clauseHere 48 = .ok (.ifCond .eq 5, 3) := by decide +kernel
theorem dX12_clauseHere_51 : decode cX12_clauseHere 51 = .ok (.iconst 2, 1) := by decide +kernel
theorem dX12_clauseHere_52 : decode cX12_clauseHere 52 = .ok (.ireturn, 1) := by decide +kernel
theorem dX12_clauseHere_53 : decode cX12_clauseHere 53 = .ok (.aload_n 0, 1) := by decide +kernel
theorem dX12_clauseHere_54 : decode cX12_clauseHere 54 = .ok (.bipush 16, 2) := by decide +kernel
theorem dX12_clauseHere_56 : decode cX12_clauseHere 56 = .ok (.iconst 1, 1) := by decide +kernel
theorem dX12_clauseHere_57 : decode cX12_clauseHere 57 = .ok (.bipush 19, 2) := by decide +kernel
theorem dX12_clauseHere_59 : decode cX12_clauseHere 59 = .ok (.bipush 19, 2) := by decide +kernel
theorem dX12_clauseHere_61 : decode cX12_clauseHere 61 = .ok (.iconst 0, 1) := by decide +kernel
theorem dX12_clauseHere_62 : decode cX12_clauseHere 62 = .ok (.iconst 0, 1) := by decide +kernel
theorem dX12_clauseHere_63 : decode cX12_clauseHere 63 = .ok (.invokevirtual 140, 3) := by decide +kernel
theorem dX12_clauseHere_66 : decode cX12_clauseHere 66 = .ok (.ifCond .eq 5, 3) := by decide +kernel
theorem dX12_clauseHere_69 : decode cX12_clauseHere 69 = .ok (.iconst 3, 1) := by decide +kernel
theorem dX12_clauseHere_70 : decode cX12_clauseHere 70 = .ok (.ireturn, 1) := by decide +kernel
theorem dX12_clauseHere_71 : decode cX12_clauseHere 71 = .ok (.aload_n 0, 1) := by decide +kernel
theorem dX12_clauseHere_72 : decode cX12_clauseHere 72 = .ok (.bipush 20, 2) := by decide +kernel
