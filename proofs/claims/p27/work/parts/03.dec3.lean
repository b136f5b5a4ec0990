theorem dL_write_0 : decode cL_write 0 = .ok (.aload 5, 2) := by decide +kernel
theorem dL_write_2 : decode cL_write 2 = .ok (.aload_n 0, 1) := by decide +kernel
theorem dL_write_3 : decode cL_write 3 = .ok (.iload_n 1, 1) := by decide +kernel
theorem dL_write_4 : decode cL_write 4 = .ok (.iload_n 2, 1) := by decide +kernel
theorem dL_write_5 : decode cL_write 5 = .ok (.iload_n 3, 1) := by decide +kernel
theorem dL_write_6 : decode cL_write 6 = .ok (.iload 4, 2) := by decide +kernel
theorem dL_write_8 : decode cL_write 8 = .ok (.invokevirtual 7, 3) := by decide +kernel
theorem dL_write_11 : decode cL_write 11 = .ok (.i2l, 1) := by decide +kernel
theorem dL_write_12 : decode cL_write 12 = .ok (.putfield 13, 3) := by decide +kernel
theorem dL_write_15 : decode cL_write 15 = .ok (.goto 15, 3) := by decide +kernel
theorem dL_write_18 : decode cL_write 18 = .ok (.astore 6, 2) := by decide +kernel
theorem dL_write_20 : decode cL_write 20 = .ok (.iconst 1, 1) := by decide +kernel
theorem dL_write_21 : decode cL_write 21 = .ok (.ireturn, 1) := by decide +kernel
theorem dL_write_22 : decode cL_write 22 = .ok (.astore 6, 2) := by decide +kernel
theorem dL_write_24 : decode cL_write 24 = .ok (.iconst 2, 1) := by decide +kernel
theorem dL_write_25 : decode cL_write 25 = .ok (.ireturn, 1) := by decide +kernel
theorem dL_write_26 : decode cL_write 26 = .ok (.astore 6, 2) := by decide +kernel
theorem dL_write_28 : decode cL_write 28 = .ok (.iconst 3, 1) := by decide +kernel
theorem dL_write_29 : decode cL_write 29 = .ok (.ireturn, 1) := by decide +kernel
theorem dL_write_30 : decode cL_write 30 = .ok (.iconst 0, 1) := by decide +kernel
theorem dL_write_31 : decode cL_write 31 = .ok (.ireturn, 1) := by decide +kernel
theorem dL_fill_0 : decode cL_fill 0 = .ok (.aload 4, 2) := by decide +kernel
theorem dL_fill_2 : decode cL_fill 2 = .ok (.aload_n 0, 1) := by decide +kernel
theorem dL_fill_3 : decode cL_fill 3 = .ok (.iload_n 1, 1) := by decide +kernel
theorem dL_fill_4 : decode cL_fill 4 = .ok (.iload_n 2, 1) := by decide +kernel
theorem dL_fill_5 : decode cL_fill 5 = .ok (.iload_n 3, 1) := by decide +kernel
theorem dL_fill_6 : decode cL_fill 6 = .ok (.invokevirtual 25, 3) := by decide +kernel
theorem dL_fill_9 : decode cL_fill 9 = .ok (.i2l, 1) := by decide +kernel
theorem dL_fill_10 : decode cL_fill 10 = .ok (.putfield 13, 3) := by decide +kernel
theorem dL_fill_13 : decode cL_fill 13 = .ok (.goto 11, 3) := by decide +kernel
theorem dL_fill_16 : decode cL_fill 16 = .ok (.astore 5, 2) := by decide +kernel
theorem dL_fill_18 : decode cL_fill 18 = .ok (.iconst 1, 1) := by decide +kernel
theorem dL_fill_19 : decode cL_fill 19 = .ok (.ireturn, 1) := by decide +kernel
theorem dL_fill_20 : decode cL_fill 20 = .ok (.astore 5, 2) := by decide +kernel
theorem dL_fill_22 : decode cL_fill 22 = .ok (.iconst 2, 1) := by decide +kernel
theorem dL_fill_23 : decode cL_fill 23 = .ok (.ireturn, 1) := by decide +kernel
theorem dL_fill_24 : decode cL_fill 24 = .ok (.iconst 0, 1) := by decide +kernel
theorem dL_fill_25 : decode cL_fill 25 = .ok (.ireturn, 1) := by decide +kernel
theorem dL_cut_0 : decode cL_cut 0 = .ok (.aload 4, 2) := by decide +kernel
theorem dL_cut_2 : decode cL_cut 2 = .ok (.aload_n 0, 1) := by decide +kernel
theorem dL_cut_3 : decode cL_cut 3 = .ok (.iload_n 1, 1) := by decide +kernel
theorem dL_cut_4 : decode cL_cut 4 = .ok (.iload_n 2, 1) := by decide +kernel
theorem dL_cut_5 : decode cL_cut 5 = .ok (.iload_n 3, 1) := by decide +kernel
theorem dL_cut_6 : decode cL_cut 6 = .ok (.invokevirtual 29, 3) := by decide +kernel
theorem dL_cut_9 : decode cL_cut 9 = .ok (.i2l, 1) := by decide +kernel
theorem dL_cut_10 : decode cL_cut 10 = .ok (.putfield 13, 3) := by decide +kernel
theorem dL_cut_13 : decode cL_cut 13 = .ok (.goto 11, 3) := by decide +kernel
theorem dL_cut_16 : decode cL_cut 16 = .ok (.astore 5, 2) := by decide +kernel
theorem dL_cut_18 : decode cL_cut 18 = .ok (.iconst 1, 1) := by decide +kernel
theorem dL_cut_19 : decode cL_cut 19 = .ok (.ireturn, 1) := by decide +kernel
theorem dL_cut_20 : decode cL_cut 20 = .ok (.astore 5, 2) := by decide +kernel
theorem dL_cut_22 : decode cL_cut 22 = .ok (.iconst 2, 1) := by decide +kernel
theorem dL_cut_23 : decode cL_cut 23 = .ok (.ireturn, 1) := by decide +kernel
theorem dL_cut_24 : decode cL_cut 24 = .ok (.iconst 0, 1) := by decide +kernel
theorem dL_cut_25 : decode cL_cut 25 = .ok (.ireturn, 1) := by decide +kernel
theorem dL_take_0 : decode cL_take 0 = .ok (.aload 4, 2) := by decide +kernel
theorem dL_take_2 : decode cL_take 2 = .ok (.aload_n 0, 1) := by decide +kernel
theorem dL_take_3 : decode cL_take 3 = .ok (.iload_n 1, 1) := by decide +kernel
theorem dL_take_4 : decode cL_take 4 = .ok (.iload_n 2, 1) := by decide +kernel
theorem dL_take_5 : decode cL_take 5 = .ok (.iload_n 3, 1) := by decide +kernel
theorem dL_take_6 : decode cL_take 6 = .ok (.invokevirtual 32, 3) := by decide +kernel
theorem dL_take_9 : decode cL_take 9 = .ok (.i2l, 1) := by decide +kernel
theorem dL_take_10 : decode cL_take 10 = .ok (.putfield 13, 3) := by decide +kernel
theorem dL_take_13 : decode cL_take 13 = .ok (.goto 11, 3) := by decide +kernel
theorem dL_take_16 : decode cL_take 16 = .ok (.astore 5, 2) := by decide +kernel
theorem dL_take_18 : decode cL_take 18 = .ok (.iconst 1, 1) := by decide +kernel
theorem dL_take_19 : decode cL_take 19 = .ok (.ireturn, 1) := by decide +kernel
theorem dL_take_20 : decode cL_take 20 = .ok (.astore 5, 2) := by decide +kernel
theorem dL_take_22 : decode cL_take 22 = .ok (.iconst 2, 1) := by decide +kernel
theorem dL_take_23 : decode cL_take 23 = .ok (.ireturn, 1) := by decide +kernel
theorem dL_take_24 : decode cL_take 24 = .ok (.iconst 0, 1) := by decide +kernel
theorem dL_take_25 : decode cL_take 25 = .ok (.ireturn, 1) := by decide +kernel
theorem dL_put_0 : decode cL_put 0 = .ok (.aload 4, 2) := by decide +kernel
theorem dL_put_2 : decode cL_put 2 = .ok (.aload_n 0, 1) := by decide +kernel
theorem dL_put_3 : decode cL_put 3 = .ok (.iload_n 1, 1) := by decide +kernel
theorem dL_put_4 : decode cL_put 4 = .ok (.iload_n 2, 1) := by decide +kernel
theorem dL_put_5 : decode cL_put 5 = .ok (.iload_n 3, 1) := by decide +kernel
theorem dL_put_6 : decode cL_put 6 = .ok (.invokevirtual 35, 3) := by decide +kernel
theorem dL_put_9 : decode cL_put 9 = .ok (.i2l, 1) := by decide +kernel
theorem dL_put_10 : decode cL_put 10 = .ok (.putfield 13, 3) := by decide +kernel
theorem dL_put_13 : decode cL_put 13 = .ok (.goto 15, 3) := by decide +kernel
theorem dL_put_16 : decode cL_put 16 = .ok (.astore 5, 2) := by decide +kernel
theorem dL_put_18 : decode cL_put 18 = .ok (.iconst 1, 1) := by decide +kernel
theorem dL_put_19 : decode cL_put 19 = .ok (.ireturn, 1) := by decide +kernel
theorem dL_put_20 : decode cL_put 20 = .ok (.astore 5, 2) := by decide +kernel
theorem dL_put_22 : decode cL_put 22 = .ok (.iconst 2, 1) := by decide +kernel
theorem dL_put_23 : decode cL_put 23 = .ok (.ireturn, 1) := by decide +kernel
theorem dL_put_24 : decode cL_put 24 = .ok (.astore 5, 2) := by decide +kernel
theorem dL_put_26 : decode cL_put 26 = .ok (.iconst 3, 1) := by decide +kernel
theorem dL_put_27 : decode cL_put 27 = .ok (.ireturn, 1) := by decide +kernel
theorem dL_put_28 : decode cL_put 28 = .ok (.iconst 0, 1) := by decide +kernel
theorem dL_put_29 : decode cL_put 29 = .ok (.ireturn, 1) := by decide +kernel
theorem dL_copy_0 : decode cL_copy 0 = .ok (.aload_n 3, 1) := by decide +kernel
theorem dL_copy_1 : decode cL_copy 1 = .ok (.aload_n 0, 1) := by decide +kernel
theorem dL_copy_2 : decode cL_copy 2 = .ok (.iload_n 1, 1) := by decide +kernel
theorem dL_copy_3 : decode cL_copy 3 = .ok (.iload_n 2, 1) := by decide +kernel
theorem dL_copy_4 : decode cL_copy 4 = .ok (.invokevirtual 38, 3) := by decide +kernel
theorem dL_copy_7 : decode cL_copy 7 = .ok (.i2l, 1) := by decide +kernel
theorem dL_copy_8 : decode cL_copy 8 = .ok (.putfield 13, 3) := by decide +kernel
theorem dL_copy_11 : decode cL_copy 11 = .ok (.goto 7, 3) := by decide +kernel
theorem dL_copy_14 : decode cL_copy 14 = .ok (.astore 4, 2) := by decide +kernel
theorem dL_copy_16 : decode cL_copy 16 = .ok (.iconst 1, 1) := by decide +kernel
theorem dL_copy_17 : decode cL_copy 17 = .ok (.ireturn, 1) := by decide +kernel
theorem dL_copy_18 : decode cL_copy 18 = .ok (.iconst 0, 1) := by decide +kernel
theorem dL_copy_19 : decode cL_copy 19 = .ok (.ireturn, 1) := by decide +kernel
theorem dL_leave_0 : decode cL_leave 0 = .ok (.aload_n 2, 1) := by decide +kernel
theorem dL_leave_1 : decode cL_leave 1 = .ok (.aload_n 0, 1) := by decide +kernel
theorem dL_leave_2 : decode cL_leave 2 = .ok (.iload_n 1, 1) := by decide +kernel
theorem dL_leave_3 : decode cL_leave 3 = .ok (.invokevirtual 42, 3) := by decide +kernel
theorem dL_leave_6 : decode cL_leave 6 = .ok (.i2l, 1) := by decide +kernel
theorem dL_leave_7 : decode cL_leave 7 = .ok (.putfield 13, 3) := by decide +kernel
theorem dL_leave_10 : decode cL_leave 10 = .ok (.goto 6, 3) := by decide +kernel
theorem dL_leave_13 : decode cL_leave 13 = .ok (.astore_n 3, 1) := by decide +kernel
theorem dL_leave_14 : decode cL_leave 14 = .ok (.iconst 1, 1) := by decide +kernel
theorem dL_leave_15 : decode cL_leave 15 = .ok (.ireturn, 1) := by decide +kernel
theorem dL_leave_16 : decode cL_leave 16 = .ok (.iconst 0, 1) := by decide +kernel
theorem dL_leave_17 : decode cL_leave 17 = .ok (.ireturn, 1) := by decide +kernel
theorem dL_insides_0 : decode cL_insides 0 = .ok (.aload_n 3, 1) := by decide +kernel
theorem dL_insides_1 : decode cL_insides 1 = .ok (.aload_n 0, 1) := by decide +kernel
theorem dL_insides_2 : decode cL_insides 2 = .ok (.iload_n 1, 1) := by decide +kernel
theorem dL_insides_3 : decode cL_insides 3 = .ok (.iload_n 2, 1) := by decide +kernel
theorem dL_insides_4 : decode cL_insides 4 = .ok (.invokevirtual 46, 3) := by decide +kernel
theorem dL_insides_7 : decode cL_insides 7 = .ok (.i2l, 1) := by decide +kernel
theorem dL_insides_8 : decode cL_insides 8 = .ok (.putfield 13, 3) := by decide +kernel
theorem dL_insides_11 : decode cL_insides 11 = .ok (.goto 15, 3) := by decide +kernel
theorem dL_insides_14 : decode cL_insides 14 = .ok (.astore 4, 2) := by decide +kernel
theorem dL_insides_16 : decode cL_insides 16 = .ok (.iconst 1, 1) := by decide +kernel
theorem dL_insides_17 : decode cL_insides 17 = .ok (.ireturn, 1) := by decide +kernel
theorem dL_insides_18 : decode cL_insides 18 = .ok (.astore 4, 2) := by decide +kernel
theorem dL_insides_20 : decode cL_insides 20 = .ok (.iconst 2, 1) := by decide +kernel
theorem dL_insides_21 : decode cL_insides 21 = .ok (.ireturn, 1) := by decide +kernel
theorem dL_insides_22 : decode cL_insides 22 = .ok (.astore 4, 2) := by decide +kernel
theorem dL_insides_24 : decode cL_insides 24 = .ok (.iconst 3, 1) := by decide +kernel
theorem dL_insides_25 : decode cL_insides 25 = .ok (.ireturn, 1) := by decide +kernel
theorem dL_insides_26 : decode cL_insides 26 = .ok (.iconst 0, 1) := by decide +kernel
theorem dL_insides_27 : decode cL_insides 27 = .ok (.ireturn, 1) := by decide +kernel
theorem dL_text_0 : decode cL_text 0 = .ok (.aload_n 2, 1) := by decide +kernel
theorem dL_text_1 : decode cL_text 1 = .ok (.aload_n 0, 1) := by decide +kernel
theorem dL_text_2 : decode cL_text 2 = .ok (.iload_n 1, 1) := by decide +kernel
theorem dL_text_3 : decode cL_text 3 = .ok (.invokevirtual 49, 3) := by decide +kernel
theorem dL_text_6 : decode cL_text 6 = .ok (.putfield 53, 3) := by decide +kernel
theorem dL_text_9 : decode cL_text 9 = .ok (.goto 6, 3) := by decide +kernel
theorem dL_text_12 : decode cL_text 12 = .ok (.astore_n 3, 1) := by decide +kernel
theorem dL_text_13 : decode cL_text 13 = .ok (.iconst 1, 1) := by decide +kernel
theorem dL_text_14 : decode cL_text 14 = .ok (.ireturn, 1) := by decide +kernel
theorem dL_text_15 : decode cL_text 15 = .ok (.iconst 0, 1) := by decide +kernel
theorem dL_text_16 : decode cL_text 16 = .ok (.ireturn, 1) := by decide +kernel
theorem dL_length_0 : decode cL_length 0 = .ok (.aload_n 2, 1) := by decide +kernel
theorem dL_length_1 : decode cL_length 1 = .ok (.aload_n 0, 1) := by decide +kernel
theorem dL_length_2 : decode cL_length 2 = .ok (.iload_n 1, 1) := by decide +kernel
theorem dL_length_3 : decode cL_length 3 = .ok (.invokevirtual 57, 3) := by decide +kernel
theorem dL_length_6 : decode cL_length 6 = .ok (.i2l, 1) := by decide +kernel
theorem dL_length_7 : decode cL_length 7 = .ok (.putfield 13, 3) := by decide +kernel
theorem dL_length_10 : decode cL_length 10 = .ok (.goto 6, 3) := by decide +kernel
theorem dL_length_13 : decode cL_length 13 = .ok (.astore_n 3, 1) := by decide +kernel
theorem dL_length_14 : decode cL_length 14 = .ok (.iconst 1, 1) := by decide +kernel
theorem dL_length_15 : decode cL_length 15 = .ok (.ireturn, 1) := by decide +kernel
theorem dL_length_16 : decode cL_length 16 = .ok (.iconst 0, 1) := by decide +kernel
theorem dL_length_17 : decode cL_length 17 = .ok (.ireturn, 1) := by decide +kernel
theorem dL_signAt_0 : decode cL_signAt 0 = .ok (.aload_n 3, 1) := by decide +kernel
theorem dL_signAt_1 : decode cL_signAt 1 = .ok (.aload_n 0, 1) := by decide +kernel
theorem dL_signAt_2 : decode cL_signAt 2 = .ok (.iload_n 1, 1) := by decide +kernel
theorem dL_signAt_3 : decode cL_signAt 3 = .ok (.iload_n 2, 1) := by decide +kernel
theorem dL_signAt_4 : decode cL_signAt 4 = .ok (.invokevirtual 60, 3) := by decide +kernel
theorem dL_signAt_7 : decode cL_signAt 7 = .ok (.i2l, 1) := by decide +kernel
theorem dL_signAt_8 : decode cL_signAt 8 = .ok (.putfield 13, 3) := by decide +kernel
theorem dL_signAt_11 : decode cL_signAt 11 = .ok (.goto 7, 3) := by decide +kernel
theorem dL_signAt_14 : decode cL_signAt 14 = .ok (.astore 4, 2) := by decide +kernel
theorem dL_signAt_16 : decode cL_signAt 16 = .ok (.iconst 1, 1) := by decide +kernel
theorem dL_signAt_17 : decode cL_signAt 17 = .ok (.ireturn, 1) := by decide +kernel
theorem dL_signAt_18 : decode cL_signAt 18 = .ok (.iconst 0, 1) := by decide +kernel
theorem dL_signAt_19 : decode cL_signAt 19 = .ok (.ireturn, 1) := by decide +kernel
theorem dL_part_0 : decode cL_part 0 = .ok (.aload 4, 2) := by decide +kernel
theorem dL_part_2 : decode cL_part 2 = .ok (.aload_n 0, 1) := by decide +kernel
theorem dL_part_3 : decode cL_part 3 = .ok (.iload_n 1, 1) := by decide +kernel
theorem dL_part_4 : decode cL_part 4 = .ok (.iload_n 2, 1) := by decide +kernel
theorem dL_part_5 : decode cL_part 5 = .ok (.iload_n 3, 1) := by decide +kernel
theorem dL_part_6 : decode cL_part 6 = .ok (.invokevirtual 63, 3) := by decide +kernel
theorem dL_part_9 : decode cL_part 9 = .ok (.putfield 53, 3) := by decide +kernel
theorem dL_part_12 : decode cL_part 12 = .ok (.goto 7, 3) := by decide +kernel
theorem dL_part_15 : decode cL_part 15 = .ok (.astore 5, 2) := by decide +kernel
theorem dL_part_17 : decode cL_part 17 = .ok (.iconst 1, 1) := by decide +kernel
theorem dL_part_18 : decode cL_part 18 = .ok (.ireturn, 1) := by decide +kernel
theorem dL_part_19 : decode cL_part 19 = .ok (.iconst 0, 1) := by decide +kernel
theorem dL_part_20 : decode cL_part 20 = .ok (.ireturn, 1) := by decide +kernel
theorem dL_isEmpty_0 : decode cL_isEmpty 0 = .ok (.aload_n 2, 1) := by decide +kernel
theorem dL_isEmpty_1 : decode cL_isEmpty 1 = .ok (.aload_n 0, 1) := by decide +kernel
theorem dL_isEmpty_2 : decode cL_isEmpty 2 = .ok (.iload_n 1, 1) := by decide +kernel
theorem dL_isEmpty_3 : decode cL_isEmpty 3 = .ok (.invokevirtual 67, 3) := by decide +kernel
theorem dL_isEmpty_6 : decode cL_isEmpty 6 = .ok (.ifCond .eq 7, 3) := by decide +kernel
theorem dL_isEmpty_9 : decode cL_isEmpty 9 = .ok (.lconst 1, 1) := by decide +kernel
theorem dL_isEmpty_10 : decode cL_isEmpty 10 = .ok (.goto 4, 3) := by decide +kernel
theorem dL_isEmpty_13 : decode cL_isEmpty 13 = .ok (.lconst 0, 1) := by decide +kernel
theorem dL_isEmpty_14 : decode cL_isEmpty 14 = .ok (.putfield 13, 3) := by decide +kernel
theorem dL_isEmpty_17 : decode cL_isEmpty 17 = .ok (.goto 9, 3) := by decide +kernel
theorem dL_isEmpty_20 : decode cL_isEmpty 20 = .ok (.astore_n 3, 1) := by decide +kernel
theorem dL_isEmpty_21 : decode cL_isEmpty 21 = .ok (.iconst 1, 1) := by decide +kernel
theorem dL_isEmpty_22 : decode cL_isEmpty 22 = .ok (.ireturn, 1) := by decide +kernel
theorem dL_isEmpty_23 : decode cL_isEmpty 23 = .ok (.astore_n 3, 1) := by decide +kernel
theorem dL_isEmpty_24 : decode cL_isEmpty 24 = .ok (.iconst 2, 1) := by decide +kernel
theorem dL_isEmpty_25 : decode cL_isEmpty 25 = .ok (.ireturn, 1) := by decide +kernel
theorem dL_isEmpty_26 : decode cL_isEmpty 26 = .ok (.iconst 0, 1) := by decide +kernel
theorem dL_isEmpty_27 : decode cL_isEmpty 27 = .ok (.ireturn, 1) := by decide +kernel
theorem dL_compare_0 : decode cL_compare 0 = .ok (.aload_n 3, 1) := by decide +kernel
theorem dL_compare_1 : decode cL_compare 1 = .ok (.aload_n 0, 1) := by decide +kernel
theorem dL_compare_2 : decode cL_compare 2 = .ok (.iload_n 1, 1) := by decide +kernel
theorem dL_compare_3 : decode cL_compare 3 = .ok (.iload_n 2, 1) := by decide +kernel
theorem dL_compare_4 : decode cL_compare 4 = .ok (.invokevirtual 71, 3) := by decide +kernel
theorem dL_compare_7 : decode cL_compare 7 = .ok (.i2l, 1) := by decide +kernel
theorem dL_compare_8 : decode cL_compare 8 = .ok (.putfield 13, 3) := by decide +kernel
theorem dL_compare_11 : decode cL_compare 11 = .ok (.goto 7, 3) := by decide +kernel
theorem dL_compare_14 : decode cL_compare 14 = .ok (.astore 4, 2) := by decide +kernel
theorem dL_compare_16 : decode cL_compare 16 = .ok (.iconst 1, 1) := by decide +kernel
theorem dL_compare_17 : decode cL_compare 17 = .ok (.ireturn, 1) := by decide +kernel
theorem dL_compare_18 : decode cL_compare 18 = .ok (.iconst 0, 1) := by decide +kernel
theorem dL_compare_19 : decode cL_compare 19 = .ok (.ireturn, 1) := by decide +kernel
theorem dL_compareParts_0 : decode cL_compareParts 0 = .ok (.aload 5, 2) := by decide +kernel
theorem dL_compareParts_2 : decode cL_compareParts 2 = .ok (.aload_n 0, 1) := by decide +kernel
theorem dL_compareParts_3 : decode cL_compareParts 3 = .ok (.iload_n 1, 1) := by decide +kernel
theorem dL_compareParts_4 : decode cL_compareParts 4 = .ok (.iload_n 2, 1) := by decide +kernel
theorem dL_compareParts_5 : decode cL_compareParts 5 = .ok (.iload_n 3, 1) := by decide +kernel
theorem dL_compareParts_6 : decode cL_compareParts 6 = .ok (.iload 4, 2) := by decide +kernel
theorem dL_compareParts_8 : decode cL_compareParts 8 = .ok (.invokevirtual 74, 3) := by decide +kernel
theorem dL_compareParts_11 : decode cL_compareParts 11 = .ok (.i2l, 1) := by decide +kernel
theorem dL_compareParts_12 : decode cL_compareParts 12 = .ok (.putfield 13, 3) := by decide +kernel
theorem dL_compareParts_15 : decode cL_compareParts 15 = .ok (.goto 7, 3) := by decide +kernel
theorem dL_compareParts_18 : decode cL_compareParts 18 = .ok (.astore 6, 2) := by decide +kernel
theorem dL_compareParts_20 : decode cL_compareParts 20 = .ok (.iconst 1, 1) := by decide +kernel
theorem dL_compareParts_21 : decode cL_compareParts 21 = .ok (.ireturn, 1) := by decide +kernel
theorem dL_compareParts_22 : decode cL_compareParts 22 = .ok (.iconst 0, 1) := by decide +kernel
theorem dL_compareParts_23 : decode cL_compareParts 23 = .ok (.ireturn, 1) := by decide +kernel
theorem dL_isLike_0 : decode cL_isLike 0 = .ok (.aload_n 3, 1) := by decide +kernel
theorem dL_isLike_1 : decode cL_isLike 1 = .ok (.aload_n 0, 1) := by decide +kernel
theorem dL_isLike_2 : decode cL_isLike 2 = .ok (.iload_n 1, 1) := by decide +kernel
theorem dL_isLike_3 : decode cL_isLike 3 = .ok (.iload_n 2, 1) := by decide +kernel
theorem dL_isLike_4 : decode cL_isLike 4 = .ok (.invokevirtual 77, 3) := by decide +kernel
theorem dL_isLike_7 : decode cL_isLike 7 = .ok (.i2l, 1) := by decide +kernel
theorem dL_isLike_8 : decode cL_isLike 8 = .ok (.putfield 13, 3) := by decide +kernel
theorem dL_isLike_11 : decode cL_isLike 11 = .ok (.goto 11, 3) := by decide +kernel
theorem dL_isLike_14 : decode cL_isLike 14 = .ok (.astore 4, 2) := by decide +kernel
theorem dL_isLike_16 : decode cL_isLike 16 = .ok (.iconst 1, 1) := by decide +kernel
theorem dL_isLike_17 : decode cL_isLike 17 = .ok (.ireturn, 1) := by decide +kernel
theorem dL_isLike_18 : decode cL_isLike 18 = .ok (.astore 4, 2) := by decide +kernel
theorem dL_isLike_20 : decode cL_isLike 20 = .ok (.iconst 2, 1) := by decide +kernel
theorem dL_isLike_21 : decode cL_isLike 21 = .ok (.ireturn, 1) := by decide +kernel
theorem dL_isLike_22 : decode cL_isLike 22 = .ok (.iconst 0, 1) := by decide +kernel
theorem dL_isLike_23 : decode cL_isLike 23 = .ok (.ireturn, 1) := by decide +kernel
theorem dL_order_0 : decode cL_order 0 = .ok (.aload 4, 2) := by decide +kernel
theorem dL_order_2 : decode cL_order 2 = .ok (.aload_n 0, 1) := by decide +kernel
theorem dL_order_3 : decode cL_order 3 = .ok (.iload_n 1, 1) := by decide +kernel
theorem dL_order_4 : decode cL_order 4 = .ok (.iload_n 2, 1) := by decide +kernel
theorem dL_order_5 : decode cL_order 5 = .ok (.iload_n 3, 1) := by decide +kernel
theorem dL_order_6 : decode cL_order 6 = .ok (.invokevirtual 80, 3) := by decide +kernel
theorem dL_order_9 : decode cL_order 9 = .ok (.i2l, 1) := by decide +kernel
theorem dL_order_10 : decode cL_order 10 = .ok (.putfield 13, 3) := by decide +kernel
theorem dL_order_13 : decode cL_order 13 = .ok (.goto 11, 3) := by decide +kernel
theorem dL_order_16 : decode cL_order 16 = .ok (.astore 5, 2) := by decide +kernel
theorem dL_order_18 : decode cL_order 18 = .ok (.iconst 1, 1) := by decide +kernel
theorem dL_order_19 : decode cL_order 19 = .ok (.ireturn, 1) := by decide +kernel
theorem dL_order_20 : decode cL_order 20 = .ok (.astore 5, 2) := by decide +kernel
theorem dL_order_22 : decode cL_order 22 = .ok (.iconst 2, 1) := by decide +kernel
theorem dL_order_23 : decode cL_order 23 = .ok (.ireturn, 1) := by decide +kernel
theorem dL_order_24 : decode cL_order 24 = .ok (.iconst 0, 1) := by decide +kernel
theorem dL_order_25 : decode cL_order 25 = .ok (.ireturn, 1) := by decide +kernel
theorem dL_ahead_0 : decode cL_ahead 0 = .ok (.aload_n 3, 1) := by decide +kernel
theorem dL_ahead_1 : decode cL_ahead 1 = .ok (.aload_n 0, 1) := by decide +kernel
theorem dL_ahead_2 : decode cL_ahead 2 = .ok (.iload_n 1, 1) := by decide +kernel
theorem dL_ahead_3 : decode cL_ahead 3 = .ok (.iload_n 2, 1) := by decide +kernel
theorem dL_ahead_4 : decode cL_ahead 4 = .ok (.invokevirtual 83, 3) := by decide +kernel
theorem dL_ahead_7 : decode cL_ahead 7 = .ok (.i2l, 1) := by decide +kernel
theorem dL_ahead_8 : decode cL_ahead 8 = .ok (.putfield 13, 3) := by decide +kernel
theorem dL_ahead_11 : decode cL_ahead 11 = .ok (.goto 11, 3) := by decide +kernel
theorem dL_ahead_14 : decode cL_ahead 14 = .ok (.astore 4, 2) := by decide +kernel
theorem dL_ahead_16 : decode cL_ahead 16 = .ok (.iconst 1, 1) := by decide +kernel
theorem dL_ahead_17 : decode cL_ahead 17 = .ok (.ireturn, 1) := by decide +kernel
theorem dL_ahead_18 : decode cL_ahead 18 = .ok (.astore 4, 2) := by decide +kernel
theorem dL_ahead_20 : decode cL_ahead 20 = .ok (.iconst 2, 1) := by decide +kernel
theorem dL_ahead_21 : decode cL_ahead 21 = .ok (.ireturn, 1) := by decide +kernel
theorem dL_ahead_22 : decode cL_ahead 22 = .ok (.iconst 0, 1) := by decide +kernel
theorem dL_ahead_23 : decode cL_ahead 23 = .ok (.ireturn, 1) := by decide +kernel
theorem dL_must_0 : decode cL_must 0 = .ok (.aload_n 2, 1) := by decide +kernel
theorem dL_must_1 : decode cL_must 1 = .ok (.aload_n 0, 1) := by decide +kernel
theorem dL_must_2 : decode cL_must 2 = .ok (.iload_n 1, 1) := by decide +kernel
theorem dL_must_3 : decode cL_must 3 = .ok (.invokevirtual 86, 3) := by decide +kernel
theorem dL_must_6 : decode cL_must 6 = .ok (.i2l, 1) := by decide +kernel
theorem dL_must_7 : decode cL_must 7 = .ok (.putfield 13, 3) := by decide +kernel
theorem dL_must_10 : decode cL_must 10 = .ok (.goto 6, 3) := by decide +kernel
theorem dL_must_13 : decode cL_must 13 = .ok (.astore_n 3, 1) := by decide +kernel
theorem dL_must_14 : decode cL_must 14 = .ok (.iconst 1, 1) := by decide +kernel
theorem dL_must_15 : decode cL_must 15 = .ok (.ireturn, 1) := by decide +kernel
theorem dL_must_16 : decode cL_must 16 = .ok (.iconst 0, 1) := by decide +kernel
theorem dL_must_17 : decode cL_must 17 = .ok (.ireturn, 1) := by decide +kernel
theorem dL_mustSaying_0 : decode cL_mustSaying 0 = .ok (.aload_n 2, 1) := by decide +kernel
theorem dL_mustSaying_1 : decode cL_mustSaying 1 = .ok (.aload_n 0, 1) := by decide +kernel
theorem dL_mustSaying_2 : decode cL_mustSaying 2 = .ok (.iload_n 1, 1) := by decide +kernel
theorem dL_mustSaying_3 : decode cL_mustSaying 3 = .ok (.invokevirtual 89, 3) := by decide +kernel
theorem dL_mustSaying_6 : decode cL_mustSaying 6 = .ok (.i2l, 1) := by decide +kernel
theorem dL_mustSaying_7 : decode cL_mustSaying 7 = .ok (.putfield 13, 3) := by decide +kernel
theorem dL_mustSaying_10 : decode cL_mustSaying 10 = .ok (.goto 6, 3) := by decide +kernel
theorem dL_mustSaying_13 : decode cL_mustSaying 13 = .ok (.astore_n 3, 1) := by decide +kernel
theorem dL_mustSaying_14 : decode cL_mustSaying 14 = .ok (.iconst 1, 1) := by decide +kernel
theorem dL_mustSaying_15 : decode cL_mustSaying 15 = .ok (.ireturn, 1) := by decide +kernel
theorem dL_mustSaying_16 : decode cL_mustSaying 16 = .ok (.iconst 0, 1) := by decide +kernel
theorem dL_mustSaying_17 : decode cL_mustSaying 17 = .ok (.ireturn, 1) := by decide +kernel
theorem dL_orElse_0 : decode cL_orElse 0 = .ok (.aload_n 3, 1) := by decide +kernel
theorem dL_orElse_1 : decode cL_orElse 1 = .ok (.aload_n 0, 1) := by decide +kernel
theorem dL_orElse_2 : decode cL_orElse 2 = .ok (.iload_n 1, 1) := by decide +kernel
theorem dL_orElse_3 : decode cL_orElse 3 = .ok (.iload_n 2, 1) := by decide +kernel
theorem dL_orElse_4 : decode cL_orElse 4 = .ok (.invokevirtual 92, 3) := by decide +kernel
theorem dL_orElse_7 : decode cL_orElse 7 = .ok (.putfield 53, 3) := by decide +kernel
theorem dL_orElse_10 : decode cL_orElse 10 = .ok (.goto 7, 3) := by decide +kernel
theorem dL_orElse_13 : decode cL_orElse 13 = .ok (.astore 4, 2) := by decide +kernel
theorem dL_orElse_15 : decode cL_orElse 15 = .ok (.iconst 1, 1) := by decide +kernel
theorem dL_orElse_16 : decode cL_orElse 16 = .ok (.ireturn, 1) := by decide +kernel
theorem dL_orElse_17 : decode cL_orElse 17 = .ok (.iconst 0, 1) := by decide +kernel
theorem dL_orElse_18 : decode cL_orElse 18 = .ok (.ireturn, 1) := by decide +kernel
theorem dL_orGiven_0 : decode cL_orGiven 0 = .ok (.aload_n 3, 1) := by decide +kernel
theorem dL_orGiven_1 : decode cL_orGiven 1 = .ok (.aload_n 0, 1) := by decide +kernel
theorem dL_orGiven_2 : decode cL_orGiven 2 = .ok (.iload_n 1, 1) := by decide +kernel
theorem dL_orGiven_3 : decode cL_orGiven 3 = .ok (.iload_n 2, 1) := by decide +kernel
theorem dL_orGiven_4 : decode cL_orGiven 4 = .ok (.invokevirtual 96, 3) := by decide +kernel
theorem dL_orGiven_7 : decode cL_orGiven 7 = .ok (.putfield 53, 3) := by decide +kernel
theorem dL_orGiven_10 : decode cL_orGiven 10 = .ok (.goto 7, 3) := by decide +kernel
theorem dL_orGiven_13 : decode cL_orGiven 13 = .ok (.astore 4, 2) := by decide +kernel
theorem dL_orGiven_15 : decode cL_orGiven 15 = .ok (.iconst 1, 1) := by decide +kernel
theorem dL_orGiven_16 : decode cL_orGiven 16 = .ok (.ireturn, 1) := by decide +kernel
theorem dL_orGiven_17 : decode cL_orGiven 17 = .ok (.iconst 0, 1) := by decide +kernel
theorem dL_orGiven_18 : decode cL_orGiven 18 = .ok (.ireturn, 1) := by decide +kernel
theorem dL_isMissing_0 : decode cL_isMissing 0 = .ok (.aload_n 2, 1) := by decide +kernel
theorem dL_isMissing_1 : decode cL_isMissing 1 = .ok (.aload_n 0, 1) := by decide +kernel
theorem dL_isMissing_2 : decode cL_isMissing 2 = .ok (.iload_n 1, 1) := by decide +kernel
theorem dL_isMissing_3 : decode cL_isMissing 3 = .ok (.invokevirtual 99, 3) := by decide +kernel
theorem dL_isMissing_6 : decode cL_isMissing 6 = .ok (.ifCond .eq 7, 3) := by decide +kernel
theorem dL_isMissing_9 : decode cL_isMissing 9 = .ok (.lconst 1, 1) := by decide +kernel
theorem dL_isMissing_10 : decode cL_isMissing 10 = .ok (.goto 4, 3) := by decide +kernel
theorem dL_isMissing_13 : decode cL_isMissing 13 = .ok (.lconst 0, 1) := by decide +kernel
theorem dL_isMissing_14 : decode cL_isMissing 14 = .ok (.putfield 13, 3) := by decide +kernel
theorem dL_isMissing_17 : decode cL_isMissing 17 = .ok (.goto 6, 3) := by decide +kernel
theorem dL_isMissing_20 : decode cL_isMissing 20 = .ok (.astore_n 3, 1) := by decide +kernel
theorem dL_isMissing_21 : decode cL_isMissing 21 = .ok (.iconst 1, 1) := by decide +kernel
theorem dL_isMissing_22 : decode cL_isMissing 22 = .ok (.ireturn, 1) := by decide +kernel
theorem dL_isMissing_23 : decode cL_isMissing 23 = .ok (.iconst 0, 1) := by decide +kernel
theorem dL_isMissing_24 : decode cL_isMissing 24 = .ok (.ireturn, 1) := by decide +kernel
theorem dL_isThere_0 : decode cL_isThere 0 = .ok (.aload_n 2, 1) := by decide +kernel
theorem dL_isThere_1 : decode cL_isThere 1 = .ok (.aload_n 0, 1) := by decide +kernel
theorem dL_isThere_2 : decode cL_isThere 2 = .ok (.iload_n 1, 1) := by decide +kernel
theorem dL_isThere_3 : decode cL_isThere 3 = .ok (.invokevirtual 102, 3) := by decide +kernel
theorem dL_isThere_6 : decode cL_isThere 6 = .ok (.ifCond .eq 7, 3) := by decide +kernel
theorem dL_isThere_9 : decode cL_isThere 9 = .ok (.lconst 1, 1) := by decide +kernel
theorem dL_isThere_10 : decode cL_isThere 10 = .ok (.goto 4, 3) := by decide +kernel
theorem dL_isThere_13 : decode cL_isThere 13 = .ok (.lconst 0, 1) := by decide +kernel
theorem dL_isThere_14 : decode cL_isThere 14 = .ok (.putfield 13, 3) := by decide +kernel
theorem dL_isThere_17 : decode cL_isThere 17 = .ok (.goto 6, 3) := by decide +kernel
theorem dL_isThere_20 : decode cL_isThere 20 = .ok (.astore_n 3, 1) := by decide +kernel
theorem dL_isThere_21 : decode cL_isThere 21 = .ok (.iconst 1, 1) := by decide +kernel
theorem dL_isThere_22 : decode cL_isThere 22 = .ok (.ireturn, 1) := by decide +kernel
theorem dL_isThere_23 : decode cL_isThere 23 = .ok (.iconst 0, 1) := by decide +kernel
theorem dL_isThere_24 : decode cL_isThere 24 = .ok (.ireturn, 1) := by decide +kernel
theorem dL_areSame_0 : decode cL_areSame 0 = .ok (.aload_n 3, 1) := by decide +kernel
theorem dL_areSame_1 : decode cL_areSame 1 = .ok (.aload_n 0, 1) := by decide +kernel
theorem dL_areSame_2 : decode cL_areSame 2 = .ok (.iload_n 1, 1) := by decide +kernel
theorem dL_areSame_3 : decode cL_areSame 3 = .ok (.iload_n 2, 1) := by decide +kernel
theorem dL_areSame_4 : decode cL_areSame 4 = .ok (.invokevirtual 105, 3) := by decide +kernel
theorem dL_areSame_7 : decode cL_areSame 7 = .ok (.ifCond .eq 7, 3) := by decide +kernel
theorem dL_areSame_10 : decode cL_areSame 10 = .ok (.lconst 1, 1) := by decide +kernel
theorem dL_areSame_11 : decode cL_areSame 11 = .ok (.goto 4, 3) := by decide +kernel
theorem dL_areSame_14 : decode cL_areSame 14 = .ok (.lconst 0, 1) := by decide +kernel
theorem dL_areSame_15 : decode cL_areSame 15 = .ok (.putfield 13, 3) := by decide +kernel
theorem dL_areSame_18 : decode cL_areSame 18 = .ok (.goto 7, 3) := by decide +kernel
theorem dL_areSame_21 : decode cL_areSame 21 = .ok (.astore 4, 2) := by decide +kernel
theorem dL_areSame_23 : decode cL_areSame 23 = .ok (.iconst 1, 1) := by decide +kernel
theorem dL_areSame_24 : decode cL_areSame 24 = .ok (.ireturn, 1) := by decide +kernel
theorem dL_areSame_25 : decode cL_areSame 25 = .ok (.iconst 0, 1) := by decide +kernel
theorem dL_areSame_26 : decode cL_areSame 26 = .ok (.ireturn, 1) := by decide +kernel
theorem dL_code_0 : decode cL_code 0 = .ok (.aload_n 2, 1) := by decide +kernel
theorem dL_code_1 : decode cL_code 1 = .ok (.aload_n 0, 1) := by decide +kernel
theorem dL_code_2 : decode cL_code 2 = .ok (.iload_n 1, 1) := by decide +kernel
theorem dL_code_3 : decode cL_code 3 = .ok (.invokevirtual 109, 3) := by decide +kernel
theorem dL_code_6 : decode cL_code 6 = .ok (.i2l, 1) := by decide +kernel
theorem dL_code_7 : decode cL_code 7 = .ok (.putfield 13, 3) := by decide +kernel
theorem dL_code_10 : decode cL_code 10 = .ok (.goto 6, 3) := by decide +kernel
theorem dL_code_13 : decode cL_code 13 = .ok (.astore_n 3, 1) := by decide +kernel
theorem dL_code_14 : decode cL_code 14 = .ok (.iconst 1, 1) := by decide +kernel
theorem dL_code_15 : decode cL_code 15 = .ok (.ireturn, 1) := by decide +kernel
theorem dL_code_16 : decode cL_code 16 = .ok (.iconst 0, 1) := by decide +kernel
theorem dL_code_17 : decode cL_code 17 = .ok (.ireturn, 1) := by decide +kernel
theorem dL_codes_0 : decode cL_codes 0 = .ok (.aload 4, 2) := by decide +kernel
theorem dL_codes_2 : decode cL_codes 2 = .ok (.aload_n 0, 1) := by decide +kernel
theorem dL_codes_3 : decode cL_codes 3 = .ok (.iload_n 1, 1) := by decide +kernel
theorem dL_codes_4 : decode cL_codes 4 = .ok (.iload_n 2, 1) := by decide +kernel
theorem dL_codes_5 : decode cL_codes 5 = .ok (.iload_n 3, 1) := by decide +kernel
theorem dL_codes_6 : decode cL_codes 6 = .ok (.invokevirtual 112, 3) := by decide +kernel
theorem dL_codes_9 : decode cL_codes 9 = .ok (.i2l, 1) := by decide +kernel
theorem dL_codes_10 : decode cL_codes 10 = .ok (.putfield 13, 3) := by decide +kernel
theorem dL_codes_13 : decode cL_codes 13 = .ok (.goto 7, 3) := by decide +kernel
theorem dL_codes_16 : decode cL_codes 16 = .ok (.astore 5, 2) := by decide +kernel
theorem dL_codes_18 : decode cL_codes 18 = .ok (.iconst 1, 1) := by decide +kernel
theorem dL_codes_19 : decode cL_codes 19 = .ok (.ireturn, 1) := by decide +kernel
theorem dL_codes_20 : decode cL_codes 20 = .ok (.iconst 0, 1) := by decide +kernel
theorem dL_codes_21 : decode cL_codes 21 = .ok (.ireturn, 1) := by decide +kernel
theorem dL_house_0 : decode cL_house 0 = .ok (.aload_n 2, 1) := by decide +kernel
theorem dL_house_1 : decode cL_house 1 = .ok (.aload_n 0, 1) := by decide +kernel
theorem dL_house_2 : decode cL_house 2 = .ok (.iload_n 1, 1) := by decide +kernel
theorem dL_house_3 : decode cL_house 3 = .ok (.invokevirtual 115, 3) := by decide +kernel
theorem dL_house_6 : decode cL_house 6 = .ok (.i2l, 1) := by decide +kernel
theorem dL_house_7 : decode cL_house 7 = .ok (.putfield 13, 3) := by decide +kernel
theorem dL_house_10 : decode cL_house 10 = .ok (.goto 6, 3) := by decide +kernel
theorem dL_house_13 : decode cL_house 13 = .ok (.astore_n 3, 1) := by decide +kernel
theorem dL_house_14 : decode cL_house 14 = .ok (.iconst 1, 1) := by decide +kernel
theorem dL_house_15 : decode cL_house 15 = .ok (.ireturn, 1) := by decide +kernel
theorem dL_house_16 : decode cL_house 16 = .ok (.iconst 0, 1) := by decide +kernel
theorem dL_house_17 : decode cL_house 17 = .ok (.ireturn, 1) := by decide +kernel
theorem dL_law_0 : decode cL_law 0 = .ok (.new 8, 3) := by decide +kernel
theorem dL_law_3 : decode cL_law 3 = .ok (.dup, 1) := by decide +kernel
theorem dL_law_4 : decode cL_law 4 = .ok (.invokespecial 118, 3) := by decide +kernel
theorem dL_law_7 : decode cL_law 7 = .ok (.astore_n 1, 1) := by decide +kernel
theorem dL_law_8 : decode cL_law 8 = .ok (.new 119, 3) := by decide +kernel
theorem dL_law_11 : decode cL_law 11 = .ok (.dup, 1) := by decide +kernel
theorem dL_law_12 : decode cL_law 12 = .ok (.invokespecial 121, 3) := by decide +kernel
theorem dL_law_15 : decode cL_law 15 = .ok (.astore_n 2, 1) := by decide +kernel
theorem dL_law_16 : decode cL_law 16 = .ok (.new 14, 3) := by decide +kernel
theorem dL_law_19 : decode cL_law 19 = .ok (.dup, 1) := by decide +kernel
theorem dL_law_20 : decode cL_law 20 = .ok (.invokespecial 122, 3) := by decide +kernel
theorem dL_law_23 : decode cL_law 23 = .ok (.astore_n 3, 1) := by decide +kernel
theorem dL_law_24 : decode cL_law 24 = .ok (.iconst 0, 1) := by decide +kernel
/-! the law's bytes in windows; a row reads its own bytes there -/
def dwL0 : List UInt8 := [187, 0, 8, 89, 183, 0, 118, 76, 187, 0, 119, 89, 183, 0, 121, 77, 187, 0, 14, 89, 183, 0, 122, 78, 3, 54, 4, 21, 4, 42, 190, 8]
def dwL1 : List UInt8 := [100, 163, 6, 111, 42, 21, 4, 46, 16, 63, 126, 170, 0, 0, 6, 95, 0, 0, 0, 0, 0, 0, 0, 36, 0, 0, 0, 161, 0, 0, 0, 225]
def dwL2 : List UInt8 := [0, 0, 1, 21, 0, 0, 1, 73, 0, 0, 1, 125, 0, 0, 1, 177, 0, 0, 1, 217, 0, 0, 1, 245, 0, 0, 2, 26, 0, 0, 2, 75]
def dwL3 : List UInt8 := [0, 0, 2, 124, 0, 0, 2, 161, 0, 0, 2, 210, 0, 0, 3, 3, 0, 0, 3, 43, 0, 0, 3, 71, 0, 0, 3, 99, 0, 0, 3, 139]
def dwL4 : List UInt8 := [0, 0, 3, 191, 0, 0, 3, 219, 0, 0, 4, 3, 0, 0, 4, 67, 0, 0, 4, 107, 0, 0, 4, 159, 0, 0, 4, 199, 0, 0, 4, 227]
def dwL5 : List UInt8 := [0, 0, 5, 28, 0, 0, 5, 68, 0, 0, 5, 108, 0, 0, 5, 136, 0, 0, 5, 164, 0, 0, 5, 204, 0, 0, 5, 232, 0, 0, 6, 28]
def dwL6 : List UInt8 := [0, 0, 6, 41, 0, 0, 6, 69, 0, 0, 6, 82, 43, 42, 21, 4, 4, 96, 46, 42, 21, 4, 5, 96, 46, 42, 21, 4, 6, 96, 46, 42]
def dwL7 : List UInt8 := [21, 4, 7, 96, 46, 45, 184, 0, 123, 54, 5, 44, 42, 21, 4, 4, 96, 46, 42, 21, 4, 5, 96, 46, 42, 21, 4, 6, 96, 46, 42, 21]
def dwL8 : List UInt8 := [4, 7, 96, 46, 182, 0, 128, 54, 6, 167, 5, 129, 43, 42, 21, 4, 4, 96, 46, 42, 21, 4, 5, 96, 46, 42, 21, 4, 6, 96, 46, 45]
def dwL9 : List UInt8 := [184, 0, 129, 54, 5, 44, 42, 21, 4, 4, 96, 46, 42, 21, 4, 5, 96, 46, 42, 21, 4, 6, 96, 46, 182, 0, 132, 54, 6, 167, 5, 77]
def dwL10 : List UInt8 := [43, 42, 21, 4, 4, 96, 46, 42, 21, 4, 5, 96, 46, 42, 21, 4, 6, 96, 46, 45, 184, 0, 133, 54, 5, 44, 42, 21, 4, 4, 96, 46]
def dwL11 : List UInt8 := [42, 21, 4, 5, 96, 46, 42, 21, 4, 6, 96, 46, 182, 0, 135, 54, 6, 167, 5, 25, 43, 42, 21, 4, 4, 96, 46, 42, 21, 4, 5, 96]
def dwL12 : List UInt8 := [46, 42, 21, 4, 6, 96, 46, 45, 184, 0, 136, 54, 5, 44, 42, 21, 4, 4, 96, 46, 42, 21, 4, 5, 96, 46, 42, 21, 4, 6, 96, 46]
def dwL13 : List UInt8 := [182, 0, 138, 54, 6, 167, 4, 229, 43, 42, 21, 4, 4, 96, 46, 42, 21, 4, 5, 96, 46, 42, 21, 4, 6, 96, 46, 45, 184, 0, 139, 54]
def dwL14 : List UInt8 := [5, 44, 42, 21, 4, 4, 96, 46, 42, 21, 4, 5, 96, 46, 42, 21, 4, 6, 96, 46, 182, 0, 141, 54, 6, 167, 4, 177, 43, 42, 21, 4]
def dwL15 : List UInt8 := [4, 96, 46, 42, 21, 4, 5, 96, 46, 45, 184, 0, 142, 54, 5, 44, 42, 21, 4, 4, 96, 46, 42, 21, 4, 5, 96, 46, 182, 0, 145, 54]
def dwL16 : List UInt8 := [6, 167, 4, 137, 43, 42, 21, 4, 4, 96, 46, 45, 184, 0, 146, 54, 5, 44, 42, 21, 4, 4, 96, 46, 182, 0, 149, 54, 6, 167, 4, 109]
def dwL17 : List UInt8 := [43, 42, 21, 4, 4, 96, 46, 42, 21, 4, 5, 96, 46, 182, 0, 150, 87, 44, 42, 21, 4, 4, 96, 46, 42, 21, 4, 5, 96, 46, 182, 0]
def dwL18 : List UInt8 := [153, 87, 167, 4, 72, 43, 42, 21, 4, 4, 96, 46, 42, 21, 4, 5, 96, 46, 42, 21, 4, 6, 96, 46, 182, 0, 154, 87, 44, 42, 21, 4]
def dwL19 : List UInt8 := [4, 96, 46, 42, 21, 4, 5, 96, 46, 42, 21, 4, 6, 96, 46, 182, 0, 157, 87, 167, 4, 23, 43, 42, 21, 4, 4, 96, 46, 42, 21, 4]
def dwL20 : List UInt8 := [5, 96, 46, 42, 21, 4, 6, 96, 46, 182, 0, 158, 87, 44, 42, 21, 4, 4, 96, 46, 42, 21, 4, 5, 96, 46, 42, 21, 4, 6, 96, 46]
def dwL21 : List UInt8 := [182, 0, 161, 87, 167, 3, 230, 43, 42, 21, 4, 4, 96, 46, 42, 21, 4, 5, 96, 46, 182, 0, 162, 87, 44, 42, 21, 4, 4, 96, 46, 42]
def dwL22 : List UInt8 := [21, 4, 5, 96, 46, 182, 0, 165, 87, 167, 3, 193, 43, 42, 21, 4, 4, 96, 46, 42, 21, 4, 5, 96, 46, 42, 21, 4, 6, 96, 46, 182]
def dwL23 : List UInt8 := [0, 166, 87, 44, 42, 21, 4, 4, 96, 46, 42, 21, 4, 5, 96, 46, 42, 21, 4, 6, 96, 46, 182, 0, 170, 87, 167, 3, 144, 43, 42, 21]
def dwL24 : List UInt8 := [4, 4, 96, 46, 42, 21, 4, 5, 96, 46, 42, 21, 4, 6, 96, 46, 182, 0, 171, 87, 44, 42, 21, 4, 4, 96, 46, 42, 21, 4, 5, 96]
def dwL25 : List UInt8 := [46, 42, 21, 4, 6, 96, 46, 182, 0, 174, 87, 167, 3, 95, 43, 42, 21, 4, 4, 96, 46, 42, 21, 4, 5, 96, 46, 45, 184, 0, 175, 54]
def dwL26 : List UInt8 := [5, 44, 42, 21, 4, 4, 96, 46, 42, 21, 4, 5, 96, 46, 182, 0, 177, 54, 6, 167, 3, 55, 43, 42, 21, 4, 4, 96, 46, 45, 184, 0]
def dwL27 : List UInt8 := [178, 54, 5, 44, 42, 21, 4, 4, 96, 46, 182, 0, 180, 58, 6, 167, 3, 27, 43, 42, 21, 4, 4, 96, 46, 45, 184, 0, 181, 54, 5, 44]
def dwL28 : List UInt8 := [42, 21, 4, 4, 96, 46, 182, 0, 183, 54, 6, 167, 2, 255, 43, 42, 21, 4, 4, 96, 46, 42, 21, 4, 5, 96, 46, 45, 184, 0, 184, 54]
def dwL29 : List UInt8 := [5, 44, 42, 21, 4, 4, 96, 46, 42, 21, 4, 5, 96, 46, 182, 0, 186, 54, 6, 167, 2, 215, 43, 42, 21, 4, 4, 96, 46, 42, 21, 4]
def dwL30 : List UInt8 := [5, 96, 46, 42, 21, 4, 6, 96, 46, 45, 184, 0, 187, 54, 5, 44, 42, 21, 4, 4, 96, 46, 42, 21, 4, 5, 96, 46, 42, 21, 4, 6]
def dwL31 : List UInt8 := [96, 46, 182, 0, 189, 58, 6, 167, 2, 163, 43, 42, 21, 4, 4, 96, 46, 45, 184, 0, 190, 54, 5, 44, 42, 21, 4, 4, 96, 46, 182, 0]
def dwL32 : List UInt8 := [192, 54, 6, 167, 2, 135, 43, 42, 21, 4, 4, 96, 46, 42, 21, 4, 5, 96, 46, 45, 184, 0, 193, 54, 5, 44, 42, 21, 4, 4, 96, 46]
def dwL33 : List UInt8 := [42, 21, 4, 5, 96, 46, 182, 0, 195, 54, 6, 167, 2, 95, 43, 42, 21, 4, 4, 96, 46, 42, 21, 4, 5, 96, 46, 42, 21, 4, 6, 96]
def dwL34 : List UInt8 := [46, 42, 21, 4, 7, 96, 46, 45, 184, 0, 196, 54, 5, 44, 42, 21, 4, 4, 96, 46, 42, 21, 4, 5, 96, 46, 42, 21, 4, 6, 96, 46]
def dwL35 : List UInt8 := [42, 21, 4, 7, 96, 46, 182, 0, 198, 54, 6, 167, 2, 31, 43, 42, 21, 4, 4, 96, 46, 42, 21, 4, 5, 96, 46, 45, 184, 0, 199, 54]
def dwL36 : List UInt8 := [5, 44, 42, 21, 4, 4, 96, 46, 42, 21, 4, 5, 96, 46, 182, 0, 201, 54, 6, 167, 1, 247, 43, 42, 21, 4, 4, 96, 46, 42, 21, 4]
def dwL37 : List UInt8 := [5, 96, 46, 42, 21, 4, 6, 96, 46, 45, 184, 0, 202, 54, 5, 44, 42, 21, 4, 4, 96, 46, 42, 21, 4, 5, 96, 46, 42, 21, 4, 6]
def dwL38 : List UInt8 := [96, 46, 182, 0, 204, 54, 6, 167, 1, 195, 43, 42, 21, 4, 4, 96, 46, 42, 21, 4, 5, 96, 46, 45, 184, 0, 205, 54, 5, 44, 42, 21]
def dwL39 : List UInt8 := [4, 4, 96, 46, 42, 21, 4, 5, 96, 46, 182, 0, 207, 54, 6, 167, 1, 155, 43, 42, 21, 4, 4, 96, 46, 45, 184, 0, 208, 54, 5, 44]
def dwL40 : List UInt8 := [42, 21, 4, 4, 96, 46, 182, 0, 210, 54, 6, 167, 1, 127, 43, 42, 21, 4, 4, 96, 46, 45, 184, 0, 211, 54, 5, 44, 42, 21, 4, 4]
def dwL41 : List UInt8 := [96, 46, 182, 0, 213, 54, 6, 44, 182, 0, 214, 21, 5, 159, 0, 5, 3, 172, 21, 5, 154, 0, 16, 45, 180, 0, 13, 21, 6, 133, 148, 153]
def dwL42 : List UInt8 := [0, 5, 3, 172, 167, 1, 70, 43, 42, 21, 4, 4, 96, 46, 42, 21, 4, 5, 96, 46, 45, 184, 0, 218, 54, 5, 44, 42, 21, 4, 4, 96]
def dwL43 : List UInt8 := [46, 42, 21, 4, 5, 96, 46, 182, 0, 220, 58, 6, 167, 1, 30, 43, 42, 21, 4, 4, 96, 46, 42, 21, 4, 5, 96, 46, 45, 184, 0, 221]
def dwL44 : List UInt8 := [54, 5, 44, 42, 21, 4, 4, 96, 46, 42, 21, 4, 5, 96, 46, 182, 0, 223, 58, 6, 167, 0, 246, 43, 42, 21, 4, 4, 96, 46, 45, 184]
def dwL45 : List UInt8 := [0, 224, 54, 5, 44, 42, 21, 4, 4, 96, 46, 182, 0, 226, 54, 6, 167, 0, 218, 43, 42, 21, 4, 4, 96, 46, 45, 184, 0, 227, 54, 5]
def dwL46 : List UInt8 := [44, 42, 21, 4, 4, 96, 46, 182, 0, 229, 54, 6, 167, 0, 190, 43, 42, 21, 4, 4, 96, 46, 42, 21, 4, 5, 96, 46, 45, 184, 0, 230]
def dwL47 : List UInt8 := [54, 5, 44, 42, 21, 4, 4, 96, 46, 42, 21, 4, 5, 96, 46, 182, 0, 232, 54, 6, 167, 0, 150, 43, 42, 21, 4, 4, 96, 46, 45, 184]
def dwL48 : List UInt8 := [0, 233, 54, 5, 44, 42, 21, 4, 4, 96, 46, 182, 0, 235, 54, 6, 167, 0, 122, 43, 42, 21, 4, 4, 96, 46, 42, 21, 4, 5, 96, 46]
def dwL49 : List UInt8 := [42, 21, 4, 6, 96, 46, 45, 184, 0, 236, 54, 5, 44, 42, 21, 4, 4, 96, 46, 42, 21, 4, 5, 96, 46, 42, 21, 4, 6, 96, 46, 182]
def dwL50 : List UInt8 := [0, 238, 54, 6, 167, 0, 70, 43, 182, 0, 239, 87, 44, 182, 0, 242, 87, 167, 0, 57, 43, 42, 21, 4, 4, 96, 46, 45, 184, 0, 243, 54]
def dwL51 : List UInt8 := [5, 44, 42, 21, 4, 4, 96, 46, 182, 0, 245, 54, 6, 167, 0, 29, 43, 182, 0, 246, 87, 44, 182, 0, 250, 87, 167, 0, 16, 43, 182, 0]
def dwL52 : List UInt8 := [251, 88, 44, 182, 0, 255, 88, 167, 0, 3, 132, 4, 5, 167, 249, 142, 4, 172]
def dwT53 : List UInt8 := []
def dwT52 : List UInt8 := dwL52 ++ dwT53
def dwT51 : List UInt8 := dwL51 ++ dwT52
def dwT50 : List UInt8 := dwL50 ++ dwT51
def dwT49 : List UInt8 := dwL49 ++ dwT50
def dwT48 : List UInt8 := dwL48 ++ dwT49
def dwT47 : List UInt8 := dwL47 ++ dwT48
def dwT46 : List UInt8 := dwL46 ++ dwT47
def dwT45 : List UInt8 := dwL45 ++ dwT46
def dwT44 : List UInt8 := dwL44 ++ dwT45
def dwT43 : List UInt8 := dwL43 ++ dwT44
def dwT42 : List UInt8 := dwL42 ++ dwT43
def dwT41 : List UInt8 := dwL41 ++ dwT42
def dwT40 : List UInt8 := dwL40 ++ dwT41
def dwT39 : List UInt8 := dwL39 ++ dwT40
def dwT38 : List UInt8 := dwL38 ++ dwT39
def dwT37 : List UInt8 := dwL37 ++ dwT38
def dwT36 : List UInt8 := dwL36 ++ dwT37
def dwT35 : List UInt8 := dwL35 ++ dwT36
def dwT34 : List UInt8 := dwL34 ++ dwT35
def dwT33 : List UInt8 := dwL33 ++ dwT34
def dwT32 : List UInt8 := dwL32 ++ dwT33
def dwT31 : List UInt8 := dwL31 ++ dwT32
def dwT30 : List UInt8 := dwL30 ++ dwT31
def dwT29 : List UInt8 := dwL29 ++ dwT30
def dwT28 : List UInt8 := dwL28 ++ dwT29
def dwT27 : List UInt8 := dwL27 ++ dwT28
def dwT26 : List UInt8 := dwL26 ++ dwT27
def dwT25 : List UInt8 := dwL25 ++ dwT26
def dwT24 : List UInt8 := dwL24 ++ dwT25
def dwT23 : List UInt8 := dwL23 ++ dwT24
def dwT22 : List UInt8 := dwL22 ++ dwT23
def dwT21 : List UInt8 := dwL21 ++ dwT22
def dwT20 : List UInt8 := dwL20 ++ dwT21
def dwT19 : List UInt8 := dwL19 ++ dwT20
def dwT18 : List UInt8 := dwL18 ++ dwT19
def dwT17 : List UInt8 := dwL17 ++ dwT18
def dwT16 : List UInt8 := dwL16 ++ dwT17
def dwT15 : List UInt8 := dwL15 ++ dwT16
def dwT14 : List UInt8 := dwL14 ++ dwT15
def dwT13 : List UInt8 := dwL13 ++ dwT14
def dwT12 : List UInt8 := dwL12 ++ dwT13
def dwT11 : List UInt8 := dwL11 ++ dwT12
def dwT10 : List UInt8 := dwL10 ++ dwT11
def dwT9 : List UInt8 := dwL9 ++ dwT10
def dwT8 : List UInt8 := dwL8 ++ dwT9
def dwT7 : List UInt8 := dwL7 ++ dwT8
def dwT6 : List UInt8 := dwL6 ++ dwT7
def dwT5 : List UInt8 := dwL5 ++ dwT6
def dwT4 : List UInt8 := dwL4 ++ dwT5
def dwT3 : List UInt8 := dwL3 ++ dwT4
def dwT2 : List UInt8 := dwL2 ++ dwT3
def dwT1 : List UInt8 := dwL1 ++ dwT2
def dwT0 : List UInt8 := dwL0 ++ dwT1
theorem dw_all : cL_law.data.toList = dwT0 := by first | decide +kernel | rfl
theorem dw_st0 (j : Nat) : cL_law.data.toList[0 + j]? = dwT0[j]? := by rw [dw_all, Nat.zero_add]
theorem dw_st1 (j : Nat) : cL_law.data.toList[32 + j]? = dwT1[j]? := by
  have h := dw_st0 (32 + j)
  rw [← Nat.add_assoc] at h
  exact h.trans ((List.getElem?_append_right (l₁ := dwL0) (l₂ := dwT1) (i := 32 + j) (Nat.le_add_right _ _)).trans (congrArg (fun i => dwT1[i]?) (Nat.add_sub_cancel_left (n := 32) (m := j))))
theorem dw_st2 (j : Nat) : cL_law.data.toList[64 + j]? = dwT2[j]? := by
  have h := dw_st1 (32 + j)
  rw [← Nat.add_assoc] at h
  exact h.trans ((List.getElem?_append_right (l₁ := dwL1) (l₂ := dwT2) (i := 32 + j) (Nat.le_add_right _ _)).trans (congrArg (fun i => dwT2[i]?) (Nat.add_sub_cancel_left (n := 32) (m := j))))
theorem dw_st3 (j : Nat) : cL_law.data.toList[96 + j]? = dwT3[j]? := by
  have h := dw_st2 (32 + j)
  rw [← Nat.add_assoc] at h
  exact h.trans ((List.getElem?_append_right (l₁ := dwL2) (l₂ := dwT3) (i := 32 + j) (Nat.le_add_right _ _)).trans (congrArg (fun i => dwT3[i]?) (Nat.add_sub_cancel_left (n := 32) (m := j))))
theorem dw_st4 (j : Nat) : cL_law.data.toList[128 + j]? = dwT4[j]? := by
  have h := dw_st3 (32 + j)
  rw [← Nat.add_assoc] at h
  exact h.trans ((List.getElem?_append_right (l₁ := dwL3) (l₂ := dwT4) (i := 32 + j) (Nat.le_add_right _ _)).trans (congrArg (fun i => dwT4[i]?) (Nat.add_sub_cancel_left (n := 32) (m := j))))
theorem dw_st5 (j : Nat) : cL_law.data.toList[160 + j]? = dwT5[j]? := by
  have h := dw_st4 (32 + j)
  rw [← Nat.add_assoc] at h
  exact h.trans ((List.getElem?_append_right (l₁ := dwL4) (l₂ := dwT5) (i := 32 + j) (Nat.le_add_right _ _)).trans (congrArg (fun i => dwT5[i]?) (Nat.add_sub_cancel_left (n := 32) (m := j))))
theorem dw_st6 (j : Nat) : cL_law.data.toList[192 + j]? = dwT6[j]? := by
  have h := dw_st5 (32 + j)
  rw [← Nat.add_assoc] at h
  exact h.trans ((List.getElem?_append_right (l₁ := dwL5) (l₂ := dwT6) (i := 32 + j) (Nat.le_add_right _ _)).trans (congrArg (fun i => dwT6[i]?) (Nat.add_sub_cancel_left (n := 32) (m := j))))
theorem dw_st7 (j : Nat) : cL_law.data.toList[224 + j]? = dwT7[j]? := by
  have h := dw_st6 (32 + j)
  rw [← Nat.add_assoc] at h
  exact h.trans ((List.getElem?_append_right (l₁ := dwL6) (l₂ := dwT7) (i := 32 + j) (Nat.le_add_right _ _)).trans (congrArg (fun i => dwT7[i]?) (Nat.add_sub_cancel_left (n := 32) (m := j))))
theorem dw_st8 (j : Nat) : cL_law.data.toList[256 + j]? = dwT8[j]? := by
  have h := dw_st7 (32 + j)
  rw [← Nat.add_assoc] at h
  exact h.trans ((List.getElem?_append_right (l₁ := dwL7) (l₂ := dwT8) (i := 32 + j) (Nat.le_add_right _ _)).trans (congrArg (fun i => dwT8[i]?) (Nat.add_sub_cancel_left (n := 32) (m := j))))
theorem dw_st9 (j : Nat) : cL_law.data.toList[288 + j]? = dwT9[j]? := by
  have h := dw_st8 (32 + j)
  rw [← Nat.add_assoc] at h
  exact h.trans ((List.getElem?_append_right (l₁ := dwL8) (l₂ := dwT9) (i := 32 + j) (Nat.le_add_right _ _)).trans (congrArg (fun i => dwT9[i]?) (Nat.add_sub_cancel_left (n := 32) (m := j))))
theorem dw_st10 (j : Nat) : cL_law.data.toList[320 + j]? = dwT10[j]? := by
  have h := dw_st9 (32 + j)
  rw [← Nat.add_assoc] at h
  exact h.trans ((List.getElem?_append_right (l₁ := dwL9) (l₂ := dwT10) (i := 32 + j) (Nat.le_add_right _ _)).trans (congrArg (fun i => dwT10[i]?) (Nat.add_sub_cancel_left (n := 32) (m := j))))
theorem dw_st11 (j : Nat) : cL_law.data.toList[352 + j]? = dwT11[j]? := by
  have h := dw_st10 (32 + j)
  rw [← Nat.add_assoc] at h
  exact h.trans ((List.getElem?_append_right (l₁ := dwL10) (l₂ := dwT11) (i := 32 + j) (Nat.le_add_right _ _)).trans (congrArg (fun i => dwT11[i]?) (Nat.add_sub_cancel_left (n := 32) (m := j))))
theorem dw_st12 (j : Nat) : cL_law.data.toList[384 + j]? = dwT12[j]? := by
  have h := dw_st11 (32 + j)
  rw [← Nat.add_assoc] at h
  exact h.trans ((List.getElem?_append_right (l₁ := dwL11) (l₂ := dwT12) (i := 32 + j) (Nat.le_add_right _ _)).trans (congrArg (fun i => dwT12[i]?) (Nat.add_sub_cancel_left (n := 32) (m := j))))
theorem dw_st13 (j : Nat) : cL_law.data.toList[416 + j]? = dwT13[j]? := by
  have h := dw_st12 (32 + j)
  rw [← Nat.add_assoc] at h
  exact h.trans ((List.getElem?_append_right (l₁ := dwL12) (l₂ := dwT13) (i := 32 + j) (Nat.le_add_right _ _)).trans (congrArg (fun i => dwT13[i]?) (Nat.add_sub_cancel_left (n := 32) (m := j))))
theorem dw_st14 (j : Nat) : cL_law.data.toList[448 + j]? = dwT14[j]? := by
  have h := dw_st13 (32 + j)
  rw [← Nat.add_assoc] at h
  exact h.trans ((List.getElem?_append_right (l₁ := dwL13) (l₂ := dwT14) (i := 32 + j) (Nat.le_add_right _ _)).trans (congrArg (fun i => dwT14[i]?) (Nat.add_sub_cancel_left (n := 32) (m := j))))
theorem dw_st15 (j : Nat) : cL_law.data.toList[480 + j]? = dwT15[j]? := by
  have h := dw_st14 (32 + j)
  rw [← Nat.add_assoc] at h
  exact h.trans ((List.getElem?_append_right (l₁ := dwL14) (l₂ := dwT15) (i := 32 + j) (Nat.le_add_right _ _)).trans (congrArg (fun i => dwT15[i]?) (Nat.add_sub_cancel_left (n := 32) (m := j))))
theorem dw_st16 (j : Nat) : cL_law.data.toList[512 + j]? = dwT16[j]? := by
  have h := dw_st15 (32 + j)
  rw [← Nat.add_assoc] at h
  exact h.trans ((List.getElem?_append_right (l₁ := dwL15) (l₂ := dwT16) (i := 32 + j) (Nat.le_add_right _ _)).trans (congrArg (fun i => dwT16[i]?) (Nat.add_sub_cancel_left (n := 32) (m := j))))
theorem dw_st17 (j : Nat) : cL_law.data.toList[544 + j]? = dwT17[j]? := by
  have h := dw_st16 (32 + j)
  rw [← Nat.add_assoc] at h
  exact h.trans ((List.getElem?_append_right (l₁ := dwL16) (l₂ := dwT17) (i := 32 + j) (Nat.le_add_right _ _)).trans (congrArg (fun i => dwT17[i]?) (Nat.add_sub_cancel_left (n := 32) (m := j))))
theorem dw_st18 (j : Nat) : cL_law.data.toList[576 + j]? = dwT18[j]? := by
  have h := dw_st17 (32 + j)
  rw [← Nat.add_assoc] at h
  exact h.trans ((List.getElem?_append_right (l₁ := dwL17) (l₂ := dwT18) (i := 32 + j) (Nat.le_add_right _ _)).trans (congrArg (fun i => dwT18[i]?) (Nat.add_sub_cancel_left (n := 32) (m := j))))
theorem dw_st19 (j : Nat) : cL_law.data.toList[608 + j]? = dwT19[j]? := by
  have h := dw_st18 (32 + j)
  rw [← Nat.add_assoc] at h
  exact h.trans ((List.getElem?_append_right (l₁ := dwL18) (l₂ := dwT19) (i := 32 + j) (Nat.le_add_right _ _)).trans (congrArg (fun i => dwT19[i]?) (Nat.add_sub_cancel_left (n := 32) (m := j))))
theorem dw_st20 (j : Nat) : cL_law.data.toList[640 + j]? = dwT20[j]? := by
  have h := dw_st19 (32 + j)
  rw [← Nat.add_assoc] at h
  exact h.trans ((List.getElem?_append_right (l₁ := dwL19) (l₂ := dwT20) (i := 32 + j) (Nat.le_add_right _ _)).trans (congrArg (fun i => dwT20[i]?) (Nat.add_sub_cancel_left (n := 32) (m := j))))
theorem dw_st21 (j : Nat) : cL_law.data.toList[672 + j]? = dwT21[j]? := by
  have h := dw_st20 (32 + j)
  rw [← Nat.add_assoc] at h
  exact h.trans ((List.getElem?_append_right (l₁ := dwL20) (l₂ := dwT21) (i := 32 + j) (Nat.le_add_right _ _)).trans (congrArg (fun i => dwT21[i]?) (Nat.add_sub_cancel_left (n := 32) (m := j))))
theorem dw_st22 (j : Nat) : cL_law.data.toList[704 + j]? = dwT22[j]? := by
  have h := dw_st21 (32 + j)
  rw [← Nat.add_assoc] at h
  exact h.trans ((List.getElem?_append_right (l₁ := dwL21) (l₂ := dwT22) (i := 32 + j) (Nat.le_add_right _ _)).trans (congrArg (fun i => dwT22[i]?) (Nat.add_sub_cancel_left (n := 32) (m := j))))
theorem dw_st23 (j : Nat) : cL_law.data.toList[736 + j]? = dwT23[j]? := by
  have h := dw_st22 (32 + j)
  rw [← Nat.add_assoc] at h
  exact h.trans ((List.getElem?_append_right (l₁ := dwL22) (l₂ := dwT23) (i := 32 + j) (Nat.le_add_right _ _)).trans (congrArg (fun i => dwT23[i]?) (Nat.add_sub_cancel_left (n := 32) (m := j))))
theorem dw_st24 (j : Nat) : cL_law.data.toList[768 + j]? = dwT24[j]? := by
  have h := dw_st23 (32 + j)
  rw [← Nat.add_assoc] at h
  exact h.trans ((List.getElem?_append_right (l₁ := dwL23) (l₂ := dwT24) (i := 32 + j) (Nat.le_add_right _ _)).trans (congrArg (fun i => dwT24[i]?) (Nat.add_sub_cancel_left (n := 32) (m := j))))
theorem dw_st25 (j : Nat) : cL_law.data.toList[800 + j]? = dwT25[j]? := by
  have h := dw_st24 (32 + j)
  rw [← Nat.add_assoc] at h
  exact h.trans ((List.getElem?_append_right (l₁ := dwL24) (l₂ := dwT25) (i := 32 + j) (Nat.le_add_right _ _)).trans (congrArg (fun i => dwT25[i]?) (Nat.add_sub_cancel_left (n := 32) (m := j))))
theorem dw_st26 (j : Nat) : cL_law.data.toList[832 + j]? = dwT26[j]? := by
  have h := dw_st25 (32 + j)
  rw [← Nat.add_assoc] at h
  exact h.trans ((List.getElem?_append_right (l₁ := dwL25) (l₂ := dwT26) (i := 32 + j) (Nat.le_add_right _ _)).trans (congrArg (fun i => dwT26[i]?) (Nat.add_sub_cancel_left (n := 32) (m := j))))
theorem dw_st27 (j : Nat) : cL_law.data.toList[864 + j]? = dwT27[j]? := by
  have h := dw_st26 (32 + j)
  rw [← Nat.add_assoc] at h
  exact h.trans ((List.getElem?_append_right (l₁ := dwL26) (l₂ := dwT27) (i := 32 + j) (Nat.le_add_right _ _)).trans (congrArg (fun i => dwT27[i]?) (Nat.add_sub_cancel_left (n := 32) (m := j))))
theorem dw_st28 (j : Nat) : cL_law.data.toList[896 + j]? = dwT28[j]? := by
  have h := dw_st27 (32 + j)
  rw [← Nat.add_assoc] at h
  exact h.trans ((List.getElem?_append_right (l₁ := dwL27) (l₂ := dwT28) (i := 32 + j) (Nat.le_add_right _ _)).trans (congrArg (fun i => dwT28[i]?) (Nat.add_sub_cancel_left (n := 32) (m := j))))
theorem dw_st29 (j : Nat) : cL_law.data.toList[928 + j]? = dwT29[j]? := by
  have h := dw_st28 (32 + j)
  rw [← Nat.add_assoc] at h
  exact h.trans ((List.getElem?_append_right (l₁ := dwL28) (l₂ := dwT29) (i := 32 + j) (Nat.le_add_right _ _)).trans (congrArg (fun i => dwT29[i]?) (Nat.add_sub_cancel_left (n := 32) (m := j))))
theorem dw_st30 (j : Nat) : cL_law.data.toList[960 + j]? = dwT30[j]? := by
  have h := dw_st29 (32 + j)
  rw [← Nat.add_assoc] at h
  exact h.trans ((List.getElem?_append_right (l₁ := dwL29) (l₂ := dwT30) (i := 32 + j) (Nat.le_add_right _ _)).trans (congrArg (fun i => dwT30[i]?) (Nat.add_sub_cancel_left (n := 32) (m := j))))
theorem dw_st31 (j : Nat) : cL_law.data.toList[992 + j]? = dwT31[j]? := by
  have h := dw_st30 (32 + j)
  rw [← Nat.add_assoc] at h
  exact h.trans ((List.getElem?_append_right (l₁ := dwL30) (l₂ := dwT31) (i := 32 + j) (Nat.le_add_right _ _)).trans (congrArg (fun i => dwT31[i]?) (Nat.add_sub_cancel_left (n := 32) (m := j))))
theorem dw_st32 (j : Nat) : cL_law.data.toList[1024 + j]? = dwT32[j]? := by
  have h := dw_st31 (32 + j)
  rw [← Nat.add_assoc] at h
  exact h.trans ((List.getElem?_append_right (l₁ := dwL31) (l₂ := dwT32) (i := 32 + j) (Nat.le_add_right _ _)).trans (congrArg (fun i => dwT32[i]?) (Nat.add_sub_cancel_left (n := 32) (m := j))))
theorem dw_st33 (j : Nat) : cL_law.data.toList[1056 + j]? = dwT33[j]? := by
  have h := dw_st32 (32 + j)
  rw [← Nat.add_assoc] at h
  exact h.trans ((List.getElem?_append_right (l₁ := dwL32) (l₂ := dwT33) (i := 32 + j) (Nat.le_add_right _ _)).trans (congrArg (fun i => dwT33[i]?) (Nat.add_sub_cancel_left (n := 32) (m := j))))
theorem dw_st34 (j : Nat) : cL_law.data.toList[1088 + j]? = dwT34[j]? := by
  have h := dw_st33 (32 + j)
  rw [← Nat.add_assoc] at h
  exact h.trans ((List.getElem?_append_right (l₁ := dwL33) (l₂ := dwT34) (i := 32 + j) (Nat.le_add_right _ _)).trans (congrArg (fun i => dwT34[i]?) (Nat.add_sub_cancel_left (n := 32) (m := j))))
theorem dw_st35 (j : Nat) : cL_law.data.toList[1120 + j]? = dwT35[j]? := by
  have h := dw_st34 (32 + j)
  rw [← Nat.add_assoc] at h
  exact h.trans ((List.getElem?_append_right (l₁ := dwL34) (l₂ := dwT35) (i := 32 + j) (Nat.le_add_right _ _)).trans (congrArg (fun i => dwT35[i]?) (Nat.add_sub_cancel_left (n := 32) (m := j))))
theorem dw_st36 (j : Nat) : cL_law.data.toList[1152 + j]? = dwT36[j]? := by
  have h := dw_st35 (32 + j)
  rw [← Nat.add_assoc] at h
  exact h.trans ((List.getElem?_append_right (l₁ := dwL35) (l₂ := dwT36) (i := 32 + j) (Nat.le_add_right _ _)).trans (congrArg (fun i => dwT36[i]?) (Nat.add_sub_cancel_left (n := 32) (m := j))))
theorem dw_st37 (j : Nat) : cL_law.data.toList[1184 + j]? = dwT37[j]? := by
  have h := dw_st36 (32 + j)
  rw [← Nat.add_assoc] at h
  exact h.trans ((List.getElem?_append_right (l₁ := dwL36) (l₂ := dwT37) (i := 32 + j) (Nat.le_add_right _ _)).trans (congrArg (fun i => dwT37[i]?) (Nat.add_sub_cancel_left (n := 32) (m := j))))
theorem dw_st38 (j : Nat) : cL_law.data.toList[1216 + j]? = dwT38[j]? := by
  have h := dw_st37 (32 + j)
  rw [← Nat.add_assoc] at h
  exact h.trans ((List.getElem?_append_right (l₁ := dwL37) (l₂ := dwT38) (i := 32 + j) (Nat.le_add_right _ _)).trans (congrArg (fun i => dwT38[i]?) (Nat.add_sub_cancel_left (n := 32) (m := j))))
theorem dw_st39 (j : Nat) : cL_law.data.toList[1248 + j]? = dwT39[j]? := by
  have h := dw_st38 (32 + j)
  rw [← Nat.add_assoc] at h
  exact h.trans ((List.getElem?_append_right (l₁ := dwL38) (l₂ := dwT39) (i := 32 + j) (Nat.le_add_right _ _)).trans (congrArg (fun i => dwT39[i]?) (Nat.add_sub_cancel_left (n := 32) (m := j))))
theorem dw_st40 (j : Nat) : cL_law.data.toList[1280 + j]? = dwT40[j]? := by
  have h := dw_st39 (32 + j)
  rw [← Nat.add_assoc] at h
  exact h.trans ((List.getElem?_append_right (l₁ := dwL39) (l₂ := dwT40) (i := 32 + j) (Nat.le_add_right _ _)).trans (congrArg (fun i => dwT40[i]?) (Nat.add_sub_cancel_left (n := 32) (m := j))))
theorem dw_st41 (j : Nat) : cL_law.data.toList[1312 + j]? = dwT41[j]? := by
  have h := dw_st40 (32 + j)
  rw [← Nat.add_assoc] at h
  exact h.trans ((List.getElem?_append_right (l₁ := dwL40) (l₂ := dwT41) (i := 32 + j) (Nat.le_add_right _ _)).trans (congrArg (fun i => dwT41[i]?) (Nat.add_sub_cancel_left (n := 32) (m := j))))
theorem dw_st42 (j : Nat) : cL_law.data.toList[1344 + j]? = dwT42[j]? := by
  have h := dw_st41 (32 + j)
  rw [← Nat.add_assoc] at h
  exact h.trans ((List.getElem?_append_right (l₁ := dwL41) (l₂ := dwT42) (i := 32 + j) (Nat.le_add_right _ _)).trans (congrArg (fun i => dwT42[i]?) (Nat.add_sub_cancel_left (n := 32) (m := j))))
theorem dw_st43 (j : Nat) : cL_law.data.toList[1376 + j]? = dwT43[j]? := by
  have h := dw_st42 (32 + j)
  rw [← Nat.add_assoc] at h
  exact h.trans ((List.getElem?_append_right (l₁ := dwL42) (l₂ := dwT43) (i := 32 + j) (Nat.le_add_right _ _)).trans (congrArg (fun i => dwT43[i]?) (Nat.add_sub_cancel_left (n := 32) (m := j))))
theorem dw_st44 (j : Nat) : cL_law.data.toList[1408 + j]? = dwT44[j]? := by
  have h := dw_st43 (32 + j)
  rw [← Nat.add_assoc] at h
  exact h.trans ((List.getElem?_append_right (l₁ := dwL43) (l₂ := dwT44) (i := 32 + j) (Nat.le_add_right _ _)).trans (congrArg (fun i => dwT44[i]?) (Nat.add_sub_cancel_left (n := 32) (m := j))))
theorem dw_st45 (j : Nat) : cL_law.data.toList[1440 + j]? = dwT45[j]? := by
  have h := dw_st44 (32 + j)
  rw [← Nat.add_assoc] at h
  exact h.trans ((List.getElem?_append_right (l₁ := dwL44) (l₂ := dwT45) (i := 32 + j) (Nat.le_add_right _ _)).trans (congrArg (fun i => dwT45[i]?) (Nat.add_sub_cancel_left (n := 32) (m := j))))
theorem dw_st46 (j : Nat) : cL_law.data.toList[1472 + j]? = dwT46[j]? := by
  have h := dw_st45 (32 + j)
  rw [← Nat.add_assoc] at h
  exact h.trans ((List.getElem?_append_right (l₁ := dwL45) (l₂ := dwT46) (i := 32 + j) (Nat.le_add_right _ _)).trans (congrArg (fun i => dwT46[i]?) (Nat.add_sub_cancel_left (n := 32) (m := j))))
theorem dw_st47 (j : Nat) : cL_law.data.toList[1504 + j]? = dwT47[j]? := by
  have h := dw_st46 (32 + j)
  rw [← Nat.add_assoc] at h
  exact h.trans ((List.getElem?_append_right (l₁ := dwL46) (l₂ := dwT47) (i := 32 + j) (Nat.le_add_right _ _)).trans (congrArg (fun i => dwT47[i]?) (Nat.add_sub_cancel_left (n := 32) (m := j))))
theorem dw_st48 (j : Nat) : cL_law.data.toList[1536 + j]? = dwT48[j]? := by
  have h := dw_st47 (32 + j)
  rw [← Nat.add_assoc] at h
  exact h.trans ((List.getElem?_append_right (l₁ := dwL47) (l₂ := dwT48) (i := 32 + j) (Nat.le_add_right _ _)).trans (congrArg (fun i => dwT48[i]?) (Nat.add_sub_cancel_left (n := 32) (m := j))))
theorem dw_st49 (j : Nat) : cL_law.data.toList[1568 + j]? = dwT49[j]? := by
  have h := dw_st48 (32 + j)
  rw [← Nat.add_assoc] at h
  exact h.trans ((List.getElem?_append_right (l₁ := dwL48) (l₂ := dwT49) (i := 32 + j) (Nat.le_add_right _ _)).trans (congrArg (fun i => dwT49[i]?) (Nat.add_sub_cancel_left (n := 32) (m := j))))
theorem dw_st50 (j : Nat) : cL_law.data.toList[1600 + j]? = dwT50[j]? := by
  have h := dw_st49 (32 + j)
  rw [← Nat.add_assoc] at h
  exact h.trans ((List.getElem?_append_right (l₁ := dwL49) (l₂ := dwT50) (i := 32 + j) (Nat.le_add_right _ _)).trans (congrArg (fun i => dwT50[i]?) (Nat.add_sub_cancel_left (n := 32) (m := j))))
theorem dw_st51 (j : Nat) : cL_law.data.toList[1632 + j]? = dwT51[j]? := by
  have h := dw_st50 (32 + j)
  rw [← Nat.add_assoc] at h
  exact h.trans ((List.getElem?_append_right (l₁ := dwL50) (l₂ := dwT51) (i := 32 + j) (Nat.le_add_right _ _)).trans (congrArg (fun i => dwT51[i]?) (Nat.add_sub_cancel_left (n := 32) (m := j))))
theorem dw_st52 (j : Nat) : cL_law.data.toList[1664 + j]? = dwT52[j]? := by
  have h := dw_st51 (32 + j)
  rw [← Nat.add_assoc] at h
  exact h.trans ((List.getElem?_append_right (l₁ := dwL51) (l₂ := dwT52) (i := 32 + j) (Nat.le_add_right _ _)).trans (congrArg (fun i => dwT52[i]?) (Nat.add_sub_cancel_left (n := 32) (m := j))))
theorem dw_u1 {c : ByteArray} {p q x : Nat} (hq : p = q) (h : (c.data.toList[q]?).map UInt8.toNat = some x) : (Reader.u1 : Decoder Nat) c p = .ok (x, p + 1) := by
  subst hq
  have hs : p < c.size := by
    apply Classical.byContradiction
    intro hn
    have : c.data.toList[p]? = none := List.getElem?_eq_none (Nat.le_of_not_lt hn)
    rw [this] at h
    exact absurd h (by simp)
  have hx : (c[p]'hs).toNat = x := by
    have e : c.data.toList[p]? = some (c.data.toList[p]'hs) := List.getElem?_eq_getElem hs
    rw [e] at h
    exact Option.some.inj h
  unfold Reader.u1
  show (dite (p < c.size) (fun h => ((do set (p + 1); pure (c[p]'h).toNat) : Decoder Nat)) (fun _ => (throw (HasTruncated.truncated p) : Decoder Nat))) c p = _
  rw [dif_pos hs]
  show Except.ok ((c[p]'hs).toNat, p + 1) = _
  rw [hx]
theorem dw_run {c : ByteArray} {p q n : Nat} {i : Instr} (e : (Decoder.instr p : Decoder Instr) c p = .ok (i, q)) (hn : q - p = n) : decode c p = .ok (i, n) := by
  show Except.bind ((Decoder.instr p : Decoder Instr) c p) _ = _
  rw [e]
  show Except.ok (i, q - p) = _
  rw [hn]
theorem dk_54 {c : ByteArray} {p : Nat} (h0 : (Reader.u1 : Decoder Nat) c p = .ok (54, p + 1)) {x : Nat} (h1 : (Reader.u1 : Decoder Nat) c (p + 1) = .ok (x, p + 1 + 1)) : decode c p = .ok (.istore x, 2) := dw_run (q := p + 1 + 1) (by
  show Except.bind ((Reader.u1 : Decoder Nat) c p) _ = _
  rw [h0]
  show Except.bind ((Reader.u1 : Decoder Nat) c (p + 1)) _ = _
  rw [h1]
  rfl) (Nat.add_sub_cancel_left (n := p) (m := 2))
theorem dL_law_25 : decode cL_law 25 = .ok (.istore 4, 2) := dk_54 (dw_u1 (q := 0 + 25) rfl ((congrArg (Option.map UInt8.toNat) (dw_st0 25)).trans (by decide +kernel))) (dw_u1 (q := 0 + 26) rfl ((congrArg (Option.map UInt8.toNat) (dw_st0 26)).trans (by decide +kernel)))
theorem dk_21 {c : ByteArray} {p : Nat} (h0 : (Reader.u1 : Decoder Nat) c p = .ok (21, p + 1)) {x : Nat} (h1 : (Reader.u1 : Decoder Nat) c (p + 1) = .ok (x, p + 1 + 1)) : decode c p = .ok (.iload x, 2) := dw_run (q := p + 1 + 1) (by
  show Except.bind ((Reader.u1 : Decoder Nat) c p) _ = _
  rw [h0]
  show Except.bind ((Reader.u1 : Decoder Nat) c (p + 1)) _ = _
  rw [h1]
  rfl) (Nat.add_sub_cancel_left (n := p) (m := 2))
theorem dL_law_27 : decode cL_law 27 = .ok (.iload 4, 2) := dk_21 (dw_u1 (q := 0 + 27) rfl ((congrArg (Option.map UInt8.toNat) (dw_st0 27)).trans (by decide +kernel))) (dw_u1 (q := 0 + 28) rfl ((congrArg (Option.map UInt8.toNat) (dw_st0 28)).trans (by decide +kernel)))
theorem dk_42 {c : ByteArray} {p : Nat} (h0 : (Reader.u1 : Decoder Nat) c p = .ok (42, p + 1)) : decode c p = .ok (.aload_n 0, 1) := dw_run (q := p + 1) (by
  show Except.bind ((Reader.u1 : Decoder Nat) c p) _ = _
  rw [h0]
  rfl) (Nat.add_sub_cancel_left (n := p) (m := 1))
theorem dL_law_29 : decode cL_law 29 = .ok (.aload_n 0, 1) := dk_42 (dw_u1 (q := 0 + 29) rfl ((congrArg (Option.map UInt8.toNat) (dw_st0 29)).trans (by decide +kernel)))
theorem dL_law_30 : decode cL_law 30 = .ok (.arraylength, 1) := by decide +kernel
theorem dL_law_31 : decode cL_law 31 = .ok (.iconst 5, 1) := by decide +kernel
theorem dL_law_32 : decode cL_law 32 = .ok (.isub, 1) := by decide +kernel
theorem dL_law_33 : decode cL_law 33 = .ok (.if_icmp .gt 1647, 3) := by decide +kernel
theorem dL_law_36 : decode cL_law 36 = .ok (.aload_n 0, 1) := dk_42 (dw_u1 (q := 32 + 4) rfl ((congrArg (Option.map UInt8.toNat) (dw_st1 4)).trans (by decide +kernel)))
theorem dL_law_37 : decode cL_law 37 = .ok (.iload 4, 2) := dk_21 (dw_u1 (q := 32 + 5) rfl ((congrArg (Option.map UInt8.toNat) (dw_st1 5)).trans (by decide +kernel))) (dw_u1 (q := 32 + 6) rfl ((congrArg (Option.map UInt8.toNat) (dw_st1 6)).trans (by decide +kernel)))
theorem dk_46 {c : ByteArray} {p : Nat} (h0 : (Reader.u1 : Decoder Nat) c p = .ok (46, p + 1)) : decode c p = .ok (.iaload, 1) := dw_run (q := p + 1) (by
  show Except.bind ((Reader.u1 : Decoder Nat) c p) _ = _
  rw [h0]
  rfl) (Nat.add_sub_cancel_left (n := p) (m := 1))
theorem dL_law_39 : decode cL_law 39 = .ok (.iaload, 1) := dk_46 (dw_u1 (q := 32 + 7) rfl ((congrArg (Option.map UInt8.toNat) (dw_st1 7)).trans (by decide +kernel)))
theorem dL_law_40 : decode cL_law 40 = .ok (.bipush 63, 2) := by decide +kernel
theorem dL_law_42 : decode cL_law 42 = .ok (.iand, 1) := by decide +kernel
theorem dL_law_43 : decode cL_law 43 = .ok (.tableswitch 1631 0 36 #[161, 225, 277, 329, 381, 433, 473, 501, 538, 587, 636, 673, 722, 771, 811, 839, 867, 907, 959, 987, 1027, 1091, 1131, 1183, 1223, 1251, 1308, 1348, 1388, 1416, 1444, 1484, 1512, 1564, 1577, 1605, 1618], 161) := by decide +kernel
theorem dk_43 {c : ByteArray} {p : Nat} (h0 : (Reader.u1 : Decoder Nat) c p = .ok (43, p + 1)) : decode c p = .ok (.aload_n 1, 1) := dw_run (q := p + 1) (by
  show Except.bind ((Reader.u1 : Decoder Nat) c p) _ = _
  rw [h0]
  rfl) (Nat.add_sub_cancel_left (n := p) (m := 1))
theorem dL_law_204 : decode cL_law 204 = .ok (.aload_n 1, 1) := dk_43 (dw_u1 (q := 192 + 12) rfl ((congrArg (Option.map UInt8.toNat) (dw_st6 12)).trans (by decide +kernel)))
theorem dL_law_205 : decode cL_law 205 = .ok (.aload_n 0, 1) := dk_42 (dw_u1 (q := 192 + 13) rfl ((congrArg (Option.map UInt8.toNat) (dw_st6 13)).trans (by decide +kernel)))
theorem dL_law_206 : decode cL_law 206 = .ok (.iload 4, 2) := dk_21 (dw_u1 (q := 192 + 14) rfl ((congrArg (Option.map UInt8.toNat) (dw_st6 14)).trans (by decide +kernel))) (dw_u1 (q := 192 + 15) rfl ((congrArg (Option.map UInt8.toNat) (dw_st6 15)).trans (by decide +kernel)))
theorem dk_4 {c : ByteArray} {p : Nat} (h0 : (Reader.u1 : Decoder Nat) c p = .ok (4, p + 1)) : decode c p = .ok (.iconst 1, 1) := dw_run (q := p + 1) (by
  show Except.bind ((Reader.u1 : Decoder Nat) c p) _ = _
  rw [h0]
  rfl) (Nat.add_sub_cancel_left (n := p) (m := 1))
theorem dL_law_208 : decode cL_law 208 = .ok (.iconst 1, 1) := dk_4 (dw_u1 (q := 192 + 16) rfl ((congrArg (Option.map UInt8.toNat) (dw_st6 16)).trans (by decide +kernel)))
theorem dk_96 {c : ByteArray} {p : Nat} (h0 : (Reader.u1 : Decoder Nat) c p = .ok (96, p + 1)) : decode c p = .ok (.iadd, 1) := dw_run (q := p + 1) (by
  show Except.bind ((Reader.u1 : Decoder Nat) c p) _ = _
  rw [h0]
  rfl) (Nat.add_sub_cancel_left (n := p) (m := 1))
theorem dL_law_209 : decode cL_law 209 = .ok (.iadd, 1) := dk_96 (dw_u1 (q := 192 + 17) rfl ((congrArg (Option.map UInt8.toNat) (dw_st6 17)).trans (by decide +kernel)))
theorem dL_law_210 : decode cL_law 210 = .ok (.iaload, 1) := dk_46 (dw_u1 (q := 192 + 18) rfl ((congrArg (Option.map UInt8.toNat) (dw_st6 18)).trans (by decide +kernel)))
theorem dL_law_211 : decode cL_law 211 = .ok (.aload_n 0, 1) := dk_42 (dw_u1 (q := 192 + 19) rfl ((congrArg (Option.map UInt8.toNat) (dw_st6 19)).trans (by decide +kernel)))
theorem dL_law_212 : decode cL_law 212 = .ok (.iload 4, 2) := dk_21 (dw_u1 (q := 192 + 20) rfl ((congrArg (Option.map UInt8.toNat) (dw_st6 20)).trans (by decide +kernel))) (dw_u1 (q := 192 + 21) rfl ((congrArg (Option.map UInt8.toNat) (dw_st6 21)).trans (by decide +kernel)))
theorem dk_5 {c : ByteArray} {p : Nat} (h0 : (Reader.u1 : Decoder Nat) c p = .ok (5, p + 1)) : decode c p = .ok (.iconst 2, 1) := dw_run (q := p + 1) (by
  show Except.bind ((Reader.u1 : Decoder Nat) c p) _ = _
  rw [h0]
  rfl) (Nat.add_sub_cancel_left (n := p) (m := 1))
theorem dL_law_214 : decode cL_law 214 = .ok (.iconst 2, 1) := dk_5 (dw_u1 (q := 192 + 22) rfl ((congrArg (Option.map UInt8.toNat) (dw_st6 22)).trans (by decide +kernel)))
theorem dL_law_215 : decode cL_law 215 = .ok (.iadd, 1) := dk_96 (dw_u1 (q := 192 + 23) rfl ((congrArg (Option.map UInt8.toNat) (dw_st6 23)).trans (by decide +kernel)))
theorem dL_law_216 : decode cL_law 216 = .ok (.iaload, 1) := dk_46 (dw_u1 (q := 192 + 24) rfl ((congrArg (Option.map UInt8.toNat) (dw_st6 24)).trans (by decide +kernel)))
theorem dL_law_217 : decode cL_law 217 = .ok (.aload_n 0, 1) := dk_42 (dw_u1 (q := 192 + 25) rfl ((congrArg (Option.map UInt8.toNat) (dw_st6 25)).trans (by decide +kernel)))
theorem dL_law_218 : decode cL_law 218 = .ok (.iload 4, 2) := dk_21 (dw_u1 (q := 192 + 26) rfl ((congrArg (Option.map UInt8.toNat) (dw_st6 26)).trans (by decide +kernel))) (dw_u1 (q := 192 + 27) rfl ((congrArg (Option.map UInt8.toNat) (dw_st6 27)).trans (by decide +kernel)))
theorem dk_6 {c : ByteArray} {p : Nat} (h0 : (Reader.u1 : Decoder Nat) c p = .ok (6, p + 1)) : decode c p = .ok (.iconst 3, 1) := dw_run (q := p + 1) (by
  show Except.bind ((Reader.u1 : Decoder Nat) c p) _ = _
  rw [h0]
  rfl) (Nat.add_sub_cancel_left (n := p) (m := 1))
theorem dL_law_220 : decode cL_law 220 = .ok (.iconst 3, 1) := dk_6 (dw_u1 (q := 192 + 28) rfl ((congrArg (Option.map UInt8.toNat) (dw_st6 28)).trans (by decide +kernel)))
theorem dL_law_221 : decode cL_law 221 = .ok (.iadd, 1) := dk_96 (dw_u1 (q := 192 + 29) rfl ((congrArg (Option.map UInt8.toNat) (dw_st6 29)).trans (by decide +kernel)))
theorem dL_law_222 : decode cL_law 222 = .ok (.iaload, 1) := dk_46 (dw_u1 (q := 192 + 30) rfl ((congrArg (Option.map UInt8.toNat) (dw_st6 30)).trans (by decide +kernel)))
theorem dL_law_223 : decode cL_law 223 = .ok (.aload_n 0, 1) := dk_42 (dw_u1 (q := 192 + 31) rfl ((congrArg (Option.map UInt8.toNat) (dw_st6 31)).trans (by decide +kernel)))
theorem dL_law_224 : decode cL_law 224 = .ok (.iload 4, 2) := dk_21 (dw_u1 (q := 224 + 0) rfl ((congrArg (Option.map UInt8.toNat) (dw_st7 0)).trans (by decide +kernel))) (dw_u1 (q := 224 + 1) rfl ((congrArg (Option.map UInt8.toNat) (dw_st7 1)).trans (by decide +kernel)))
theorem dk_7 {c : ByteArray} {p : Nat} (h0 : (Reader.u1 : Decoder Nat) c p = .ok (7, p + 1)) : decode c p = .ok (.iconst 4, 1) := dw_run (q := p + 1) (by
  show Except.bind ((Reader.u1 : Decoder Nat) c p) _ = _
  rw [h0]
  rfl) (Nat.add_sub_cancel_left (n := p) (m := 1))
theorem dL_law_226 : decode cL_law 226 = .ok (.iconst 4, 1) := dk_7 (dw_u1 (q := 224 + 2) rfl ((congrArg (Option.map UInt8.toNat) (dw_st7 2)).trans (by decide +kernel)))
theorem dL_law_227 : decode cL_law 227 = .ok (.iadd, 1) := dk_96 (dw_u1 (q := 224 + 3) rfl ((congrArg (Option.map UInt8.toNat) (dw_st7 3)).trans (by decide +kernel)))
theorem dL_law_228 : decode cL_law 228 = .ok (.iaload, 1) := dk_46 (dw_u1 (q := 224 + 4) rfl ((congrArg (Option.map UInt8.toNat) (dw_st7 4)).trans (by decide +kernel)))
theorem dk_45 {c : ByteArray} {p : Nat} (h0 : (Reader.u1 : Decoder Nat) c p = .ok (45, p + 1)) : decode c p = .ok (.aload_n 3, 1) := dw_run (q := p + 1) (by
  show Except.bind ((Reader.u1 : Decoder Nat) c p) _ = _
  rw [h0]
  rfl) (Nat.add_sub_cancel_left (n := p) (m := 1))
theorem dL_law_229 : decode cL_law 229 = .ok (.aload_n 3, 1) := dk_45 (dw_u1 (q := 224 + 5) rfl ((congrArg (Option.map UInt8.toNat) (dw_st7 5)).trans (by decide +kernel)))
theorem dk_184 {c : ByteArray} {p : Nat} (h0 : (Reader.u1 : Decoder Nat) c p = .ok (184, p + 1)) {x y w : Nat} (h1 : (Reader.u1 : Decoder Nat) c (p + 1) = .ok (x, p + 1 + 1)) (h2 : (Reader.u1 : Decoder Nat) c (p + 1 + 1) = .ok (y, p + 1 + 1 + 1)) (hu : x * 256 + y = w) : decode c p = .ok (.invokestatic w, 3) := dw_run (q := p + 1 + 1 + 1) (by
  subst hu
  show Except.bind ((Reader.u1 : Decoder Nat) c p) _ = _
  rw [h0]
  show Except.bind (Except.bind ((Reader.u1 : Decoder Nat) c (p + 1)) _) _ = _
  rw [h1]
  show Except.bind (Except.bind ((Reader.u1 : Decoder Nat) c (p + 1 + 1)) _) _ = _
  rw [h2]
  rfl) (Nat.add_sub_cancel_left (n := p) (m := 3))
theorem dL_law_230 : decode cL_law 230 = .ok (.invokestatic 123, 3) := dk_184 (x := 0) (y := 123) (dw_u1 (q := 224 + 6) rfl ((congrArg (Option.map UInt8.toNat) (dw_st7 6)).trans (by decide +kernel))) (dw_u1 (q := 224 + 7) rfl ((congrArg (Option.map UInt8.toNat) (dw_st7 7)).trans (by decide +kernel))) (dw_u1 (q := 224 + 8) rfl ((congrArg (Option.map UInt8.toNat) (dw_st7 8)).trans (by decide +kernel))) (by decide +kernel)
theorem dL_law_233 : decode cL_law 233 = .ok (.istore 5, 2) := dk_54 (dw_u1 (q := 224 + 9) rfl ((congrArg (Option.map UInt8.toNat) (dw_st7 9)).trans (by decide +kernel))) (dw_u1 (q := 224 + 10) rfl ((congrArg (Option.map UInt8.toNat) (dw_st7 10)).trans (by decide +kernel)))
theorem dk_44 {c : ByteArray} {p : Nat} (h0 : (Reader.u1 : Decoder Nat) c p = .ok (44, p + 1)) : decode c p = .ok (.aload_n 2, 1) := dw_run (q := p + 1) (by
  show Except.bind ((Reader.u1 : Decoder Nat) c p) _ = _
  rw [h0]
  rfl) (Nat.add_sub_cancel_left (n := p) (m := 1))
theorem dL_law_235 : decode cL_law 235 = .ok (.aload_n 2, 1) := dk_44 (dw_u1 (q := 224 + 11) rfl ((congrArg (Option.map UInt8.toNat) (dw_st7 11)).trans (by decide +kernel)))
theorem dL_law_236 : decode cL_law 236 = .ok (.aload_n 0, 1) := dk_42 (dw_u1 (q := 224 + 12) rfl ((congrArg (Option.map UInt8.toNat) (dw_st7 12)).trans (by decide +kernel)))
theorem dL_law_237 : decode cL_law 237 = .ok (.iload 4, 2) := dk_21 (dw_u1 (q := 224 + 13) rfl ((congrArg (Option.map UInt8.toNat) (dw_st7 13)).trans (by decide +kernel))) (dw_u1 (q := 224 + 14) rfl ((congrArg (Option.map UInt8.toNat) (dw_st7 14)).trans (by decide +kernel)))
theorem dL_law_239 : decode cL_law 239 = .ok (.iconst 1, 1) := dk_4 (dw_u1 (q := 224 + 15) rfl ((congrArg (Option.map UInt8.toNat) (dw_st7 15)).trans (by decide +kernel)))
theorem dL_law_240 : decode cL_law 240 = .ok (.iadd, 1) := dk_96 (dw_u1 (q := 224 + 16) rfl ((congrArg (Option.map UInt8.toNat) (dw_st7 16)).trans (by decide +kernel)))
theorem dL_law_241 : decode cL_law 241 = .ok (.iaload, 1) := dk_46 (dw_u1 (q := 224 + 17) rfl ((congrArg (Option.map UInt8.toNat) (dw_st7 17)).trans (by decide +kernel)))
theorem dL_law_242 : decode cL_law 242 = .ok (.aload_n 0, 1) := dk_42 (dw_u1 (q := 224 + 18) rfl ((congrArg (Option.map UInt8.toNat) (dw_st7 18)).trans (by decide +kernel)))
theorem dL_law_243 : decode cL_law 243 = .ok (.iload 4, 2) := dk_21 (dw_u1 (q := 224 + 19) rfl ((congrArg (Option.map UInt8.toNat) (dw_st7 19)).trans (by decide +kernel))) (dw_u1 (q := 224 + 20) rfl ((congrArg (Option.map UInt8.toNat) (dw_st7 20)).trans (by decide +kernel)))
theorem dL_law_245 : decode cL_law 245 = .ok (.iconst 2, 1) := dk_5 (dw_u1 (q := 224 + 21) rfl ((congrArg (Option.map UInt8.toNat) (dw_st7 21)).trans (by decide +kernel)))
theorem dL_law_246 : decode cL_law 246 = .ok (.iadd, 1) := dk_96 (dw_u1 (q := 224 + 22) rfl ((congrArg (Option.map UInt8.toNat) (dw_st7 22)).trans (by decide +kernel)))
theorem dL_law_247 : decode cL_law 247 = .ok (.iaload, 1) := dk_46 (dw_u1 (q := 224 + 23) rfl ((congrArg (Option.map UInt8.toNat) (dw_st7 23)).trans (by decide +kernel)))
theorem dL_law_248 : decode cL_law 248 = .ok (.aload_n 0, 1) := dk_42 (dw_u1 (q := 224 + 24) rfl ((congrArg (Option.map UInt8.toNat) (dw_st7 24)).trans (by decide +kernel)))
theorem dL_law_249 : decode cL_law 249 = .ok (.iload 4, 2) := dk_21 (dw_u1 (q := 224 + 25) rfl ((congrArg (Option.map UInt8.toNat) (dw_st7 25)).trans (by decide +kernel))) (dw_u1 (q := 224 + 26) rfl ((congrArg (Option.map UInt8.toNat) (dw_st7 26)).trans (by decide +kernel)))
theorem dL_law_251 : decode cL_law 251 = .ok (.iconst 3, 1) := dk_6 (dw_u1 (q := 224 + 27) rfl ((congrArg (Option.map UInt8.toNat) (dw_st7 27)).trans (by decide +kernel)))
theorem dL_law_252 : decode cL_law 252 = .ok (.iadd, 1) := dk_96 (dw_u1 (q := 224 + 28) rfl ((congrArg (Option.map UInt8.toNat) (dw_st7 28)).trans (by decide +kernel)))
theorem dL_law_253 : decode cL_law 253 = .ok (.iaload, 1) := dk_46 (dw_u1 (q := 224 + 29) rfl ((congrArg (Option.map UInt8.toNat) (dw_st7 29)).trans (by decide +kernel)))
theorem dL_law_254 : decode cL_law 254 = .ok (.aload_n 0, 1) := dk_42 (dw_u1 (q := 224 + 30) rfl ((congrArg (Option.map UInt8.toNat) (dw_st7 30)).trans (by decide +kernel)))
theorem dL_law_255 : decode cL_law 255 = .ok (.iload 4, 2) := dk_21 (dw_u1 (q := 224 + 31) rfl ((congrArg (Option.map UInt8.toNat) (dw_st7 31)).trans (by decide +kernel))) (dw_u1 (q := 256 + 0) rfl ((congrArg (Option.map UInt8.toNat) (dw_st8 0)).trans (by decide +kernel)))
theorem dL_law_257 : decode cL_law 257 = .ok (.iconst 4, 1) := dk_7 (dw_u1 (q := 256 + 1) rfl ((congrArg (Option.map UInt8.toNat) (dw_st8 1)).trans (by decide +kernel)))
theorem dL_law_258 : decode cL_law 258 = .ok (.iadd, 1) := dk_96 (dw_u1 (q := 256 + 2) rfl ((congrArg (Option.map UInt8.toNat) (dw_st8 2)).trans (by decide +kernel)))
theorem dL_law_259 : decode cL_law 259 = .ok (.iaload, 1) := dk_46 (dw_u1 (q := 256 + 3) rfl ((congrArg (Option.map UInt8.toNat) (dw_st8 3)).trans (by decide +kernel)))
theorem dk_182 {c : ByteArray} {p : Nat} (h0 : (Reader.u1 : Decoder Nat) c p = .ok (182, p + 1)) {x y w : Nat} (h1 : (Reader.u1 : Decoder Nat) c (p + 1) = .ok (x, p + 1 + 1)) (h2 : (Reader.u1 : Decoder Nat) c (p + 1 + 1) = .ok (y, p + 1 + 1 + 1)) (hu : x * 256 + y = w) : decode c p = .ok (.invokevirtual w, 3) := dw_run (q := p + 1 + 1 + 1) (by
  subst hu
  show Except.bind ((Reader.u1 : Decoder Nat) c p) _ = _
  rw [h0]
  show Except.bind (Except.bind ((Reader.u1 : Decoder Nat) c (p + 1)) _) _ = _
  rw [h1]
  show Except.bind (Except.bind ((Reader.u1 : Decoder Nat) c (p + 1 + 1)) _) _ = _
  rw [h2]
  rfl) (Nat.add_sub_cancel_left (n := p) (m := 3))
theorem dL_law_260 : decode cL_law 260 = .ok (.invokevirtual 128, 3) := dk_182 (x := 0) (y := 128) (dw_u1 (q := 256 + 4) rfl ((congrArg (Option.map UInt8.toNat) (dw_st8 4)).trans (by decide +kernel))) (dw_u1 (q := 256 + 5) rfl ((congrArg (Option.map UInt8.toNat) (dw_st8 5)).trans (by decide +kernel))) (dw_u1 (q := 256 + 6) rfl ((congrArg (Option.map UInt8.toNat) (dw_st8 6)).trans (by decide +kernel))) (by decide +kernel)
theorem dL_law_263 : decode cL_law 263 = .ok (.istore 6, 2) := dk_54 (dw_u1 (q := 256 + 7) rfl ((congrArg (Option.map UInt8.toNat) (dw_st8 7)).trans (by decide +kernel))) (dw_u1 (q := 256 + 8) rfl ((congrArg (Option.map UInt8.toNat) (dw_st8 8)).trans (by decide +kernel)))
theorem dk_167 {c : ByteArray} {p : Nat} (h0 : (Reader.u1 : Decoder Nat) c p = .ok (167, p + 1)) {x y : Nat} {w : Int} (h1 : (Reader.u1 : Decoder Nat) c (p + 1) = .ok (x, p + 1 + 1)) (h2 : (Reader.u1 : Decoder Nat) c (p + 1 + 1) = .ok (y, p + 1 + 1 + 1)) (hu : Reader.signed 16 (x * 256 + y) = w) : decode c p = .ok (.goto w, 3) := dw_run (q := p + 1 + 1 + 1) (by
  subst hu
  show Except.bind ((Reader.u1 : Decoder Nat) c p) _ = _
  rw [h0]
  show Except.bind (Except.bind (Except.bind ((Reader.u1 : Decoder Nat) c (p + 1)) _) _) _ = _
  rw [h1]
  show Except.bind (Except.bind (Except.bind ((Reader.u1 : Decoder Nat) c (p + 1 + 1)) _) _) _ = _
  rw [h2]
  rfl) (Nat.add_sub_cancel_left (n := p) (m := 3))
theorem dL_law_265 : decode cL_law 265 = .ok (.goto 1409, 3) := dk_167 (x := 5) (y := 129) (dw_u1 (q := 256 + 9) rfl ((congrArg (Option.map UInt8.toNat) (dw_st8 9)).trans (by decide +kernel))) (dw_u1 (q := 256 + 10) rfl ((congrArg (Option.map UInt8.toNat) (dw_st8 10)).trans (by decide +kernel))) (dw_u1 (q := 256 + 11) rfl ((congrArg (Option.map UInt8.toNat) (dw_st8 11)).trans (by decide +kernel))) (by decide +kernel)
theorem dL_law_268 : decode cL_law 268 = .ok (.aload_n 1, 1) := dk_43 (dw_u1 (q := 256 + 12) rfl ((congrArg (Option.map UInt8.toNat) (dw_st8 12)).trans (by decide +kernel)))
theorem dL_law_269 : decode cL_law 269 = .ok (.aload_n 0, 1) := dk_42 (dw_u1 (q := 256 + 13) rfl ((congrArg (Option.map UInt8.toNat) (dw_st8 13)).trans (by decide +kernel)))
theorem dL_law_270 : decode cL_law 270 = .ok (.iload 4, 2) := dk_21 (dw_u1 (q := 256 + 14) rfl ((congrArg (Option.map UInt8.toNat) (dw_st8 14)).trans (by decide +kernel))) (dw_u1 (q := 256 + 15) rfl ((congrArg (Option.map UInt8.toNat) (dw_st8 15)).trans (by decide +kernel)))
theorem dL_law_272 : decode cL_law 272 = .ok (.iconst 1, 1) := dk_4 (dw_u1 (q := 256 + 16) rfl ((congrArg (Option.map UInt8.toNat) (dw_st8 16)).trans (by decide +kernel)))
theorem dL_law_273 : decode cL_law 273 = .ok (.iadd, 1) := dk_96 (dw_u1 (q := 256 + 17) rfl ((congrArg (Option.map UInt8.toNat) (dw_st8 17)).trans (by decide +kernel)))
theorem dL_law_274 : decode cL_law 274 = .ok (.iaload, 1) := dk_46 (dw_u1 (q := 256 + 18) rfl ((congrArg (Option.map UInt8.toNat) (dw_st8 18)).trans (by decide +kernel)))
theorem dL_law_275 : decode cL_law 275 = .ok (.aload_n 0, 1) := dk_42 (dw_u1 (q := 256 + 19) rfl ((congrArg (Option.map UInt8.toNat) (dw_st8 19)).trans (by decide +kernel)))
theorem dL_law_276 : decode cL_law 276 = .ok (.iload 4, 2) := dk_21 (dw_u1 (q := 256 + 20) rfl ((congrArg (Option.map UInt8.toNat) (dw_st8 20)).trans (by decide +kernel))) (dw_u1 (q := 256 + 21) rfl ((congrArg (Option.map UInt8.toNat) (dw_st8 21)).trans (by decide +kernel)))
theorem dL_law_278 : decode cL_law 278 = .ok (.iconst 2, 1) := dk_5 (dw_u1 (q := 256 + 22) rfl ((congrArg (Option.map UInt8.toNat) (dw_st8 22)).trans (by decide +kernel)))
theorem dL_law_279 : decode cL_law 279 = .ok (.iadd, 1) := dk_96 (dw_u1 (q := 256 + 23) rfl ((congrArg (Option.map UInt8.toNat) (dw_st8 23)).trans (by decide +kernel)))
theorem dL_law_280 : decode cL_law 280 = .ok (.iaload, 1) := dk_46 (dw_u1 (q := 256 + 24) rfl ((congrArg (Option.map UInt8.toNat) (dw_st8 24)).trans (by decide +kernel)))
theorem dL_law_281 : decode cL_law 281 = .ok (.aload_n 0, 1) := dk_42 (dw_u1 (q := 256 + 25) rfl ((congrArg (Option.map UInt8.toNat) (dw_st8 25)).trans (by decide +kernel)))
theorem dL_law_282 : decode cL_law 282 = .ok (.iload 4, 2) := dk_21 (dw_u1 (q := 256 + 26) rfl ((congrArg (Option.map UInt8.toNat) (dw_st8 26)).trans (by decide +kernel))) (dw_u1 (q := 256 + 27) rfl ((congrArg (Option.map UInt8.toNat) (dw_st8 27)).trans (by decide +kernel)))
theorem dL_law_284 : decode cL_law 284 = .ok (.iconst 3, 1) := dk_6 (dw_u1 (q := 256 + 28) rfl ((congrArg (Option.map UInt8.toNat) (dw_st8 28)).trans (by decide +kernel)))
theorem dL_law_285 : decode cL_law 285 = .ok (.iadd, 1) := dk_96 (dw_u1 (q := 256 + 29) rfl ((congrArg (Option.map UInt8.toNat) (dw_st8 29)).trans (by decide +kernel)))
theorem dL_law_286 : decode cL_law 286 = .ok (.iaload, 1) := dk_46 (dw_u1 (q := 256 + 30) rfl ((congrArg (Option.map UInt8.toNat) (dw_st8 30)).trans (by decide +kernel)))
theorem dL_law_287 : decode cL_law 287 = .ok (.aload_n 3, 1) := dk_45 (dw_u1 (q := 256 + 31) rfl ((congrArg (Option.map UInt8.toNat) (dw_st8 31)).trans (by decide +kernel)))
theorem dL_law_288 : decode cL_law 288 = .ok (.invokestatic 129, 3) := dk_184 (x := 0) (y := 129) (dw_u1 (q := 288 + 0) rfl ((congrArg (Option.map UInt8.toNat) (dw_st9 0)).trans (by decide +kernel))) (dw_u1 (q := 288 + 1) rfl ((congrArg (Option.map UInt8.toNat) (dw_st9 1)).trans (by decide +kernel))) (dw_u1 (q := 288 + 2) rfl ((congrArg (Option.map UInt8.toNat) (dw_st9 2)).trans (by decide +kernel))) (by decide +kernel)
theorem dL_law_291 : decode cL_law 291 = .ok (.istore 5, 2) := dk_54 (dw_u1 (q := 288 + 3) rfl ((congrArg (Option.map UInt8.toNat) (dw_st9 3)).trans (by decide +kernel))) (dw_u1 (q := 288 + 4) rfl ((congrArg (Option.map UInt8.toNat) (dw_st9 4)).trans (by decide +kernel)))
theorem dL_law_293 : decode cL_law 293 = .ok (.aload_n 2, 1) := dk_44 (dw_u1 (q := 288 + 5) rfl ((congrArg (Option.map UInt8.toNat) (dw_st9 5)).trans (by decide +kernel)))
theorem dL_law_294 : decode cL_law 294 = .ok (.aload_n 0, 1) := dk_42 (dw_u1 (q := 288 + 6) rfl ((congrArg (Option.map UInt8.toNat) (dw_st9 6)).trans (by decide +kernel)))
theorem dL_law_295 : decode cL_law 295 = .ok (.iload 4, 2) := dk_21 (dw_u1 (q := 288 + 7) rfl ((congrArg (Option.map UInt8.toNat) (dw_st9 7)).trans (by decide +kernel))) (dw_u1 (q := 288 + 8) rfl ((congrArg (Option.map UInt8.toNat) (dw_st9 8)).trans (by decide +kernel)))
theorem dL_law_297 : decode cL_law 297 = .ok (.iconst 1, 1) := dk_4 (dw_u1 (q := 288 + 9) rfl ((congrArg (Option.map UInt8.toNat) (dw_st9 9)).trans (by decide +kernel)))
theorem dL_law_298 : decode cL_law 298 = .ok (.iadd, 1) := dk_96 (dw_u1 (q := 288 + 10) rfl ((congrArg (Option.map UInt8.toNat) (dw_st9 10)).trans (by decide +kernel)))
theorem dL_law_299 : decode cL_law 299 = .ok (.iaload, 1) := dk_46 (dw_u1 (q := 288 + 11) rfl ((congrArg (Option.map UInt8.toNat) (dw_st9 11)).trans (by decide +kernel)))
theorem dL_law_300 : decode cL_law 300 = .ok (.aload_n 0, 1) := dk_42 (dw_u1 (q := 288 + 12) rfl ((congrArg (Option.map UInt8.toNat) (dw_st9 12)).trans (by decide +kernel)))
theorem dL_law_301 : decode cL_law 301 = .ok (.iload 4, 2) := dk_21 (dw_u1 (q := 288 + 13) rfl ((congrArg (Option.map UInt8.toNat) (dw_st9 13)).trans (by decide +kernel))) (dw_u1 (q := 288 + 14) rfl ((congrArg (Option.map UInt8.toNat) (dw_st9 14)).trans (by decide +kernel)))
theorem dL_law_303 : decode cL_law 303 = .ok (.iconst 2, 1) := dk_5 (dw_u1 (q := 288 + 15) rfl ((congrArg (Option.map UInt8.toNat) (dw_st9 15)).trans (by decide +kernel)))
theorem dL_law_304 : decode cL_law 304 = .ok (.iadd, 1) := dk_96 (dw_u1 (q := 288 + 16) rfl ((congrArg (Option.map UInt8.toNat) (dw_st9 16)).trans (by decide +kernel)))
theorem dL_law_305 : decode cL_law 305 = .ok (.iaload, 1) := dk_46 (dw_u1 (q := 288 + 17) rfl ((congrArg (Option.map UInt8.toNat) (dw_st9 17)).trans (by decide +kernel)))
theorem dL_law_306 : decode cL_law 306 = .ok (.aload_n 0, 1) := dk_42 (dw_u1 (q := 288 + 18) rfl ((congrArg (Option.map UInt8.toNat) (dw_st9 18)).trans (by decide +kernel)))
theorem dL_law_307 : decode cL_law 307 = .ok (.iload 4, 2) := dk_21 (dw_u1 (q := 288 + 19) rfl ((congrArg (Option.map UInt8.toNat) (dw_st9 19)).trans (by decide +kernel))) (dw_u1 (q := 288 + 20) rfl ((congrArg (Option.map UInt8.toNat) (dw_st9 20)).trans (by decide +kernel)))
theorem dL_law_309 : decode cL_law 309 = .ok (.iconst 3, 1) := dk_6 (dw_u1 (q := 288 + 21) rfl ((congrArg (Option.map UInt8.toNat) (dw_st9 21)).trans (by decide +kernel)))
theorem dL_law_310 : decode cL_law 310 = .ok (.iadd, 1) := dk_96 (dw_u1 (q := 288 + 22) rfl ((congrArg (Option.map UInt8.toNat) (dw_st9 22)).trans (by decide +kernel)))
theorem dL_law_311 : decode cL_law 311 = .ok (.iaload, 1) := dk_46 (dw_u1 (q := 288 + 23) rfl ((congrArg (Option.map UInt8.toNat) (dw_st9 23)).trans (by decide +kernel)))
theorem dL_law_312 : decode cL_law 312 = .ok (.invokevirtual 132, 3) := dk_182 (x := 0) (y := 132) (dw_u1 (q := 288 + 24) rfl ((congrArg (Option.map UInt8.toNat) (dw_st9 24)).trans (by decide +kernel))) (dw_u1 (q := 288 + 25) rfl ((congrArg (Option.map UInt8.toNat) (dw_st9 25)).trans (by decide +kernel))) (dw_u1 (q := 288 + 26) rfl ((congrArg (Option.map UInt8.toNat) (dw_st9 26)).trans (by decide +kernel))) (by decide +kernel)
theorem dL_law_315 : decode cL_law 315 = .ok (.istore 6, 2) := dk_54 (dw_u1 (q := 288 + 27) rfl ((congrArg (Option.map UInt8.toNat) (dw_st9 27)).trans (by decide +kernel))) (dw_u1 (q := 288 + 28) rfl ((congrArg (Option.map UInt8.toNat) (dw_st9 28)).trans (by decide +kernel)))
theorem dL_law_317 : decode cL_law 317 = .ok (.goto 1357, 3) := dk_167 (x := 5) (y := 77) (dw_u1 (q := 288 + 29) rfl ((congrArg (Option.map UInt8.toNat) (dw_st9 29)).trans (by decide +kernel))) (dw_u1 (q := 288 + 30) rfl ((congrArg (Option.map UInt8.toNat) (dw_st9 30)).trans (by decide +kernel))) (dw_u1 (q := 288 + 31) rfl ((congrArg (Option.map UInt8.toNat) (dw_st9 31)).trans (by decide +kernel))) (by decide +kernel)
theorem dL_law_320 : decode cL_law 320 = .ok (.aload_n 1, 1) := dk_43 (dw_u1 (q := 320 + 0) rfl ((congrArg (Option.map UInt8.toNat) (dw_st10 0)).trans (by decide +kernel)))
theorem dL_law_321 : decode cL_law 321 = .ok (.aload_n 0, 1) := dk_42 (dw_u1 (q := 320 + 1) rfl ((congrArg (Option.map UInt8.toNat) (dw_st10 1)).trans (by decide +kernel)))
theorem dL_law_322 : decode cL_law 322 = .ok (.iload 4, 2) := dk_21 (dw_u1 (q := 320 + 2) rfl ((congrArg (Option.map UInt8.toNat) (dw_st10 2)).trans (by decide +kernel))) (dw_u1 (q := 320 + 3) rfl ((congrArg (Option.map UInt8.toNat) (dw_st10 3)).trans (by decide +kernel)))
theorem dL_law_324 : decode cL_law 324 = .ok (.iconst 1, 1) := dk_4 (dw_u1 (q := 320 + 4) rfl ((congrArg (Option.map UInt8.toNat) (dw_st10 4)).trans (by decide +kernel)))
theorem dL_law_325 : decode cL_law 325 = .ok (.iadd, 1) := dk_96 (dw_u1 (q := 320 + 5) rfl ((congrArg (Option.map UInt8.toNat) (dw_st10 5)).trans (by decide +kernel)))
theorem dL_law_326 : decode cL_law 326 = .ok (.iaload, 1) := dk_46 (dw_u1 (q := 320 + 6) rfl ((congrArg (Option.map UInt8.toNat) (dw_st10 6)).trans (by decide +kernel)))
theorem dL_law_327 : decode cL_law 327 = .ok (.aload_n 0, 1) := dk_42 (dw_u1 (q := 320 + 7) rfl ((congrArg (Option.map UInt8.toNat) (dw_st10 7)).trans (by decide +kernel)))
theorem dL_law_328 : decode cL_law 328 = .ok (.iload 4, 2) := dk_21 (dw_u1 (q := 320 + 8) rfl ((congrArg (Option.map UInt8.toNat) (dw_st10 8)).trans (by decide +kernel))) (dw_u1 (q := 320 + 9) rfl ((congrArg (Option.map UInt8.toNat) (dw_st10 9)).trans (by decide +kernel)))
theorem dL_law_330 : decode cL_law 330 = .ok (.iconst 2, 1) := dk_5 (dw_u1 (q := 320 + 10) rfl ((congrArg (Option.map UInt8.toNat) (dw_st10 10)).trans (by decide +kernel)))
theorem dL_law_331 : decode cL_law 331 = .ok (.iadd, 1) := dk_96 (dw_u1 (q := 320 + 11) rfl ((congrArg (Option.map UInt8.toNat) (dw_st10 11)).trans (by decide +kernel)))
theorem dL_law_332 : decode cL_law 332 = .ok (.iaload, 1) := dk_46 (dw_u1 (q := 320 + 12) rfl ((congrArg (Option.map UInt8.toNat) (dw_st10 12)).trans (by decide +kernel)))
theorem dL_law_333 : decode cL_law 333 = .ok (.aload_n 0, 1) := dk_42 (dw_u1 (q := 320 + 13) rfl ((congrArg (Option.map UInt8.toNat) (dw_st10 13)).trans (by decide +kernel)))
theorem dL_law_334 : decode cL_law 334 = .ok (.iload 4, 2) := dk_21 (dw_u1 (q := 320 + 14) rfl ((congrArg (Option.map UInt8.toNat) (dw_st10 14)).trans (by decide +kernel))) (dw_u1 (q := 320 + 15) rfl ((congrArg (Option.map UInt8.toNat) (dw_st10 15)).trans (by decide +kernel)))
theorem dL_law_336 : decode cL_law 336 = .ok (.iconst 3, 1) := dk_6 (dw_u1 (q := 320 + 16) rfl ((congrArg (Option.map UInt8.toNat) (dw_st10 16)).trans (by decide +kernel)))
theorem dL_law_337 : decode cL_law 337 = .ok (.iadd, 1) := dk_96 (dw_u1 (q := 320 + 17) rfl ((congrArg (Option.map UInt8.toNat) (dw_st10 17)).trans (by decide +kernel)))
theorem dL_law_338 : decode cL_law 338 = .ok (.iaload, 1) := dk_46 (dw_u1 (q := 320 + 18) rfl ((congrArg (Option.map UInt8.toNat) (dw_st10 18)).trans (by decide +kernel)))
theorem dL_law_339 : decode cL_law 339 = .ok (.aload_n 3, 1) := dk_45 (dw_u1 (q := 320 + 19) rfl ((congrArg (Option.map UInt8.toNat) (dw_st10 19)).trans (by decide +kernel)))
theorem dL_law_340 : decode cL_law 340 = .ok (.invokestatic 133, 3) := dk_184 (x := 0) (y := 133) (dw_u1 (q := 320 + 20) rfl ((congrArg (Option.map UInt8.toNat) (dw_st10 20)).trans (by decide +kernel))) (dw_u1 (q := 320 + 21) rfl ((congrArg (Option.map UInt8.toNat) (dw_st10 21)).trans (by decide +kernel))) (dw_u1 (q := 320 + 22) rfl ((congrArg (Option.map UInt8.toNat) (dw_st10 22)).trans (by decide +kernel))) (by decide +kernel)
theorem dL_law_343 : decode cL_law 343 = .ok (.istore 5, 2) := dk_54 (dw_u1 (q := 320 + 23) rfl ((congrArg (Option.map UInt8.toNat) (dw_st10 23)).trans (by decide +kernel))) (dw_u1 (q := 320 + 24) rfl ((congrArg (Option.map UInt8.toNat) (dw_st10 24)).trans (by decide +kernel)))
theorem dL_law_345 : decode cL_law 345 = .ok (.aload_n 2, 1) := dk_44 (dw_u1 (q := 320 + 25) rfl ((congrArg (Option.map UInt8.toNat) (dw_st10 25)).trans (by decide +kernel)))
theorem dL_law_346 : decode cL_law 346 = .ok (.aload_n 0, 1) := dk_42 (dw_u1 (q := 320 + 26) rfl ((congrArg (Option.map UInt8.toNat) (dw_st10 26)).trans (by decide +kernel)))
theorem dL_law_347 : decode cL_law 347 = .ok (.iload 4, 2) := dk_21 (dw_u1 (q := 320 + 27) rfl ((congrArg (Option.map UInt8.toNat) (dw_st10 27)).trans (by decide +kernel))) (dw_u1 (q := 320 + 28) rfl ((congrArg (Option.map UInt8.toNat) (dw_st10 28)).trans (by decide +kernel)))
theorem dL_law_349 : decode cL_law 349 = .ok (.iconst 1, 1) := dk_4 (dw_u1 (q := 320 + 29) rfl ((congrArg (Option.map UInt8.toNat) (dw_st10 29)).trans (by decide +kernel)))
theorem dL_law_350 : decode cL_law 350 = .ok (.iadd, 1) := dk_96 (dw_u1 (q := 320 + 30) rfl ((congrArg (Option.map UInt8.toNat) (dw_st10 30)).trans (by decide +kernel)))
theorem dL_law_351 : decode cL_law 351 = .ok (.iaload, 1) := dk_46 (dw_u1 (q := 320 + 31) rfl ((congrArg (Option.map UInt8.toNat) (dw_st10 31)).trans (by decide +kernel)))
theorem dL_law_352 : decode cL_law 352 = .ok (.aload_n 0, 1) := dk_42 (dw_u1 (q := 352 + 0) rfl ((congrArg (Option.map UInt8.toNat) (dw_st11 0)).trans (by decide +kernel)))
theorem dL_law_353 : decode cL_law 353 = .ok (.iload 4, 2) := dk_21 (dw_u1 (q := 352 + 1) rfl ((congrArg (Option.map UInt8.toNat) (dw_st11 1)).trans (by decide +kernel))) (dw_u1 (q := 352 + 2) rfl ((congrArg (Option.map UInt8.toNat) (dw_st11 2)).trans (by decide +kernel)))
theorem dL_law_355 : decode cL_law 355 = .ok (.iconst 2, 1) := dk_5 (dw_u1 (q := 352 + 3) rfl ((congrArg (Option.map UInt8.toNat) (dw_st11 3)).trans (by decide +kernel)))
theorem dL_law_356 : decode cL_law 356 = .ok (.iadd, 1) := dk_96 (dw_u1 (q := 352 + 4) rfl ((congrArg (Option.map UInt8.toNat) (dw_st11 4)).trans (by decide +kernel)))
theorem dL_law_357 : decode cL_law 357 = .ok (.iaload, 1) := dk_46 (dw_u1 (q := 352 + 5) rfl ((congrArg (Option.map UInt8.toNat) (dw_st11 5)).trans (by decide +kernel)))
theorem dL_law_358 : decode cL_law 358 = .ok (.aload_n 0, 1) := dk_42 (dw_u1 (q := 352 + 6) rfl ((congrArg (Option.map UInt8.toNat) (dw_st11 6)).trans (by decide +kernel)))
theorem dL_law_359 : decode cL_law 359 = .ok (.iload 4, 2) := dk_21 (dw_u1 (q := 352 + 7) rfl ((congrArg (Option.map UInt8.toNat) (dw_st11 7)).trans (by decide +kernel))) (dw_u1 (q := 352 + 8) rfl ((congrArg (Option.map UInt8.toNat) (dw_st11 8)).trans (by decide +kernel)))
theorem dL_law_361 : decode cL_law 361 = .ok (.iconst 3, 1) := dk_6 (dw_u1 (q := 352 + 9) rfl ((congrArg (Option.map UInt8.toNat) (dw_st11 9)).trans (by decide +kernel)))
theorem dL_law_362 : decode cL_law 362 = .ok (.iadd, 1) := dk_96 (dw_u1 (q := 352 + 10) rfl ((congrArg (Option.map UInt8.toNat) (dw_st11 10)).trans (by decide +kernel)))
theorem dL_law_363 : decode cL_law 363 = .ok (.iaload, 1) := dk_46 (dw_u1 (q := 352 + 11) rfl ((congrArg (Option.map UInt8.toNat) (dw_st11 11)).trans (by decide +kernel)))
theorem dL_law_364 : decode cL_law 364 = .ok (.invokevirtual 135, 3) := dk_182 (x := 0) (y := 135) (dw_u1 (q := 352 + 12) rfl ((congrArg (Option.map UInt8.toNat) (dw_st11 12)).trans (by decide +kernel))) (dw_u1 (q := 352 + 13) rfl ((congrArg (Option.map UInt8.toNat) (dw_st11 13)).trans (by decide +kernel))) (dw_u1 (q := 352 + 14) rfl ((congrArg (Option.map UInt8.toNat) (dw_st11 14)).trans (by decide +kernel))) (by decide +kernel)
theorem dL_law_367 : decode cL_law 367 = .ok (.istore 6, 2) := dk_54 (dw_u1 (q := 352 + 15) rfl ((congrArg (Option.map UInt8.toNat) (dw_st11 15)).trans (by decide +kernel))) (dw_u1 (q := 352 + 16) rfl ((congrArg (Option.map UInt8.toNat) (dw_st11 16)).trans (by decide +kernel)))
theorem dL_law_369 : decode cL_law 369 = .ok (.goto 1305, 3) := dk_167 (x := 5) (y := 25) (dw_u1 (q := 352 + 17) rfl ((congrArg (Option.map UInt8.toNat) (dw_st11 17)).trans (by decide +kernel))) (dw_u1 (q := 352 + 18) rfl ((congrArg (Option.map UInt8.toNat) (dw_st11 18)).trans (by decide +kernel))) (dw_u1 (q := 352 + 19) rfl ((congrArg (Option.map UInt8.toNat) (dw_st11 19)).trans (by decide +kernel))) (by decide +kernel)
theorem dL_law_372 : decode cL_law 372 = .ok (.aload_n 1, 1) := dk_43 (dw_u1 (q := 352 + 20) rfl ((congrArg (Option.map UInt8.toNat) (dw_st11 20)).trans (by decide +kernel)))
theorem dL_law_373 : decode cL_law 373 = .ok (.aload_n 0, 1) := dk_42 (dw_u1 (q := 352 + 21) rfl ((congrArg (Option.map UInt8.toNat) (dw_st11 21)).trans (by decide +kernel)))
theorem dL_law_374 : decode cL_law 374 = .ok (.iload 4, 2) := dk_21 (dw_u1 (q := 352 + 22) rfl ((congrArg (Option.map UInt8.toNat) (dw_st11 22)).trans (by decide +kernel))) (dw_u1 (q := 352 + 23) rfl ((congrArg (Option.map UInt8.toNat) (dw_st11 23)).trans (by decide +kernel)))
theorem dL_law_376 : decode cL_law 376 = .ok (.iconst 1, 1) := dk_4 (dw_u1 (q := 352 + 24) rfl ((congrArg (Option.map UInt8.toNat) (dw_st11 24)).trans (by decide +kernel)))
theorem dL_law_377 : decode cL_law 377 = .ok (.iadd, 1) := dk_96 (dw_u1 (q := 352 + 25) rfl ((congrArg (Option.map UInt8.toNat) (dw_st11 25)).trans (by decide +kernel)))
theorem dL_law_378 : decode cL_law 378 = .ok (.iaload, 1) := dk_46 (dw_u1 (q := 352 + 26) rfl ((congrArg (Option.map UInt8.toNat) (dw_st11 26)).trans (by decide +kernel)))
theorem dL_law_379 : decode cL_law 379 = .ok (.aload_n 0, 1) := dk_42 (dw_u1 (q := 352 + 27) rfl ((congrArg (Option.map UInt8.toNat) (dw_st11 27)).trans (by decide +kernel)))
theorem dL_law_380 : decode cL_law 380 = .ok (.iload 4, 2) := dk_21 (dw_u1 (q := 352 + 28) rfl ((congrArg (Option.map UInt8.toNat) (dw_st11 28)).trans (by decide +kernel))) (dw_u1 (q := 352 + 29) rfl ((congrArg (Option.map UInt8.toNat) (dw_st11 29)).trans (by decide +kernel)))
theorem dL_law_382 : decode cL_law 382 = .ok (.iconst 2, 1) := dk_5 (dw_u1 (q := 352 + 30) rfl ((congrArg (Option.map UInt8.toNat) (dw_st11 30)).trans (by decide +kernel)))
theorem dL_law_383 : decode cL_law 383 = .ok (.iadd, 1) := dk_96 (dw_u1 (q := 352 + 31) rfl ((congrArg (Option.map UInt8.toNat) (dw_st11 31)).trans (by decide +kernel)))
theorem dL_law_384 : decode cL_law 384 = .ok (.iaload, 1) := dk_46 (dw_u1 (q := 384 + 0) rfl ((congrArg (Option.map UInt8.toNat) (dw_st12 0)).trans (by decide +kernel)))
theorem dL_law_385 : decode cL_law 385 = .ok (.aload_n 0, 1) := dk_42 (dw_u1 (q := 384 + 1) rfl ((congrArg (Option.map UInt8.toNat) (dw_st12 1)).trans (by decide +kernel)))
theorem dL_law_386 : decode cL_law 386 = .ok (.iload 4, 2) := dk_21 (dw_u1 (q := 384 + 2) rfl ((congrArg (Option.map UInt8.toNat) (dw_st12 2)).trans (by decide +kernel))) (dw_u1 (q := 384 + 3) rfl ((congrArg (Option.map UInt8.toNat) (dw_st12 3)).trans (by decide +kernel)))
theorem dL_law_388 : decode cL_law 388 = .ok (.iconst 3, 1) := dk_6 (dw_u1 (q := 384 + 4) rfl ((congrArg (Option.map UInt8.toNat) (dw_st12 4)).trans (by decide +kernel)))
theorem dL_law_389 : decode cL_law 389 = .ok (.iadd, 1) := dk_96 (dw_u1 (q := 384 + 5) rfl ((congrArg (Option.map UInt8.toNat) (dw_st12 5)).trans (by decide +kernel)))
theorem dL_law_390 : decode cL_law 390 = .ok (.iaload, 1) := dk_46 (dw_u1 (q := 384 + 6) rfl ((congrArg (Option.map UInt8.toNat) (dw_st12 6)).trans (by decide +kernel)))
theorem dL_law_391 : decode cL_law 391 = .ok (.aload_n 3, 1) := dk_45 (dw_u1 (q := 384 + 7) rfl ((congrArg (Option.map UInt8.toNat) (dw_st12 7)).trans (by decide +kernel)))
theorem dL_law_392 : decode cL_law 392 = .ok (.invokestatic 136, 3) := dk_184 (x := 0) (y := 136) (dw_u1 (q := 384 + 8) rfl ((congrArg (Option.map UInt8.toNat) (dw_st12 8)).trans (by decide +kernel))) (dw_u1 (q := 384 + 9) rfl ((congrArg (Option.map UInt8.toNat) (dw_st12 9)).trans (by decide +kernel))) (dw_u1 (q := 384 + 10) rfl ((congrArg (Option.map UInt8.toNat) (dw_st12 10)).trans (by decide +kernel))) (by decide +kernel)
theorem dL_law_395 : decode cL_law 395 = .ok (.istore 5, 2) := dk_54 (dw_u1 (q := 384 + 11) rfl ((congrArg (Option.map UInt8.toNat) (dw_st12 11)).trans (by decide +kernel))) (dw_u1 (q := 384 + 12) rfl ((congrArg (Option.map UInt8.toNat) (dw_st12 12)).trans (by decide +kernel)))
theorem dL_law_397 : decode cL_law 397 = .ok (.aload_n 2, 1) := dk_44 (dw_u1 (q := 384 + 13) rfl ((congrArg (Option.map UInt8.toNat) (dw_st12 13)).trans (by decide +kernel)))
theorem dL_law_398 : decode cL_law 398 = .ok (.aload_n 0, 1) := dk_42 (dw_u1 (q := 384 + 14) rfl ((congrArg (Option.map UInt8.toNat) (dw_st12 14)).trans (by decide +kernel)))
theorem dL_law_399 : decode cL_law 399 = .ok (.iload 4, 2) := dk_21 (dw_u1 (q := 384 + 15) rfl ((congrArg (Option.map UInt8.toNat) (dw_st12 15)).trans (by decide +kernel))) (dw_u1 (q := 384 + 16) rfl ((congrArg (Option.map UInt8.toNat) (dw_st12 16)).trans (by decide +kernel)))
theorem dL_law_401 : decode cL_law 401 = .ok (.iconst 1, 1) := dk_4 (dw_u1 (q := 384 + 17) rfl ((congrArg (Option.map UInt8.toNat) (dw_st12 17)).trans (by decide +kernel)))
theorem dL_law_402 : decode cL_law 402 = .ok (.iadd, 1) := dk_96 (dw_u1 (q := 384 + 18) rfl ((congrArg (Option.map UInt8.toNat) (dw_st12 18)).trans (by decide +kernel)))
theorem dL_law_403 : decode cL_law 403 = .ok (.iaload, 1) := dk_46 (dw_u1 (q := 384 + 19) rfl ((congrArg (Option.map UInt8.toNat) (dw_st12 19)).trans (by decide +kernel)))
theorem dL_law_404 : decode cL_law 404 = .ok (.aload_n 0, 1) := dk_42 (dw_u1 (q := 384 + 20) rfl ((congrArg (Option.map UInt8.toNat) (dw_st12 20)).trans (by decide +kernel)))
theorem dL_law_405 : decode cL_law 405 = .ok (.iload 4, 2) := dk_21 (dw_u1 (q := 384 + 21) rfl ((congrArg (Option.map UInt8.toNat) (dw_st12 21)).trans (by decide +kernel))) (dw_u1 (q := 384 + 22) rfl ((congrArg (Option.map UInt8.toNat) (dw_st12 22)).trans (by decide +kernel)))
theorem dL_law_407 : decode cL_law 407 = .ok (.iconst 2, 1) := dk_5 (dw_u1 (q := 384 + 23) rfl ((congrArg (Option.map UInt8.toNat) (dw_st12 23)).trans (by decide +kernel)))
theorem dL_law_408 : decode cL_law 408 = .ok (.iadd, 1) := dk_96 (dw_u1 (q := 384 + 24) rfl ((congrArg (Option.map UInt8.toNat) (dw_st12 24)).trans (by decide +kernel)))
theorem dL_law_409 : decode cL_law 409 = .ok (.iaload, 1) := dk_46 (dw_u1 (q := 384 + 25) rfl ((congrArg (Option.map UInt8.toNat) (dw_st12 25)).trans (by decide +kernel)))
theorem dL_law_410 : decode cL_law 410 = .ok (.aload_n 0, 1) := dk_42 (dw_u1 (q := 384 + 26) rfl ((congrArg (Option.map UInt8.toNat) (dw_st12 26)).trans (by decide +kernel)))
theorem dL_law_411 : decode cL_law 411 = .ok (.iload 4, 2) := dk_21 (dw_u1 (q := 384 + 27) rfl ((congrArg (Option.map UInt8.toNat) (dw_st12 27)).trans (by decide +kernel))) (dw_u1 (q := 384 + 28) rfl ((congrArg (Option.map UInt8.toNat) (dw_st12 28)).trans (by decide +kernel)))
theorem dL_law_413 : decode cL_law 413 = .ok (.iconst 3, 1) := dk_6 (dw_u1 (q := 384 + 29) rfl ((congrArg (Option.map UInt8.toNat) (dw_st12 29)).trans (by decide +kernel)))
theorem dL_law_414 : decode cL_law 414 = .ok (.iadd, 1) := dk_96 (dw_u1 (q := 384 + 30) rfl ((congrArg (Option.map UInt8.toNat) (dw_st12 30)).trans (by decide +kernel)))
theorem dL_law_415 : decode cL_law 415 = .ok (.iaload, 1) := dk_46 (dw_u1 (q := 384 + 31) rfl ((congrArg (Option.map UInt8.toNat) (dw_st12 31)).trans (by decide +kernel)))
theorem dL_law_416 : decode cL_law 416 = .ok (.invokevirtual 138, 3) := dk_182 (x := 0) (y := 138) (dw_u1 (q := 416 + 0) rfl ((congrArg (Option.map UInt8.toNat) (dw_st13 0)).trans (by decide +kernel))) (dw_u1 (q := 416 + 1) rfl ((congrArg (Option.map UInt8.toNat) (dw_st13 1)).trans (by decide +kernel))) (dw_u1 (q := 416 + 2) rfl ((congrArg (Option.map UInt8.toNat) (dw_st13 2)).trans (by decide +kernel))) (by decide +kernel)
theorem dL_law_419 : decode cL_law 419 = .ok (.istore 6, 2) := dk_54 (dw_u1 (q := 416 + 3) rfl ((congrArg (Option.map UInt8.toNat) (dw_st13 3)).trans (by decide +kernel))) (dw_u1 (q := 416 + 4) rfl ((congrArg (Option.map UInt8.toNat) (dw_st13 4)).trans (by decide +kernel)))
theorem dL_law_421 : decode cL_law 421 = .ok (.goto 1253, 3) := dk_167 (x := 4) (y := 229) (dw_u1 (q := 416 + 5) rfl ((congrArg (Option.map UInt8.toNat) (dw_st13 5)).trans (by decide +kernel))) (dw_u1 (q := 416 + 6) rfl ((congrArg (Option.map UInt8.toNat) (dw_st13 6)).trans (by decide +kernel))) (dw_u1 (q := 416 + 7) rfl ((congrArg (Option.map UInt8.toNat) (dw_st13 7)).trans (by decide +kernel))) (by decide +kernel)
theorem dL_law_424 : decode cL_law 424 = .ok (.aload_n 1, 1) := dk_43 (dw_u1 (q := 416 + 8) rfl ((congrArg (Option.map UInt8.toNat) (dw_st13 8)).trans (by decide +kernel)))
theorem dL_law_425 : decode cL_law 425 = .ok (.aload_n 0, 1) := dk_42 (dw_u1 (q := 416 + 9) rfl ((congrArg (Option.map UInt8.toNat) (dw_st13 9)).trans (by decide +kernel)))
theorem dL_law_426 : decode cL_law 426 = .ok (.iload 4, 2) := dk_21 (dw_u1 (q := 416 + 10) rfl ((congrArg (Option.map UInt8.toNat) (dw_st13 10)).trans (by decide +kernel))) (dw_u1 (q := 416 + 11) rfl ((congrArg (Option.map UInt8.toNat) (dw_st13 11)).trans (by decide +kernel)))
theorem dL_law_428 : decode cL_law 428 = .ok (.iconst 1, 1) := dk_4 (dw_u1 (q := 416 + 12) rfl ((congrArg (Option.map UInt8.toNat) (dw_st13 12)).trans (by decide +kernel)))
theorem dL_law_429 : decode cL_law 429 = .ok (.iadd, 1) := dk_96 (dw_u1 (q := 416 + 13) rfl ((congrArg (Option.map UInt8.toNat) (dw_st13 13)).trans (by decide +kernel)))
theorem dL_law_430 : decode cL_law 430 = .ok (.iaload, 1) := dk_46 (dw_u1 (q := 416 + 14) rfl ((congrArg (Option.map UInt8.toNat) (dw_st13 14)).trans (by decide +kernel)))
theorem dL_law_431 : decode cL_law 431 = .ok (.aload_n 0, 1) := dk_42 (dw_u1 (q := 416 + 15) rfl ((congrArg (Option.map UInt8.toNat) (dw_st13 15)).trans (by decide +kernel)))
theorem dL_law_432 : decode cL_law 432 = .ok (.iload 4, 2) := dk_21 (dw_u1 (q := 416 + 16) rfl ((congrArg (Option.map UInt8.toNat) (dw_st13 16)).trans (by decide +kernel))) (dw_u1 (q := 416 + 17) rfl ((congrArg (Option.map UInt8.toNat) (dw_st13 17)).trans (by decide +kernel)))
theorem dL_law_434 : decode cL_law 434 = .ok (.iconst 2, 1) := dk_5 (dw_u1 (q := 416 + 18) rfl ((congrArg (Option.map UInt8.toNat) (dw_st13 18)).trans (by decide +kernel)))
theorem dL_law_435 : decode cL_law 435 = .ok (.iadd, 1) := dk_96 (dw_u1 (q := 416 + 19) rfl ((congrArg (Option.map UInt8.toNat) (dw_st13 19)).trans (by decide +kernel)))
theorem dL_law_436 : decode cL_law 436 = .ok (.iaload, 1) := dk_46 (dw_u1 (q := 416 + 20) rfl ((congrArg (Option.map UInt8.toNat) (dw_st13 20)).trans (by decide +kernel)))
theorem dL_law_437 : decode cL_law 437 = .ok (.aload_n 0, 1) := dk_42 (dw_u1 (q := 416 + 21) rfl ((congrArg (Option.map UInt8.toNat) (dw_st13 21)).trans (by decide +kernel)))
theorem dL_law_438 : decode cL_law 438 = .ok (.iload 4, 2) := dk_21 (dw_u1 (q := 416 + 22) rfl ((congrArg (Option.map UInt8.toNat) (dw_st13 22)).trans (by decide +kernel))) (dw_u1 (q := 416 + 23) rfl ((congrArg (Option.map UInt8.toNat) (dw_st13 23)).trans (by decide +kernel)))
theorem dL_law_440 : decode cL_law 440 = .ok (.iconst 3, 1) := dk_6 (dw_u1 (q := 416 + 24) rfl ((congrArg (Option.map UInt8.toNat) (dw_st13 24)).trans (by decide +kernel)))
theorem dL_law_441 : decode cL_law 441 = .ok (.iadd, 1) := dk_96 (dw_u1 (q := 416 + 25) rfl ((congrArg (Option.map UInt8.toNat) (dw_st13 25)).trans (by decide +kernel)))
theorem dL_law_442 : decode cL_law 442 = .ok (.iaload, 1) := dk_46 (dw_u1 (q := 416 + 26) rfl ((congrArg (Option.map UInt8.toNat) (dw_st13 26)).trans (by decide +kernel)))
theorem dL_law_443 : decode cL_law 443 = .ok (.aload_n 3, 1) := dk_45 (dw_u1 (q := 416 + 27) rfl ((congrArg (Option.map UInt8.toNat) (dw_st13 27)).trans (by decide +kernel)))
theorem dL_law_444 : decode cL_law 444 = .ok (.invokestatic 139, 3) := dk_184 (x := 0) (y := 139) (dw_u1 (q := 416 + 28) rfl ((congrArg (Option.map UInt8.toNat) (dw_st13 28)).trans (by decide +kernel))) (dw_u1 (q := 416 + 29) rfl ((congrArg (Option.map UInt8.toNat) (dw_st13 29)).trans (by decide +kernel))) (dw_u1 (q := 416 + 30) rfl ((congrArg (Option.map UInt8.toNat) (dw_st13 30)).trans (by decide +kernel))) (by decide +kernel)
theorem dL_law_447 : decode cL_law 447 = .ok (.istore 5, 2) := dk_54 (dw_u1 (q := 416 + 31) rfl ((congrArg (Option.map UInt8.toNat) (dw_st13 31)).trans (by decide +kernel))) (dw_u1 (q := 448 + 0) rfl ((congrArg (Option.map UInt8.toNat) (dw_st14 0)).trans (by decide +kernel)))
theorem dL_law_449 : decode cL_law 449 = .ok (.aload_n 2, 1) := dk_44 (dw_u1 (q := 448 + 1) rfl ((congrArg (Option.map UInt8.toNat) (dw_st14 1)).trans (by decide +kernel)))
theorem dL_law_450 : decode cL_law 450 = .ok (.aload_n 0, 1) := dk_42 (dw_u1 (q := 448 + 2) rfl ((congrArg (Option.map UInt8.toNat) (dw_st14 2)).trans (by decide +kernel)))
theorem dL_law_451 : decode cL_law 451 = .ok (.iload 4, 2) := dk_21 (dw_u1 (q := 448 + 3) rfl ((congrArg (Option.map UInt8.toNat) (dw_st14 3)).trans (by decide +kernel))) (dw_u1 (q := 448 + 4) rfl ((congrArg (Option.map UInt8.toNat) (dw_st14 4)).trans (by decide +kernel)))
theorem dL_law_453 : decode cL_law 453 = .ok (.iconst 1, 1) := dk_4 (dw_u1 (q := 448 + 5) rfl ((congrArg (Option.map UInt8.toNat) (dw_st14 5)).trans (by decide +kernel)))
theorem dL_law_454 : decode cL_law 454 = .ok (.iadd, 1) := dk_96 (dw_u1 (q := 448 + 6) rfl ((congrArg (Option.map UInt8.toNat) (dw_st14 6)).trans (by decide +kernel)))
theorem dL_law_455 : decode cL_law 455 = .ok (.iaload, 1) := dk_46 (dw_u1 (q := 448 + 7) rfl ((congrArg (Option.map UInt8.toNat) (dw_st14 7)).trans (by decide +kernel)))
theorem dL_law_456 : decode cL_law 456 = .ok (.aload_n 0, 1) := dk_42 (dw_u1 (q := 448 + 8) rfl ((congrArg (Option.map UInt8.toNat) (dw_st14 8)).trans (by decide +kernel)))
theorem dL_law_457 : decode cL_law 457 = .ok (.iload 4, 2) := dk_21 (dw_u1 (q := 448 + 9) rfl ((congrArg (Option.map UInt8.toNat) (dw_st14 9)).trans (by decide +kernel))) (dw_u1 (q := 448 + 10) rfl ((congrArg (Option.map UInt8.toNat) (dw_st14 10)).trans (by decide +kernel)))
theorem dL_law_459 : decode cL_law 459 = .ok (.iconst 2, 1) := dk_5 (dw_u1 (q := 448 + 11) rfl ((congrArg (Option.map UInt8.toNat) (dw_st14 11)).trans (by decide +kernel)))
theorem dL_law_460 : decode cL_law 460 = .ok (.iadd, 1) := dk_96 (dw_u1 (q := 448 + 12) rfl ((congrArg (Option.map UInt8.toNat) (dw_st14 12)).trans (by decide +kernel)))
theorem dL_law_461 : decode cL_law 461 = .ok (.iaload, 1) := dk_46 (dw_u1 (q := 448 + 13) rfl ((congrArg (Option.map UInt8.toNat) (dw_st14 13)).trans (by decide +kernel)))
theorem dL_law_462 : decode cL_law 462 = .ok (.aload_n 0, 1) := dk_42 (dw_u1 (q := 448 + 14) rfl ((congrArg (Option.map UInt8.toNat) (dw_st14 14)).trans (by decide +kernel)))
theorem dL_law_463 : decode cL_law 463 = .ok (.iload 4, 2) := dk_21 (dw_u1 (q := 448 + 15) rfl ((congrArg (Option.map UInt8.toNat) (dw_st14 15)).trans (by decide +kernel))) (dw_u1 (q := 448 + 16) rfl ((congrArg (Option.map UInt8.toNat) (dw_st14 16)).trans (by decide +kernel)))
theorem dL_law_465 : decode cL_law 465 = .ok (.iconst 3, 1) := dk_6 (dw_u1 (q := 448 + 17) rfl ((congrArg (Option.map UInt8.toNat) (dw_st14 17)).trans (by decide +kernel)))
theorem dL_law_466 : decode cL_law 466 = .ok (.iadd, 1) := dk_96 (dw_u1 (q := 448 + 18) rfl ((congrArg (Option.map UInt8.toNat) (dw_st14 18)).trans (by decide +kernel)))
theorem dL_law_467 : decode cL_law 467 = .ok (.iaload, 1) := dk_46 (dw_u1 (q := 448 + 19) rfl ((congrArg (Option.map UInt8.toNat) (dw_st14 19)).trans (by decide +kernel)))
theorem dL_law_468 : decode cL_law 468 = .ok (.invokevirtual 141, 3) := dk_182 (x := 0) (y := 141) (dw_u1 (q := 448 + 20) rfl ((congrArg (Option.map UInt8.toNat) (dw_st14 20)).trans (by decide +kernel))) (dw_u1 (q := 448 + 21) rfl ((congrArg (Option.map UInt8.toNat) (dw_st14 21)).trans (by decide +kernel))) (dw_u1 (q := 448 + 22) rfl ((congrArg (Option.map UInt8.toNat) (dw_st14 22)).trans (by decide +kernel))) (by decide +kernel)
theorem dL_law_471 : decode cL_law 471 = .ok (.istore 6, 2) := dk_54 (dw_u1 (q := 448 + 23) rfl ((congrArg (Option.map UInt8.toNat) (dw_st14 23)).trans (by decide +kernel))) (dw_u1 (q := 448 + 24) rfl ((congrArg (Option.map UInt8.toNat) (dw_st14 24)).trans (by decide +kernel)))
theorem dL_law_473 : decode cL_law 473 = .ok (.goto 1201, 3) := dk_167 (x := 4) (y := 177) (dw_u1 (q := 448 + 25) rfl ((congrArg (Option.map UInt8.toNat) (dw_st14 25)).trans (by decide +kernel))) (dw_u1 (q := 448 + 26) rfl ((congrArg (Option.map UInt8.toNat) (dw_st14 26)).trans (by decide +kernel))) (dw_u1 (q := 448 + 27) rfl ((congrArg (Option.map UInt8.toNat) (dw_st14 27)).trans (by decide +kernel))) (by decide +kernel)
theorem dL_law_476 : decode cL_law 476 = .ok (.aload_n 1, 1) := dk_43 (dw_u1 (q := 448 + 28) rfl ((congrArg (Option.map UInt8.toNat) (dw_st14 28)).trans (by decide +kernel)))
theorem dL_law_477 : decode cL_law 477 = .ok (.aload_n 0, 1) := dk_42 (dw_u1 (q := 448 + 29) rfl ((congrArg (Option.map UInt8.toNat) (dw_st14 29)).trans (by decide +kernel)))
theorem dL_law_478 : decode cL_law 478 = .ok (.iload 4, 2) := dk_21 (dw_u1 (q := 448 + 30) rfl ((congrArg (Option.map UInt8.toNat) (dw_st14 30)).trans (by decide +kernel))) (dw_u1 (q := 448 + 31) rfl ((congrArg (Option.map UInt8.toNat) (dw_st14 31)).trans (by decide +kernel)))
theorem dL_law_480 : decode cL_law 480 = .ok (.iconst 1, 1) := dk_4 (dw_u1 (q := 480 + 0) rfl ((congrArg (Option.map UInt8.toNat) (dw_st15 0)).trans (by decide +kernel)))
theorem dL_law_481 : decode cL_law 481 = .ok (.iadd, 1) := dk_96 (dw_u1 (q := 480 + 1) rfl ((congrArg (Option.map UInt8.toNat) (dw_st15 1)).trans (by decide +kernel)))
theorem dL_law_482 : decode cL_law 482 = .ok (.iaload, 1) := dk_46 (dw_u1 (q := 480 + 2) rfl ((congrArg (Option.map UInt8.toNat) (dw_st15 2)).trans (by decide +kernel)))
theorem dL_law_483 : decode cL_law 483 = .ok (.aload_n 0, 1) := dk_42 (dw_u1 (q := 480 + 3) rfl ((congrArg (Option.map UInt8.toNat) (dw_st15 3)).trans (by decide +kernel)))
theorem dL_law_484 : decode cL_law 484 = .ok (.iload 4, 2) := dk_21 (dw_u1 (q := 480 + 4) rfl ((congrArg (Option.map UInt8.toNat) (dw_st15 4)).trans (by decide +kernel))) (dw_u1 (q := 480 + 5) rfl ((congrArg (Option.map UInt8.toNat) (dw_st15 5)).trans (by decide +kernel)))
theorem dL_law_486 : decode cL_law 486 = .ok (.iconst 2, 1) := dk_5 (dw_u1 (q := 480 + 6) rfl ((congrArg (Option.map UInt8.toNat) (dw_st15 6)).trans (by decide +kernel)))
theorem dL_law_487 : decode cL_law 487 = .ok (.iadd, 1) := dk_96 (dw_u1 (q := 480 + 7) rfl ((congrArg (Option.map UInt8.toNat) (dw_st15 7)).trans (by decide +kernel)))
theorem dL_law_488 : decode cL_law 488 = .ok (.iaload, 1) := dk_46 (dw_u1 (q := 480 + 8) rfl ((congrArg (Option.map UInt8.toNat) (dw_st15 8)).trans (by decide +kernel)))
theorem dL_law_489 : decode cL_law 489 = .ok (.aload_n 3, 1) := dk_45 (dw_u1 (q := 480 + 9) rfl ((congrArg (Option.map UInt8.toNat) (dw_st15 9)).trans (by decide +kernel)))
theorem dL_law_490 : decode cL_law 490 = .ok (.invokestatic 142, 3) := dk_184 (x := 0) (y := 142) (dw_u1 (q := 480 + 10) rfl ((congrArg (Option.map UInt8.toNat) (dw_st15 10)).trans (by decide +kernel))) (dw_u1 (q := 480 + 11) rfl ((congrArg (Option.map UInt8.toNat) (dw_st15 11)).trans (by decide +kernel))) (dw_u1 (q := 480 + 12) rfl ((congrArg (Option.map UInt8.toNat) (dw_st15 12)).trans (by decide +kernel))) (by decide +kernel)
theorem dL_law_493 : decode cL_law 493 = .ok (.istore 5, 2) := dk_54 (dw_u1 (q := 480 + 13) rfl ((congrArg (Option.map UInt8.toNat) (dw_st15 13)).trans (by decide +kernel))) (dw_u1 (q := 480 + 14) rfl ((congrArg (Option.map UInt8.toNat) (dw_st15 14)).trans (by decide +kernel)))
theorem dL_law_495 : decode cL_law 495 = .ok (.aload_n 2, 1) := dk_44 (dw_u1 (q := 480 + 15) rfl ((congrArg (Option.map UInt8.toNat) (dw_st15 15)).trans (by decide +kernel)))
theorem dL_law_496 : decode cL_law 496 = .ok (.aload_n 0, 1) := dk_42 (dw_u1 (q := 480 + 16) rfl ((congrArg (Option.map UInt8.toNat) (dw_st15 16)).trans (by decide +kernel)))
theorem dL_law_497 : decode cL_law 497 = .ok (.iload 4, 2) := dk_21 (dw_u1 (q := 480 + 17) rfl ((congrArg (Option.map UInt8.toNat) (dw_st15 17)).trans (by decide +kernel))) (dw_u1 (q := 480 + 18) rfl ((congrArg (Option.map UInt8.toNat) (dw_st15 18)).trans (by decide +kernel)))
theorem dL_law_499 : decode cL_law 499 = .ok (.iconst 1, 1) := dk_4 (dw_u1 (q := 480 + 19) rfl ((congrArg (Option.map UInt8.toNat) (dw_st15 19)).trans (by decide +kernel)))
theorem dL_law_500 : decode cL_law 500 = .ok (.iadd, 1) := dk_96 (dw_u1 (q := 480 + 20) rfl ((congrArg (Option.map UInt8.toNat) (dw_st15 20)).trans (by decide +kernel)))
theorem dL_law_501 : decode cL_law 501 = .ok (.iaload, 1) := dk_46 (dw_u1 (q := 480 + 21) rfl ((congrArg (Option.map UInt8.toNat) (dw_st15 21)).trans (by decide +kernel)))
theorem dL_law_502 : decode cL_law 502 = .ok (.aload_n 0, 1) := dk_42 (dw_u1 (q := 480 + 22) rfl ((congrArg (Option.map UInt8.toNat) (dw_st15 22)).trans (by decide +kernel)))
theorem dL_law_503 : decode cL_law 503 = .ok (.iload 4, 2) := dk_21 (dw_u1 (q := 480 + 23) rfl ((congrArg (Option.map UInt8.toNat) (dw_st15 23)).trans (by decide +kernel))) (dw_u1 (q := 480 + 24) rfl ((congrArg (Option.map UInt8.toNat) (dw_st15 24)).trans (by decide +kernel)))
theorem dL_law_505 : decode cL_law 505 = .ok (.iconst 2, 1) := dk_5 (dw_u1 (q := 480 + 25) rfl ((congrArg (Option.map UInt8.toNat) (dw_st15 25)).trans (by decide +kernel)))
theorem dL_law_506 : decode cL_law 506 = .ok (.iadd, 1) := dk_96 (dw_u1 (q := 480 + 26) rfl ((congrArg (Option.map UInt8.toNat) (dw_st15 26)).trans (by decide +kernel)))
theorem dL_law_507 : decode cL_law 507 = .ok (.iaload, 1) := dk_46 (dw_u1 (q := 480 + 27) rfl ((congrArg (Option.map UInt8.toNat) (dw_st15 27)).trans (by decide +kernel)))
theorem dL_law_508 : decode cL_law 508 = .ok (.invokevirtual 145, 3) := dk_182 (x := 0) (y := 145) (dw_u1 (q := 480 + 28) rfl ((congrArg (Option.map UInt8.toNat) (dw_st15 28)).trans (by decide +kernel))) (dw_u1 (q := 480 + 29) rfl ((congrArg (Option.map UInt8.toNat) (dw_st15 29)).trans (by decide +kernel))) (dw_u1 (q := 480 + 30) rfl ((congrArg (Option.map UInt8.toNat) (dw_st15 30)).trans (by decide +kernel))) (by decide +kernel)
theorem dL_law_511 : decode cL_law 511 = .ok (.istore 6, 2) := dk_54 (dw_u1 (q := 480 + 31) rfl ((congrArg (Option.map UInt8.toNat) (dw_st15 31)).trans (by decide +kernel))) (dw_u1 (q := 512 + 0) rfl ((congrArg (Option.map UInt8.toNat) (dw_st16 0)).trans (by decide +kernel)))
theorem dL_law_513 : decode cL_law 513 = .ok (.goto 1161, 3) := dk_167 (x := 4) (y := 137) (dw_u1 (q := 512 + 1) rfl ((congrArg (Option.map UInt8.toNat) (dw_st16 1)).trans (by decide +kernel))) (dw_u1 (q := 512 + 2) rfl ((congrArg (Option.map UInt8.toNat) (dw_st16 2)).trans (by decide +kernel))) (dw_u1 (q := 512 + 3) rfl ((congrArg (Option.map UInt8.toNat) (dw_st16 3)).trans (by decide +kernel))) (by decide +kernel)
theorem dL_law_516 : decode cL_law 516 = .ok (.aload_n 1, 1) := dk_43 (dw_u1 (q := 512 + 4) rfl ((congrArg (Option.map UInt8.toNat) (dw_st16 4)).trans (by decide +kernel)))
theorem dL_law_517 : decode cL_law 517 = .ok (.aload_n 0, 1) := dk_42 (dw_u1 (q := 512 + 5) rfl ((congrArg (Option.map UInt8.toNat) (dw_st16 5)).trans (by decide +kernel)))
theorem dL_law_518 : decode cL_law 518 = .ok (.iload 4, 2) := dk_21 (dw_u1 (q := 512 + 6) rfl ((congrArg (Option.map UInt8.toNat) (dw_st16 6)).trans (by decide +kernel))) (dw_u1 (q := 512 + 7) rfl ((congrArg (Option.map UInt8.toNat) (dw_st16 7)).trans (by decide +kernel)))
theorem dL_law_520 : decode cL_law 520 = .ok (.iconst 1, 1) := dk_4 (dw_u1 (q := 512 + 8) rfl ((congrArg (Option.map UInt8.toNat) (dw_st16 8)).trans (by decide +kernel)))
theorem dL_law_521 : decode cL_law 521 = .ok (.iadd, 1) := dk_96 (dw_u1 (q := 512 + 9) rfl ((congrArg (Option.map UInt8.toNat) (dw_st16 9)).trans (by decide +kernel)))
theorem dL_law_522 : decode cL_law 522 = .ok (.iaload, 1) := dk_46 (dw_u1 (q := 512 + 10) rfl ((congrArg (Option.map UInt8.toNat) (dw_st16 10)).trans (by decide +kernel)))
theorem dL_law_523 : decode cL_law 523 = .ok (.aload_n 3, 1) := dk_45 (dw_u1 (q := 512 + 11) rfl ((congrArg (Option.map UInt8.toNat) (dw_st16 11)).trans (by decide +kernel)))
theorem dL_law_524 : decode cL_law 524 = .ok (.invokestatic 146, 3) := dk_184 (x := 0) (y := 146) (dw_u1 (q := 512 + 12) rfl ((congrArg (Option.map UInt8.toNat) (dw_st16 12)).trans (by decide +kernel))) (dw_u1 (q := 512 + 13) rfl ((congrArg (Option.map UInt8.toNat) (dw_st16 13)).trans (by decide +kernel))) (dw_u1 (q := 512 + 14) rfl ((congrArg (Option.map UInt8.toNat) (dw_st16 14)).trans (by decide +kernel))) (by decide +kernel)
theorem dL_law_527 : decode cL_law 527 = .ok (.istore 5, 2) := dk_54 (dw_u1 (q := 512 + 15) rfl ((congrArg (Option.map UInt8.toNat) (dw_st16 15)).trans (by decide +kernel))) (dw_u1 (q := 512 + 16) rfl ((congrArg (Option.map UInt8.toNat) (dw_st16 16)).trans (by decide +kernel)))
theorem dL_law_529 : decode cL_law 529 = .ok (.aload_n 2, 1) := dk_44 (dw_u1 (q := 512 + 17) rfl ((congrArg (Option.map UInt8.toNat) (dw_st16 17)).trans (by decide +kernel)))
theorem dL_law_530 : decode cL_law 530 = .ok (.aload_n 0, 1) := dk_42 (dw_u1 (q := 512 + 18) rfl ((congrArg (Option.map UInt8.toNat) (dw_st16 18)).trans (by decide +kernel)))
theorem dL_law_531 : decode cL_law 531 = .ok (.iload 4, 2) := dk_21 (dw_u1 (q := 512 + 19) rfl ((congrArg (Option.map UInt8.toNat) (dw_st16 19)).trans (by decide +kernel))) (dw_u1 (q := 512 + 20) rfl ((congrArg (Option.map UInt8.toNat) (dw_st16 20)).trans (by decide +kernel)))
theorem dL_law_533 : decode cL_law 533 = .ok (.iconst 1, 1) := dk_4 (dw_u1 (q := 512 + 21) rfl ((congrArg (Option.map UInt8.toNat) (dw_st16 21)).trans (by decide +kernel)))
theorem dL_law_534 : decode cL_law 534 = .ok (.iadd, 1) := dk_96 (dw_u1 (q := 512 + 22) rfl ((congrArg (Option.map UInt8.toNat) (dw_st16 22)).trans (by decide +kernel)))
theorem dL_law_535 : decode cL_law 535 = .ok (.iaload, 1) := dk_46 (dw_u1 (q := 512 + 23) rfl ((congrArg (Option.map UInt8.toNat) (dw_st16 23)).trans (by decide +kernel)))
theorem dL_law_536 : decode cL_law 536 = .ok (.invokevirtual 149, 3) := dk_182 (x := 0) (y := 149) (dw_u1 (q := 512 + 24) rfl ((congrArg (Option.map UInt8.toNat) (dw_st16 24)).trans (by decide +kernel))) (dw_u1 (q := 512 + 25) rfl ((congrArg (Option.map UInt8.toNat) (dw_st16 25)).trans (by decide +kernel))) (dw_u1 (q := 512 + 26) rfl ((congrArg (Option.map UInt8.toNat) (dw_st16 26)).trans (by decide +kernel))) (by decide +kernel)
theorem dL_law_539 : decode cL_law 539 = .ok (.istore 6, 2) := dk_54 (dw_u1 (q := 512 + 27) rfl ((congrArg (Option.map UInt8.toNat) (dw_st16 27)).trans (by decide +kernel))) (dw_u1 (q := 512 + 28) rfl ((congrArg (Option.map UInt8.toNat) (dw_st16 28)).trans (by decide +kernel)))
theorem dL_law_541 : decode cL_law 541 = .ok (.goto 1133, 3) := dk_167 (x := 4) (y := 109) (dw_u1 (q := 512 + 29) rfl ((congrArg (Option.map UInt8.toNat) (dw_st16 29)).trans (by decide +kernel))) (dw_u1 (q := 512 + 30) rfl ((congrArg (Option.map UInt8.toNat) (dw_st16 30)).trans (by decide +kernel))) (dw_u1 (q := 512 + 31) rfl ((congrArg (Option.map UInt8.toNat) (dw_st16 31)).trans (by decide +kernel))) (by decide +kernel)
theorem dL_law_544 : decode cL_law 544 = .ok (.aload_n 1, 1) := dk_43 (dw_u1 (q := 544 + 0) rfl ((congrArg (Option.map UInt8.toNat) (dw_st17 0)).trans (by decide +kernel)))
theorem dL_law_545 : decode cL_law 545 = .ok (.aload_n 0, 1) := dk_42 (dw_u1 (q := 544 + 1) rfl ((congrArg (Option.map UInt8.toNat) (dw_st17 1)).trans (by decide +kernel)))
theorem dL_law_546 : decode cL_law 546 = .ok (.iload 4, 2) := dk_21 (dw_u1 (q := 544 + 2) rfl ((congrArg (Option.map UInt8.toNat) (dw_st17 2)).trans (by decide +kernel))) (dw_u1 (q := 544 + 3) rfl ((congrArg (Option.map UInt8.toNat) (dw_st17 3)).trans (by decide +kernel)))
theorem dL_law_548 : decode cL_law 548 = .ok (.iconst 1, 1) := dk_4 (dw_u1 (q := 544 + 4) rfl ((congrArg (Option.map UInt8.toNat) (dw_st17 4)).trans (by decide +kernel)))
theorem dL_law_549 : decode cL_law 549 = .ok (.iadd, 1) := dk_96 (dw_u1 (q := 544 + 5) rfl ((congrArg (Option.map UInt8.toNat) (dw_st17 5)).trans (by decide +kernel)))
theorem dL_law_550 : decode cL_law 550 = .ok (.iaload, 1) := dk_46 (dw_u1 (q := 544 + 6) rfl ((congrArg (Option.map UInt8.toNat) (dw_st17 6)).trans (by decide +kernel)))
theorem dL_law_551 : decode cL_law 551 = .ok (.aload_n 0, 1) := dk_42 (dw_u1 (q := 544 + 7) rfl ((congrArg (Option.map UInt8.toNat) (dw_st17 7)).trans (by decide +kernel)))
theorem dL_law_552 : decode cL_law 552 = .ok (.iload 4, 2) := dk_21 (dw_u1 (q := 544 + 8) rfl ((congrArg (Option.map UInt8.toNat) (dw_st17 8)).trans (by decide +kernel))) (dw_u1 (q := 544 + 9) rfl ((congrArg (Option.map UInt8.toNat) (dw_st17 9)).trans (by decide +kernel)))
theorem dL_law_554 : decode cL_law 554 = .ok (.iconst 2, 1) := dk_5 (dw_u1 (q := 544 + 10) rfl ((congrArg (Option.map UInt8.toNat) (dw_st17 10)).trans (by decide +kernel)))
theorem dL_law_555 : decode cL_law 555 = .ok (.iadd, 1) := dk_96 (dw_u1 (q := 544 + 11) rfl ((congrArg (Option.map UInt8.toNat) (dw_st17 11)).trans (by decide +kernel)))
theorem dL_law_556 : decode cL_law 556 = .ok (.iaload, 1) := dk_46 (dw_u1 (q := 544 + 12) rfl ((congrArg (Option.map UInt8.toNat) (dw_st17 12)).trans (by decide +kernel)))
theorem dL_law_557 : decode cL_law 557 = .ok (.invokevirtual 150, 3) := dk_182 (x := 0) (y := 150) (dw_u1 (q := 544 + 13) rfl ((congrArg (Option.map UInt8.toNat) (dw_st17 13)).trans (by decide +kernel))) (dw_u1 (q := 544 + 14) rfl ((congrArg (Option.map UInt8.toNat) (dw_st17 14)).trans (by decide +kernel))) (dw_u1 (q := 544 + 15) rfl ((congrArg (Option.map UInt8.toNat) (dw_st17 15)).trans (by decide +kernel))) (by decide +kernel)
theorem dk_87 {c : ByteArray} {p : Nat} (h0 : (Reader.u1 : Decoder Nat) c p = .ok (87, p + 1)) : decode c p = .ok (.pop, 1) := dw_run (q := p + 1) (by
  show Except.bind ((Reader.u1 : Decoder Nat) c p) _ = _
  rw [h0]
  rfl) (Nat.add_sub_cancel_left (n := p) (m := 1))
theorem dL_law_560 : decode cL_law 560 = .ok (.pop, 1) := dk_87 (dw_u1 (q := 544 + 16) rfl ((congrArg (Option.map UInt8.toNat) (dw_st17 16)).trans (by decide +kernel)))
theorem dL_law_561 : decode cL_law 561 = .ok (.aload_n 2, 1) := dk_44 (dw_u1 (q := 544 + 17) rfl ((congrArg (Option.map UInt8.toNat) (dw_st17 17)).trans (by decide +kernel)))
theorem dL_law_562 : decode cL_law 562 = .ok (.aload_n 0, 1) := dk_42 (dw_u1 (q := 544 + 18) rfl ((congrArg (Option.map UInt8.toNat) (dw_st17 18)).trans (by decide +kernel)))
theorem dL_law_563 : decode cL_law 563 = .ok (.iload 4, 2) := dk_21 (dw_u1 (q := 544 + 19) rfl ((congrArg (Option.map UInt8.toNat) (dw_st17 19)).trans (by decide +kernel))) (dw_u1 (q := 544 + 20) rfl ((congrArg (Option.map UInt8.toNat) (dw_st17 20)).trans (by decide +kernel)))
theorem dL_law_565 : decode cL_law 565 = .ok (.iconst 1, 1) := dk_4 (dw_u1 (q := 544 + 21) rfl ((congrArg (Option.map UInt8.toNat) (dw_st17 21)).trans (by decide +kernel)))
theorem dL_law_566 : decode cL_law 566 = .ok (.iadd, 1) := dk_96 (dw_u1 (q := 544 + 22) rfl ((congrArg (Option.map UInt8.toNat) (dw_st17 22)).trans (by decide +kernel)))
theorem dL_law_567 : decode cL_law 567 = .ok (.iaload, 1) := dk_46 (dw_u1 (q := 544 + 23) rfl ((congrArg (Option.map UInt8.toNat) (dw_st17 23)).trans (by decide +kernel)))
theorem dL_law_568 : decode cL_law 568 = .ok (.aload_n 0, 1) := dk_42 (dw_u1 (q := 544 + 24) rfl ((congrArg (Option.map UInt8.toNat) (dw_st17 24)).trans (by decide +kernel)))
theorem dL_law_569 : decode cL_law 569 = .ok (.iload 4, 2) := dk_21 (dw_u1 (q := 544 + 25) rfl ((congrArg (Option.map UInt8.toNat) (dw_st17 25)).trans (by decide +kernel))) (dw_u1 (q := 544 + 26) rfl ((congrArg (Option.map UInt8.toNat) (dw_st17 26)).trans (by decide +kernel)))
theorem dL_law_571 : decode cL_law 571 = .ok (.iconst 2, 1) := dk_5 (dw_u1 (q := 544 + 27) rfl ((congrArg (Option.map UInt8.toNat) (dw_st17 27)).trans (by decide +kernel)))
theorem dL_law_572 : decode cL_law 572 = .ok (.iadd, 1) := dk_96 (dw_u1 (q := 544 + 28) rfl ((congrArg (Option.map UInt8.toNat) (dw_st17 28)).trans (by decide +kernel)))
theorem dL_law_573 : decode cL_law 573 = .ok (.iaload, 1) := dk_46 (dw_u1 (q := 544 + 29) rfl ((congrArg (Option.map UInt8.toNat) (dw_st17 29)).trans (by decide +kernel)))
theorem dL_law_574 : decode cL_law 574 = .ok (.invokevirtual 153, 3) := dk_182 (x := 0) (y := 153) (dw_u1 (q := 544 + 30) rfl ((congrArg (Option.map UInt8.toNat) (dw_st17 30)).trans (by decide +kernel))) (dw_u1 (q := 544 + 31) rfl ((congrArg (Option.map UInt8.toNat) (dw_st17 31)).trans (by decide +kernel))) (dw_u1 (q := 576 + 0) rfl ((congrArg (Option.map UInt8.toNat) (dw_st18 0)).trans (by decide +kernel))) (by decide +kernel)
theorem dL_law_577 : decode cL_law 577 = .ok (.pop, 1) := dk_87 (dw_u1 (q := 576 + 1) rfl ((congrArg (Option.map UInt8.toNat) (dw_st18 1)).trans (by decide +kernel)))
theorem dL_law_578 : decode cL_law 578 = .ok (.goto 1096, 3) := dk_167 (x := 4) (y := 72) (dw_u1 (q := 576 + 2) rfl ((congrArg (Option.map UInt8.toNat) (dw_st18 2)).trans (by decide +kernel))) (dw_u1 (q := 576 + 3) rfl ((congrArg (Option.map UInt8.toNat) (dw_st18 3)).trans (by decide +kernel))) (dw_u1 (q := 576 + 4) rfl ((congrArg (Option.map UInt8.toNat) (dw_st18 4)).trans (by decide +kernel))) (by decide +kernel)
theorem dL_law_581 : decode cL_law 581 = .ok (.aload_n 1, 1) := dk_43 (dw_u1 (q := 576 + 5) rfl ((congrArg (Option.map UInt8.toNat) (dw_st18 5)).trans (by decide +kernel)))
theorem dL_law_582 : decode cL_law 582 = .ok (.aload_n 0, 1) := dk_42 (dw_u1 (q := 576 + 6) rfl ((congrArg (Option.map UInt8.toNat) (dw_st18 6)).trans (by decide +kernel)))
theorem dL_law_583 : decode cL_law 583 = .ok (.iload 4, 2) := dk_21 (dw_u1 (q := 576 + 7) rfl ((congrArg (Option.map UInt8.toNat) (dw_st18 7)).trans (by decide +kernel))) (dw_u1 (q := 576 + 8) rfl ((congrArg (Option.map UInt8.toNat) (dw_st18 8)).trans (by decide +kernel)))
theorem dL_law_585 : decode cL_law 585 = .ok (.iconst 1, 1) := dk_4 (dw_u1 (q := 576 + 9) rfl ((congrArg (Option.map UInt8.toNat) (dw_st18 9)).trans (by decide +kernel)))
theorem dL_law_586 : decode cL_law 586 = .ok (.iadd, 1) := dk_96 (dw_u1 (q := 576 + 10) rfl ((congrArg (Option.map UInt8.toNat) (dw_st18 10)).trans (by decide +kernel)))
theorem dL_law_587 : decode cL_law 587 = .ok (.iaload, 1) := dk_46 (dw_u1 (q := 576 + 11) rfl ((congrArg (Option.map UInt8.toNat) (dw_st18 11)).trans (by decide +kernel)))
theorem dL_law_588 : decode cL_law 588 = .ok (.aload_n 0, 1) := dk_42 (dw_u1 (q := 576 + 12) rfl ((congrArg (Option.map UInt8.toNat) (dw_st18 12)).trans (by decide +kernel)))
theorem dL_law_589 : decode cL_law 589 = .ok (.iload 4, 2) := dk_21 (dw_u1 (q := 576 + 13) rfl ((congrArg (Option.map UInt8.toNat) (dw_st18 13)).trans (by decide +kernel))) (dw_u1 (q := 576 + 14) rfl ((congrArg (Option.map UInt8.toNat) (dw_st18 14)).trans (by decide +kernel)))
theorem dL_law_591 : decode cL_law 591 = .ok (.iconst 2, 1) := dk_5 (dw_u1 (q := 576 + 15) rfl ((congrArg (Option.map UInt8.toNat) (dw_st18 15)).trans (by decide +kernel)))
theorem dL_law_592 : decode cL_law 592 = .ok (.iadd, 1) := dk_96 (dw_u1 (q := 576 + 16) rfl ((congrArg (Option.map UInt8.toNat) (dw_st18 16)).trans (by decide +kernel)))
theorem dL_law_593 : decode cL_law 593 = .ok (.iaload, 1) := dk_46 (dw_u1 (q := 576 + 17) rfl ((congrArg (Option.map UInt8.toNat) (dw_st18 17)).trans (by decide +kernel)))
theorem dL_law_594 : decode cL_law 594 = .ok (.aload_n 0, 1) := dk_42 (dw_u1 (q := 576 + 18) rfl ((congrArg (Option.map UInt8.toNat) (dw_st18 18)).trans (by decide +kernel)))
theorem dL_law_595 : decode cL_law 595 = .ok (.iload 4, 2) := dk_21 (dw_u1 (q := 576 + 19) rfl ((congrArg (Option.map UInt8.toNat) (dw_st18 19)).trans (by decide +kernel))) (dw_u1 (q := 576 + 20) rfl ((congrArg (Option.map UInt8.toNat) (dw_st18 20)).trans (by decide +kernel)))
theorem dL_law_597 : decode cL_law 597 = .ok (.iconst 3, 1) := dk_6 (dw_u1 (q := 576 + 21) rfl ((congrArg (Option.map UInt8.toNat) (dw_st18 21)).trans (by decide +kernel)))
theorem dL_law_598 : decode cL_law 598 = .ok (.iadd, 1) := dk_96 (dw_u1 (q := 576 + 22) rfl ((congrArg (Option.map UInt8.toNat) (dw_st18 22)).trans (by decide +kernel)))
theorem dL_law_599 : decode cL_law 599 = .ok (.iaload, 1) := dk_46 (dw_u1 (q := 576 + 23) rfl ((congrArg (Option.map UInt8.toNat) (dw_st18 23)).trans (by decide +kernel)))
theorem dL_law_600 : decode cL_law 600 = .ok (.invokevirtual 154, 3) := dk_182 (x := 0) (y := 154) (dw_u1 (q := 576 + 24) rfl ((congrArg (Option.map UInt8.toNat) (dw_st18 24)).trans (by decide +kernel))) (dw_u1 (q := 576 + 25) rfl ((congrArg (Option.map UInt8.toNat) (dw_st18 25)).trans (by decide +kernel))) (dw_u1 (q := 576 + 26) rfl ((congrArg (Option.map UInt8.toNat) (dw_st18 26)).trans (by decide +kernel))) (by decide +kernel)
theorem dL_law_603 : decode cL_law 603 = .ok (.pop, 1) := dk_87 (dw_u1 (q := 576 + 27) rfl ((congrArg (Option.map UInt8.toNat) (dw_st18 27)).trans (by decide +kernel)))
theorem dL_law_604 : decode cL_law 604 = .ok (.aload_n 2, 1) := dk_44 (dw_u1 (q := 576 + 28) rfl ((congrArg (Option.map UInt8.toNat) (dw_st18 28)).trans (by decide +kernel)))
theorem dL_law_605 : decode cL_law 605 = .ok (.aload_n 0, 1) := dk_42 (dw_u1 (q := 576 + 29) rfl ((congrArg (Option.map UInt8.toNat) (dw_st18 29)).trans (by decide +kernel)))
theorem dL_law_606 : decode cL_law 606 = .ok (.iload 4, 2) := dk_21 (dw_u1 (q := 576 + 30) rfl ((congrArg (Option.map UInt8.toNat) (dw_st18 30)).trans (by decide +kernel))) (dw_u1 (q := 576 + 31) rfl ((congrArg (Option.map UInt8.toNat) (dw_st18 31)).trans (by decide +kernel)))
theorem dL_law_608 : decode cL_law 608 = .ok (.iconst 1, 1) := dk_4 (dw_u1 (q := 608 + 0) rfl ((congrArg (Option.map UInt8.toNat) (dw_st19 0)).trans (by decide +kernel)))
theorem dL_law_609 : decode cL_law 609 = .ok (.iadd, 1) := dk_96 (dw_u1 (q := 608 + 1) rfl ((congrArg (Option.map UInt8.toNat) (dw_st19 1)).trans (by decide +kernel)))
theorem dL_law_610 : decode cL_law 610 = .ok (.iaload, 1) := dk_46 (dw_u1 (q := 608 + 2) rfl ((congrArg (Option.map UInt8.toNat) (dw_st19 2)).trans (by decide +kernel)))
theorem dL_law_611 : decode cL_law 611 = .ok (.aload_n 0, 1) := dk_42 (dw_u1 (q := 608 + 3) rfl ((congrArg (Option.map UInt8.toNat) (dw_st19 3)).trans (by decide +kernel)))
theorem dL_law_612 : decode cL_law 612 = .ok (.iload 4, 2) := dk_21 (dw_u1 (q := 608 + 4) rfl ((congrArg (Option.map UInt8.toNat) (dw_st19 4)).trans (by decide +kernel))) (dw_u1 (q := 608 + 5) rfl ((congrArg (Option.map UInt8.toNat) (dw_st19 5)).trans (by decide +kernel)))
theorem dL_law_614 : decode cL_law 614 = .ok (.iconst 2, 1) := dk_5 (dw_u1 (q := 608 + 6) rfl ((congrArg (Option.map UInt8.toNat) (dw_st19 6)).trans (by decide +kernel)))
theorem dL_law_615 : decode cL_law 615 = .ok (.iadd, 1) := dk_96 (dw_u1 (q := 608 + 7) rfl ((congrArg (Option.map UInt8.toNat) (dw_st19 7)).trans (by decide +kernel)))
theorem dL_law_616 : decode cL_law 616 = .ok (.iaload, 1) := dk_46 (dw_u1 (q := 608 + 8) rfl ((congrArg (Option.map UInt8.toNat) (dw_st19 8)).trans (by decide +kernel)))
theorem dL_law_617 : decode cL_law 617 = .ok (.aload_n 0, 1) := dk_42 (dw_u1 (q := 608 + 9) rfl ((congrArg (Option.map UInt8.toNat) (dw_st19 9)).trans (by decide +kernel)))
theorem dL_law_618 : decode cL_law 618 = .ok (.iload 4, 2) := dk_21 (dw_u1 (q := 608 + 10) rfl ((congrArg (Option.map UInt8.toNat) (dw_st19 10)).trans (by decide +kernel))) (dw_u1 (q := 608 + 11) rfl ((congrArg (Option.map UInt8.toNat) (dw_st19 11)).trans (by decide +kernel)))
theorem dL_law_620 : decode cL_law 620 = .ok (.iconst 3, 1) := dk_6 (dw_u1 (q := 608 + 12) rfl ((congrArg (Option.map UInt8.toNat) (dw_st19 12)).trans (by decide +kernel)))
theorem dL_law_621 : decode cL_law 621 = .ok (.iadd, 1) := dk_96 (dw_u1 (q := 608 + 13) rfl ((congrArg (Option.map UInt8.toNat) (dw_st19 13)).trans (by decide +kernel)))
theorem dL_law_622 : decode cL_law 622 = .ok (.iaload, 1) := dk_46 (dw_u1 (q := 608 + 14) rfl ((congrArg (Option.map UInt8.toNat) (dw_st19 14)).trans (by decide +kernel)))
theorem dL_law_623 : decode cL_law 623 = .ok (.invokevirtual 157, 3) := dk_182 (x := 0) (y := 157) (dw_u1 (q := 608 + 15) rfl ((congrArg (Option.map UInt8.toNat) (dw_st19 15)).trans (by decide +kernel))) (dw_u1 (q := 608 + 16) rfl ((congrArg (Option.map UInt8.toNat) (dw_st19 16)).trans (by decide +kernel))) (dw_u1 (q := 608 + 17) rfl ((congrArg (Option.map UInt8.toNat) (dw_st19 17)).trans (by decide +kernel))) (by decide +kernel)
theorem dL_law_626 : decode cL_law 626 = .ok (.pop, 1) := dk_87 (dw_u1 (q := 608 + 18) rfl ((congrArg (Option.map UInt8.toNat) (dw_st19 18)).trans (by decide +kernel)))
theorem dL_law_627 : decode cL_law 627 = .ok (.goto 1047, 3) := dk_167 (x := 4) (y := 23) (dw_u1 (q := 608 + 19) rfl ((congrArg (Option.map UInt8.toNat) (dw_st19 19)).trans (by decide +kernel))) (dw_u1 (q := 608 + 20) rfl ((congrArg (Option.map UInt8.toNat) (dw_st19 20)).trans (by decide +kernel))) (dw_u1 (q := 608 + 21) rfl ((congrArg (Option.map UInt8.toNat) (dw_st19 21)).trans (by decide +kernel))) (by decide +kernel)
theorem dL_law_630 : decode cL_law 630 = .ok (.aload_n 1, 1) := dk_43 (dw_u1 (q := 608 + 22) rfl ((congrArg (Option.map UInt8.toNat) (dw_st19 22)).trans (by decide +kernel)))
theorem dL_law_631 : decode cL_law 631 = .ok (.aload_n 0, 1) := dk_42 (dw_u1 (q := 608 + 23) rfl ((congrArg (Option.map UInt8.toNat) (dw_st19 23)).trans (by decide +kernel)))
theorem dL_law_632 : decode cL_law 632 = .ok (.iload 4, 2) := dk_21 (dw_u1 (q := 608 + 24) rfl ((congrArg (Option.map UInt8.toNat) (dw_st19 24)).trans (by decide +kernel))) (dw_u1 (q := 608 + 25) rfl ((congrArg (Option.map UInt8.toNat) (dw_st19 25)).trans (by decide +kernel)))
theorem dL_law_634 : decode cL_law 634 = .ok (.iconst 1, 1) := dk_4 (dw_u1 (q := 608 + 26) rfl ((congrArg (Option.map UInt8.toNat) (dw_st19 26)).trans (by decide +kernel)))
theorem dL_law_635 : decode cL_law 635 = .ok (.iadd, 1) := dk_96 (dw_u1 (q := 608 + 27) rfl ((congrArg (Option.map UInt8.toNat) (dw_st19 27)).trans (by decide +kernel)))
theorem dL_law_636 : decode cL_law 636 = .ok (.iaload, 1) := dk_46 (dw_u1 (q := 608 + 28) rfl ((congrArg (Option.map UInt8.toNat) (dw_st19 28)).trans (by decide +kernel)))
theorem dL_law_637 : decode cL_law 637 = .ok (.aload_n 0, 1) := dk_42 (dw_u1 (q := 608 + 29) rfl ((congrArg (Option.map UInt8.toNat) (dw_st19 29)).trans (by decide +kernel)))
theorem dL_law_638 : decode cL_law 638 = .ok (.iload 4, 2) := dk_21 (dw_u1 (q := 608 + 30) rfl ((congrArg (Option.map UInt8.toNat) (dw_st19 30)).trans (by decide +kernel))) (dw_u1 (q := 608 + 31) rfl ((congrArg (Option.map UInt8.toNat) (dw_st19 31)).trans (by decide +kernel)))
theorem dL_law_640 : decode cL_law 640 = .ok (.iconst 2, 1) := dk_5 (dw_u1 (q := 640 + 0) rfl ((congrArg (Option.map UInt8.toNat) (dw_st20 0)).trans (by decide +kernel)))
theorem dL_law_641 : decode cL_law 641 = .ok (.iadd, 1) := dk_96 (dw_u1 (q := 640 + 1) rfl ((congrArg (Option.map UInt8.toNat) (dw_st20 1)).trans (by decide +kernel)))
theorem dL_law_642 : decode cL_law 642 = .ok (.iaload, 1) := dk_46 (dw_u1 (q := 640 + 2) rfl ((congrArg (Option.map UInt8.toNat) (dw_st20 2)).trans (by decide +kernel)))
theorem dL_law_643 : decode cL_law 643 = .ok (.aload_n 0, 1) := dk_42 (dw_u1 (q := 640 + 3) rfl ((congrArg (Option.map UInt8.toNat) (dw_st20 3)).trans (by decide +kernel)))
theorem dL_law_644 : decode cL_law 644 = .ok (.iload 4, 2) := dk_21 (dw_u1 (q := 640 + 4) rfl ((congrArg (Option.map UInt8.toNat) (dw_st20 4)).trans (by decide +kernel))) (dw_u1 (q := 640 + 5) rfl ((congrArg (Option.map UInt8.toNat) (dw_st20 5)).trans (by decide +kernel)))
theorem dL_law_646 : decode cL_law 646 = .ok (.iconst 3, 1) := dk_6 (dw_u1 (q := 640 + 6) rfl ((congrArg (Option.map UInt8.toNat) (dw_st20 6)).trans (by decide +kernel)))
theorem dL_law_647 : decode cL_law 647 = .ok (.iadd, 1) := dk_96 (dw_u1 (q := 640 + 7) rfl ((congrArg (Option.map UInt8.toNat) (dw_st20 7)).trans (by decide +kernel)))
theorem dL_law_648 : decode cL_law 648 = .ok (.iaload, 1) := dk_46 (dw_u1 (q := 640 + 8) rfl ((congrArg (Option.map UInt8.toNat) (dw_st20 8)).trans (by decide +kernel)))
theorem dL_law_649 : decode cL_law 649 = .ok (.invokevirtual 158, 3) := dk_182 (x := 0) (y := 158) (dw_u1 (q := 640 + 9) rfl ((congrArg (Option.map UInt8.toNat) (dw_st20 9)).trans (by decide +kernel))) (dw_u1 (q := 640 + 10) rfl ((congrArg (Option.map UInt8.toNat) (dw_st20 10)).trans (by decide +kernel))) (dw_u1 (q := 640 + 11) rfl ((congrArg (Option.map UInt8.toNat) (dw_st20 11)).trans (by decide +kernel))) (by decide +kernel)
theorem dL_law_652 : decode cL_law 652 = .ok (.pop, 1) := dk_87 (dw_u1 (q := 640 + 12) rfl ((congrArg (Option.map UInt8.toNat) (dw_st20 12)).trans (by decide +kernel)))
theorem dL_law_653 : decode cL_law 653 = .ok (.aload_n 2, 1) := dk_44 (dw_u1 (q := 640 + 13) rfl ((congrArg (Option.map UInt8.toNat) (dw_st20 13)).trans (by decide +kernel)))
theorem dL_law_654 : decode cL_law 654 = .ok (.aload_n 0, 1) := dk_42 (dw_u1 (q := 640 + 14) rfl ((congrArg (Option.map UInt8.toNat) (dw_st20 14)).trans (by decide +kernel)))
theorem dL_law_655 : decode cL_law 655 = .ok (.iload 4, 2) := dk_21 (dw_u1 (q := 640 + 15) rfl ((congrArg (Option.map UInt8.toNat) (dw_st20 15)).trans (by decide +kernel))) (dw_u1 (q := 640 + 16) rfl ((congrArg (Option.map UInt8.toNat) (dw_st20 16)).trans (by decide +kernel)))
theorem dL_law_657 : decode cL_law 657 = .ok (.iconst 1, 1) := dk_4 (dw_u1 (q := 640 + 17) rfl ((congrArg (Option.map UInt8.toNat) (dw_st20 17)).trans (by decide +kernel)))
theorem dL_law_658 : decode cL_law 658 = .ok (.iadd, 1) := dk_96 (dw_u1 (q := 640 + 18) rfl ((congrArg (Option.map UInt8.toNat) (dw_st20 18)).trans (by decide +kernel)))
theorem dL_law_659 : decode cL_law 659 = .ok (.iaload, 1) := dk_46 (dw_u1 (q := 640 + 19) rfl ((congrArg (Option.map UInt8.toNat) (dw_st20 19)).trans (by decide +kernel)))
theorem dL_law_660 : decode cL_law 660 = .ok (.aload_n 0, 1) := dk_42 (dw_u1 (q := 640 + 20) rfl ((congrArg (Option.map UInt8.toNat) (dw_st20 20)).trans (by decide +kernel)))
theorem dL_law_661 : decode cL_law 661 = .ok (.iload 4, 2) := dk_21 (dw_u1 (q := 640 + 21) rfl ((congrArg (Option.map UInt8.toNat) (dw_st20 21)).trans (by decide +kernel))) (dw_u1 (q := 640 + 22) rfl ((congrArg (Option.map UInt8.toNat) (dw_st20 22)).trans (by decide +kernel)))
theorem dL_law_663 : decode cL_law 663 = .ok (.iconst 2, 1) := dk_5 (dw_u1 (q := 640 + 23) rfl ((congrArg (Option.map UInt8.toNat) (dw_st20 23)).trans (by decide +kernel)))
theorem dL_law_664 : decode cL_law 664 = .ok (.iadd, 1) := dk_96 (dw_u1 (q := 640 + 24) rfl ((congrArg (Option.map UInt8.toNat) (dw_st20 24)).trans (by decide +kernel)))
theorem dL_law_665 : decode cL_law 665 = .ok (.iaload, 1) := dk_46 (dw_u1 (q := 640 + 25) rfl ((congrArg (Option.map UInt8.toNat) (dw_st20 25)).trans (by decide +kernel)))
theorem dL_law_666 : decode cL_law 666 = .ok (.aload_n 0, 1) := dk_42 (dw_u1 (q := 640 + 26) rfl ((congrArg (Option.map UInt8.toNat) (dw_st20 26)).trans (by decide +kernel)))
theorem dL_law_667 : decode cL_law 667 = .ok (.iload 4, 2) := dk_21 (dw_u1 (q := 640 + 27) rfl ((congrArg (Option.map UInt8.toNat) (dw_st20 27)).trans (by decide +kernel))) (dw_u1 (q := 640 + 28) rfl ((congrArg (Option.map UInt8.toNat) (dw_st20 28)).trans (by decide +kernel)))
theorem dL_law_669 : decode cL_law 669 = .ok (.iconst 3, 1) := dk_6 (dw_u1 (q := 640 + 29) rfl ((congrArg (Option.map UInt8.toNat) (dw_st20 29)).trans (by decide +kernel)))
theorem dL_law_670 : decode cL_law 670 = .ok (.iadd, 1) := dk_96 (dw_u1 (q := 640 + 30) rfl ((congrArg (Option.map UInt8.toNat) (dw_st20 30)).trans (by decide +kernel)))
theorem dL_law_671 : decode cL_law 671 = .ok (.iaload, 1) := dk_46 (dw_u1 (q := 640 + 31) rfl ((congrArg (Option.map UInt8.toNat) (dw_st20 31)).trans (by decide +kernel)))
theorem dL_law_672 : decode cL_law 672 = .ok (.invokevirtual 161, 3) := dk_182 (x := 0) (y := 161) (dw_u1 (q := 672 + 0) rfl ((congrArg (Option.map UInt8.toNat) (dw_st21 0)).trans (by decide +kernel))) (dw_u1 (q := 672 + 1) rfl ((congrArg (Option.map UInt8.toNat) (dw_st21 1)).trans (by decide +kernel))) (dw_u1 (q := 672 + 2) rfl ((congrArg (Option.map UInt8.toNat) (dw_st21 2)).trans (by decide +kernel))) (by decide +kernel)
theorem dL_law_675 : decode cL_law 675 = .ok (.pop, 1) := dk_87 (dw_u1 (q := 672 + 3) rfl ((congrArg (Option.map UInt8.toNat) (dw_st21 3)).trans (by decide +kernel)))
theorem dL_law_676 : decode cL_law 676 = .ok (.goto 998, 3) := dk_167 (x := 3) (y := 230) (dw_u1 (q := 672 + 4) rfl ((congrArg (Option.map UInt8.toNat) (dw_st21 4)).trans (by decide +kernel))) (dw_u1 (q := 672 + 5) rfl ((congrArg (Option.map UInt8.toNat) (dw_st21 5)).trans (by decide +kernel))) (dw_u1 (q := 672 + 6) rfl ((congrArg (Option.map UInt8.toNat) (dw_st21 6)).trans (by decide +kernel))) (by decide +kernel)
theorem dL_law_679 : decode cL_law 679 = .ok (.aload_n 1, 1) := dk_43 (dw_u1 (q := 672 + 7) rfl ((congrArg (Option.map UInt8.toNat) (dw_st21 7)).trans (by decide +kernel)))
theorem dL_law_680 : decode cL_law 680 = .ok (.aload_n 0, 1) := dk_42 (dw_u1 (q := 672 + 8) rfl ((congrArg (Option.map UInt8.toNat) (dw_st21 8)).trans (by decide +kernel)))
theorem dL_law_681 : decode cL_law 681 = .ok (.iload 4, 2) := dk_21 (dw_u1 (q := 672 + 9) rfl ((congrArg (Option.map UInt8.toNat) (dw_st21 9)).trans (by decide +kernel))) (dw_u1 (q := 672 + 10) rfl ((congrArg (Option.map UInt8.toNat) (dw_st21 10)).trans (by decide +kernel)))
theorem dL_law_683 : decode cL_law 683 = .ok (.iconst 1, 1) := dk_4 (dw_u1 (q := 672 + 11) rfl ((congrArg (Option.map UInt8.toNat) (dw_st21 11)).trans (by decide +kernel)))
theorem dL_law_684 : decode cL_law 684 = .ok (.iadd, 1) := dk_96 (dw_u1 (q := 672 + 12) rfl ((congrArg (Option.map UInt8.toNat) (dw_st21 12)).trans (by decide +kernel)))
theorem dL_law_685 : decode cL_law 685 = .ok (.iaload, 1) := dk_46 (dw_u1 (q := 672 + 13) rfl ((congrArg (Option.map UInt8.toNat) (dw_st21 13)).trans (by decide +kernel)))
theorem dL_law_686 : decode cL_law 686 = .ok (.aload_n 0, 1) := dk_42 (dw_u1 (q := 672 + 14) rfl ((congrArg (Option.map UInt8.toNat) (dw_st21 14)).trans (by decide +kernel)))
theorem dL_law_687 : decode cL_law 687 = .ok (.iload 4, 2) := dk_21 (dw_u1 (q := 672 + 15) rfl ((congrArg (Option.map UInt8.toNat) (dw_st21 15)).trans (by decide +kernel))) (dw_u1 (q := 672 + 16) rfl ((congrArg (Option.map UInt8.toNat) (dw_st21 16)).trans (by decide +kernel)))
theorem dL_law_689 : decode cL_law 689 = .ok (.iconst 2, 1) := dk_5 (dw_u1 (q := 672 + 17) rfl ((congrArg (Option.map UInt8.toNat) (dw_st21 17)).trans (by decide +kernel)))
theorem dL_law_690 : decode cL_law 690 = .ok (.iadd, 1) := dk_96 (dw_u1 (q := 672 + 18) rfl ((congrArg (Option.map UInt8.toNat) (dw_st21 18)).trans (by decide +kernel)))
theorem dL_law_691 : decode cL_law 691 = .ok (.iaload, 1) := dk_46 (dw_u1 (q := 672 + 19) rfl ((congrArg (Option.map UInt8.toNat) (dw_st21 19)).trans (by decide +kernel)))
theorem dL_law_692 : decode cL_law 692 = .ok (.invokevirtual 162, 3) := dk_182 (x := 0) (y := 162) (dw_u1 (q := 672 + 20) rfl ((congrArg (Option.map UInt8.toNat) (dw_st21 20)).trans (by decide +kernel))) (dw_u1 (q := 672 + 21) rfl ((congrArg (Option.map UInt8.toNat) (dw_st21 21)).trans (by decide +kernel))) (dw_u1 (q := 672 + 22) rfl ((congrArg (Option.map UInt8.toNat) (dw_st21 22)).trans (by decide +kernel))) (by decide +kernel)
theorem dL_law_695 : decode cL_law 695 = .ok (.pop, 1) := dk_87 (dw_u1 (q := 672 + 23) rfl ((congrArg (Option.map UInt8.toNat) (dw_st21 23)).trans (by decide +kernel)))
theorem dL_law_696 : decode cL_law 696 = .ok (.aload_n 2, 1) := dk_44 (dw_u1 (q := 672 + 24) rfl ((congrArg (Option.map UInt8.toNat) (dw_st21 24)).trans (by decide +kernel)))
theorem dL_law_697 : decode cL_law 697 = .ok (.aload_n 0, 1) := dk_42 (dw_u1 (q := 672 + 25) rfl ((congrArg (Option.map UInt8.toNat) (dw_st21 25)).trans (by decide +kernel)))
theorem dL_law_698 : decode cL_law 698 = .ok (.iload 4, 2) := dk_21 (dw_u1 (q := 672 + 26) rfl ((congrArg (Option.map UInt8.toNat) (dw_st21 26)).trans (by decide +kernel))) (dw_u1 (q := 672 + 27) rfl ((congrArg (Option.map UInt8.toNat) (dw_st21 27)).trans (by decide +kernel)))
theorem dL_law_700 : decode cL_law 700 = .ok (.iconst 1, 1) := dk_4 (dw_u1 (q := 672 + 28) rfl ((congrArg (Option.map UInt8.toNat) (dw_st21 28)).trans (by decide +kernel)))
theorem dL_law_701 : decode cL_law 701 = .ok (.iadd, 1) := dk_96 (dw_u1 (q := 672 + 29) rfl ((congrArg (Option.map UInt8.toNat) (dw_st21 29)).trans (by decide +kernel)))
theorem dL_law_702 : decode cL_law 702 = .ok (.iaload, 1) := dk_46 (dw_u1 (q := 672 + 30) rfl ((congrArg (Option.map UInt8.toNat) (dw_st21 30)).trans (by decide +kernel)))
theorem dL_law_703 : decode cL_law 703 = .ok (.aload_n 0, 1) := dk_42 (dw_u1 (q := 672 + 31) rfl ((congrArg (Option.map UInt8.toNat) (dw_st21 31)).trans (by decide +kernel)))
theorem dL_law_704 : decode cL_law 704 = .ok (.iload 4, 2) := dk_21 (dw_u1 (q := 704 + 0) rfl ((congrArg (Option.map UInt8.toNat) (dw_st22 0)).trans (by decide +kernel))) (dw_u1 (q := 704 + 1) rfl ((congrArg (Option.map UInt8.toNat) (dw_st22 1)).trans (by decide +kernel)))
theorem dL_law_706 : decode cL_law 706 = .ok (.iconst 2, 1) := dk_5 (dw_u1 (q := 704 + 2) rfl ((congrArg (Option.map UInt8.toNat) (dw_st22 2)).trans (by decide +kernel)))
theorem dL_law_707 : decode cL_law 707 = .ok (.iadd, 1) := dk_96 (dw_u1 (q := 704 + 3) rfl ((congrArg (Option.map UInt8.toNat) (dw_st22 3)).trans (by decide +kernel)))
theorem dL_law_708 : decode cL_law 708 = .ok (.iaload, 1) := dk_46 (dw_u1 (q := 704 + 4) rfl ((congrArg (Option.map UInt8.toNat) (dw_st22 4)).trans (by decide +kernel)))
theorem dL_law_709 : decode cL_law 709 = .ok (.invokevirtual 165, 3) := dk_182 (x := 0) (y := 165) (dw_u1 (q := 704 + 5) rfl ((congrArg (Option.map UInt8.toNat) (dw_st22 5)).trans (by decide +kernel))) (dw_u1 (q := 704 + 6) rfl ((congrArg (Option.map UInt8.toNat) (dw_st22 6)).trans (by decide +kernel))) (dw_u1 (q := 704 + 7) rfl ((congrArg (Option.map UInt8.toNat) (dw_st22 7)).trans (by decide +kernel))) (by decide +kernel)
theorem dL_law_712 : decode cL_law 712 = .ok (.pop, 1) := dk_87 (dw_u1 (q := 704 + 8) rfl ((congrArg (Option.map UInt8.toNat) (dw_st22 8)).trans (by decide +kernel)))
theorem dL_law_713 : decode cL_law 713 = .ok (.goto 961, 3) := dk_167 (x := 3) (y := 193) (dw_u1 (q := 704 + 9) rfl ((congrArg (Option.map UInt8.toNat) (dw_st22 9)).trans (by decide +kernel))) (dw_u1 (q := 704 + 10) rfl ((congrArg (Option.map UInt8.toNat) (dw_st22 10)).trans (by decide +kernel))) (dw_u1 (q := 704 + 11) rfl ((congrArg (Option.map UInt8.toNat) (dw_st22 11)).trans (by decide +kernel))) (by decide +kernel)
theorem dL_law_716 : decode cL_law 716 = .ok (.aload_n 1, 1) := dk_43 (dw_u1 (q := 704 + 12) rfl ((congrArg (Option.map UInt8.toNat) (dw_st22 12)).trans (by decide +kernel)))
theorem dL_law_717 : decode cL_law 717 = .ok (.aload_n 0, 1) := dk_42 (dw_u1 (q := 704 + 13) rfl ((congrArg (Option.map UInt8.toNat) (dw_st22 13)).trans (by decide +kernel)))
theorem dL_law_718 : decode cL_law 718 = .ok (.iload 4, 2) := dk_21 (dw_u1 (q := 704 + 14) rfl ((congrArg (Option.map UInt8.toNat) (dw_st22 14)).trans (by decide +kernel))) (dw_u1 (q := 704 + 15) rfl ((congrArg (Option.map UInt8.toNat) (dw_st22 15)).trans (by decide +kernel)))
theorem dL_law_720 : decode cL_law 720 = .ok (.iconst 1, 1) := dk_4 (dw_u1 (q := 704 + 16) rfl ((congrArg (Option.map UInt8.toNat) (dw_st22 16)).trans (by decide +kernel)))
theorem dL_law_721 : decode cL_law 721 = .ok (.iadd, 1) := dk_96 (dw_u1 (q := 704 + 17) rfl ((congrArg (Option.map UInt8.toNat) (dw_st22 17)).trans (by decide +kernel)))
theorem dL_law_722 : decode cL_law 722 = .ok (.iaload, 1) := dk_46 (dw_u1 (q := 704 + 18) rfl ((congrArg (Option.map UInt8.toNat) (dw_st22 18)).trans (by decide +kernel)))
theorem dL_law_723 : decode cL_law 723 = .ok (.aload_n 0, 1) := dk_42 (dw_u1 (q := 704 + 19) rfl ((congrArg (Option.map UInt8.toNat) (dw_st22 19)).trans (by decide +kernel)))
theorem dL_law_724 : decode cL_law 724 = .ok (.iload 4, 2) := dk_21 (dw_u1 (q := 704 + 20) rfl ((congrArg (Option.map UInt8.toNat) (dw_st22 20)).trans (by decide +kernel))) (dw_u1 (q := 704 + 21) rfl ((congrArg (Option.map UInt8.toNat) (dw_st22 21)).trans (by decide +kernel)))
theorem dL_law_726 : decode cL_law 726 = .ok (.iconst 2, 1) := dk_5 (dw_u1 (q := 704 + 22) rfl ((congrArg (Option.map UInt8.toNat) (dw_st22 22)).trans (by decide +kernel)))
theorem dL_law_727 : decode cL_law 727 = .ok (.iadd, 1) := dk_96 (dw_u1 (q := 704 + 23) rfl ((congrArg (Option.map UInt8.toNat) (dw_st22 23)).trans (by decide +kernel)))
theorem dL_law_728 : decode cL_law 728 = .ok (.iaload, 1) := dk_46 (dw_u1 (q := 704 + 24) rfl ((congrArg (Option.map UInt8.toNat) (dw_st22 24)).trans (by decide +kernel)))
theorem dL_law_729 : decode cL_law 729 = .ok (.aload_n 0, 1) := dk_42 (dw_u1 (q := 704 + 25) rfl ((congrArg (Option.map UInt8.toNat) (dw_st22 25)).trans (by decide +kernel)))
theorem dL_law_730 : decode cL_law 730 = .ok (.iload 4, 2) := dk_21 (dw_u1 (q := 704 + 26) rfl ((congrArg (Option.map UInt8.toNat) (dw_st22 26)).trans (by decide +kernel))) (dw_u1 (q := 704 + 27) rfl ((congrArg (Option.map UInt8.toNat) (dw_st22 27)).trans (by decide +kernel)))
theorem dL_law_732 : decode cL_law 732 = .ok (.iconst 3, 1) := dk_6 (dw_u1 (q := 704 + 28) rfl ((congrArg (Option.map UInt8.toNat) (dw_st22 28)).trans (by decide +kernel)))
theorem dL_law_733 : decode cL_law 733 = .ok (.iadd, 1) := dk_96 (dw_u1 (q := 704 + 29) rfl ((congrArg (Option.map UInt8.toNat) (dw_st22 29)).trans (by decide +kernel)))
theorem dL_law_734 : decode cL_law 734 = .ok (.iaload, 1) := dk_46 (dw_u1 (q := 704 + 30) rfl ((congrArg (Option.map UInt8.toNat) (dw_st22 30)).trans (by decide +kernel)))
theorem dL_law_735 : decode cL_law 735 = .ok (.invokevirtual 166, 3) := dk_182 (x := 0) (y := 166) (dw_u1 (q := 704 + 31) rfl ((congrArg (Option.map UInt8.toNat) (dw_st22 31)).trans (by decide +kernel))) (dw_u1 (q := 736 + 0) rfl ((congrArg (Option.map UInt8.toNat) (dw_st23 0)).trans (by decide +kernel))) (dw_u1 (q := 736 + 1) rfl ((congrArg (Option.map UInt8.toNat) (dw_st23 1)).trans (by decide +kernel))) (by decide +kernel)
theorem dL_law_738 : decode cL_law 738 = .ok (.pop, 1) := dk_87 (dw_u1 (q := 736 + 2) rfl ((congrArg (Option.map UInt8.toNat) (dw_st23 2)).trans (by decide +kernel)))
theorem dL_law_739 : decode cL_law 739 = .ok (.aload_n 2, 1) := dk_44 (dw_u1 (q := 736 + 3) rfl ((congrArg (Option.map UInt8.toNat) (dw_st23 3)).trans (by decide +kernel)))
theorem dL_law_740 : decode cL_law 740 = .ok (.aload_n 0, 1) := dk_42 (dw_u1 (q := 736 + 4) rfl ((congrArg (Option.map UInt8.toNat) (dw_st23 4)).trans (by decide +kernel)))
theorem dL_law_741 : decode cL_law 741 = .ok (.iload 4, 2) := dk_21 (dw_u1 (q := 736 + 5) rfl ((congrArg (Option.map UInt8.toNat) (dw_st23 5)).trans (by decide +kernel))) (dw_u1 (q := 736 + 6) rfl ((congrArg (Option.map UInt8.toNat) (dw_st23 6)).trans (by decide +kernel)))
theorem dL_law_743 : decode cL_law 743 = .ok (.iconst 1, 1) := dk_4 (dw_u1 (q := 736 + 7) rfl ((congrArg (Option.map UInt8.toNat) (dw_st23 7)).trans (by decide +kernel)))
theorem dL_law_744 : decode cL_law 744 = .ok (.iadd, 1) := dk_96 (dw_u1 (q := 736 + 8) rfl ((congrArg (Option.map UInt8.toNat) (dw_st23 8)).trans (by decide +kernel)))
theorem dL_law_745 : decode cL_law 745 = .ok (.iaload, 1) := dk_46 (dw_u1 (q := 736 + 9) rfl ((congrArg (Option.map UInt8.toNat) (dw_st23 9)).trans (by decide +kernel)))
theorem dL_law_746 : decode cL_law 746 = .ok (.aload_n 0, 1) := dk_42 (dw_u1 (q := 736 + 10) rfl ((congrArg (Option.map UInt8.toNat) (dw_st23 10)).trans (by decide +kernel)))
theorem dL_law_747 : decode cL_law 747 = .ok (.iload 4, 2) := dk_21 (dw_u1 (q := 736 + 11) rfl ((congrArg (Option.map UInt8.toNat) (dw_st23 11)).trans (by decide +kernel))) (dw_u1 (q := 736 + 12) rfl ((congrArg (Option.map UInt8.toNat) (dw_st23 12)).trans (by decide +kernel)))
theorem dL_law_749 : decode cL_law 749 = .ok (.iconst 2, 1) := dk_5 (dw_u1 (q := 736 + 13) rfl ((congrArg (Option.map UInt8.toNat) (dw_st23 13)).trans (by decide +kernel)))
theorem dL_law_750 : decode cL_law 750 = .ok (.iadd, 1) := dk_96 (dw_u1 (q := 736 + 14) rfl ((congrArg (Option.map UInt8.toNat) (dw_st23 14)).trans (by decide +kernel)))
theorem dL_law_751 : decode cL_law 751 = .ok (.iaload, 1) := dk_46 (dw_u1 (q := 736 + 15) rfl ((congrArg (Option.map UInt8.toNat) (dw_st23 15)).trans (by decide +kernel)))
theorem dL_law_752 : decode cL_law 752 = .ok (.aload_n 0, 1) := dk_42 (dw_u1 (q := 736 + 16) rfl ((congrArg (Option.map UInt8.toNat) (dw_st23 16)).trans (by decide +kernel)))
theorem dL_law_753 : decode cL_law 753 = .ok (.iload 4, 2) := dk_21 (dw_u1 (q := 736 + 17) rfl ((congrArg (Option.map UInt8.toNat) (dw_st23 17)).trans (by decide +kernel))) (dw_u1 (q := 736 + 18) rfl ((congrArg (Option.map UInt8.toNat) (dw_st23 18)).trans (by decide +kernel)))
theorem dL_law_755 : decode cL_law 755 = .ok (.iconst 3, 1) := dk_6 (dw_u1 (q := 736 + 19) rfl ((congrArg (Option.map UInt8.toNat) (dw_st23 19)).trans (by decide +kernel)))
theorem dL_law_756 : decode cL_law 756 = .ok (.iadd, 1) := dk_96 (dw_u1 (q := 736 + 20) rfl ((congrArg (Option.map UInt8.toNat) (dw_st23 20)).trans (by decide +kernel)))
theorem dL_law_757 : decode cL_law 757 = .ok (.iaload, 1) := dk_46 (dw_u1 (q := 736 + 21) rfl ((congrArg (Option.map UInt8.toNat) (dw_st23 21)).trans (by decide +kernel)))
theorem dL_law_758 : decode cL_law 758 = .ok (.invokevirtual 170, 3) := dk_182 (x := 0) (y := 170) (dw_u1 (q := 736 + 22) rfl ((congrArg (Option.map UInt8.toNat) (dw_st23 22)).trans (by decide +kernel))) (dw_u1 (q := 736 + 23) rfl ((congrArg (Option.map UInt8.toNat) (dw_st23 23)).trans (by decide +kernel))) (dw_u1 (q := 736 + 24) rfl ((congrArg (Option.map UInt8.toNat) (dw_st23 24)).trans (by decide +kernel))) (by decide +kernel)
theorem dL_law_761 : decode cL_law 761 = .ok (.pop, 1) := dk_87 (dw_u1 (q := 736 + 25) rfl ((congrArg (Option.map UInt8.toNat) (dw_st23 25)).trans (by decide +kernel)))
theorem dL_law_762 : decode cL_law 762 = .ok (.goto 912, 3) := dk_167 (x := 3) (y := 144) (dw_u1 (q := 736 + 26) rfl ((congrArg (Option.map UInt8.toNat) (dw_st23 26)).trans (by decide +kernel))) (dw_u1 (q := 736 + 27) rfl ((congrArg (Option.map UInt8.toNat) (dw_st23 27)).trans (by decide +kernel))) (dw_u1 (q := 736 + 28) rfl ((congrArg (Option.map UInt8.toNat) (dw_st23 28)).trans (by decide +kernel))) (by decide +kernel)
theorem dL_law_765 : decode cL_law 765 = .ok (.aload_n 1, 1) := dk_43 (dw_u1 (q := 736 + 29) rfl ((congrArg (Option.map UInt8.toNat) (dw_st23 29)).trans (by decide +kernel)))
theorem dL_law_766 : decode cL_law 766 = .ok (.aload_n 0, 1) := dk_42 (dw_u1 (q := 736 + 30) rfl ((congrArg (Option.map UInt8.toNat) (dw_st23 30)).trans (by decide +kernel)))
theorem dL_law_767 : decode cL_law 767 = .ok (.iload 4, 2) := dk_21 (dw_u1 (q := 736 + 31) rfl ((congrArg (Option.map UInt8.toNat) (dw_st23 31)).trans (by decide +kernel))) (dw_u1 (q := 768 + 0) rfl ((congrArg (Option.map UInt8.toNat) (dw_st24 0)).trans (by decide +kernel)))
theorem dL_law_769 : decode cL_law 769 = .ok (.iconst 1, 1) := dk_4 (dw_u1 (q := 768 + 1) rfl ((congrArg (Option.map UInt8.toNat) (dw_st24 1)).trans (by decide +kernel)))
theorem dL_law_770 : decode cL_law 770 = .ok (.iadd, 1) := dk_96 (dw_u1 (q := 768 + 2) rfl ((congrArg (Option.map UInt8.toNat) (dw_st24 2)).trans (by decide +kernel)))
theorem dL_law_771 : decode cL_law 771 = .ok (.iaload, 1) := dk_46 (dw_u1 (q := 768 + 3) rfl ((congrArg (Option.map UInt8.toNat) (dw_st24 3)).trans (by decide +kernel)))
theorem dL_law_772 : decode cL_law 772 = .ok (.aload_n 0, 1) := dk_42 (dw_u1 (q := 768 + 4) rfl ((congrArg (Option.map UInt8.toNat) (dw_st24 4)).trans (by decide +kernel)))
theorem dL_law_773 : decode cL_law 773 = .ok (.iload 4, 2) := dk_21 (dw_u1 (q := 768 + 5) rfl ((congrArg (Option.map UInt8.toNat) (dw_st24 5)).trans (by decide +kernel))) (dw_u1 (q := 768 + 6) rfl ((congrArg (Option.map UInt8.toNat) (dw_st24 6)).trans (by decide +kernel)))
theorem dL_law_775 : decode cL_law 775 = .ok (.iconst 2, 1) := dk_5 (dw_u1 (q := 768 + 7) rfl ((congrArg (Option.map UInt8.toNat) (dw_st24 7)).trans (by decide +kernel)))
theorem dL_law_776 : decode cL_law 776 = .ok (.iadd, 1) := dk_96 (dw_u1 (q := 768 + 8) rfl ((congrArg (Option.map UInt8.toNat) (dw_st24 8)).trans (by decide +kernel)))
theorem dL_law_777 : decode cL_law 777 = .ok (.iaload, 1) := dk_46 (dw_u1 (q := 768 + 9) rfl ((congrArg (Option.map UInt8.toNat) (dw_st24 9)).trans (by decide +kernel)))
theorem dL_law_778 : decode cL_law 778 = .ok (.aload_n 0, 1) := dk_42 (dw_u1 (q := 768 + 10) rfl ((congrArg (Option.map UInt8.toNat) (dw_st24 10)).trans (by decide +kernel)))
theorem dL_law_779 : decode cL_law 779 = .ok (.iload 4, 2) := dk_21 (dw_u1 (q := 768 + 11) rfl ((congrArg (Option.map UInt8.toNat) (dw_st24 11)).trans (by decide +kernel))) (dw_u1 (q := 768 + 12) rfl ((congrArg (Option.map UInt8.toNat) (dw_st24 12)).trans (by decide +kernel)))
theorem dL_law_781 : decode cL_law 781 = .ok (.iconst 3, 1) := dk_6 (dw_u1 (q := 768 + 13) rfl ((congrArg (Option.map UInt8.toNat) (dw_st24 13)).trans (by decide +kernel)))
theorem dL_law_782 : decode cL_law 782 = .ok (.iadd, 1) := dk_96 (dw_u1 (q := 768 + 14) rfl ((congrArg (Option.map UInt8.toNat) (dw_st24 14)).trans (by decide +kernel)))
theorem dL_law_783 : decode cL_law 783 = .ok (.iaload, 1) := dk_46 (dw_u1 (q := 768 + 15) rfl ((congrArg (Option.map UInt8.toNat) (dw_st24 15)).trans (by decide +kernel)))
theorem dL_law_784 : decode cL_law 784 = .ok (.invokevirtual 171, 3) := dk_182 (x := 0) (y := 171) (dw_u1 (q := 768 + 16) rfl ((congrArg (Option.map UInt8.toNat) (dw_st24 16)).trans (by decide +kernel))) (dw_u1 (q := 768 + 17) rfl ((congrArg (Option.map UInt8.toNat) (dw_st24 17)).trans (by decide +kernel))) (dw_u1 (q := 768 + 18) rfl ((congrArg (Option.map UInt8.toNat) (dw_st24 18)).trans (by decide +kernel))) (by decide +kernel)
theorem dL_law_787 : decode cL_law 787 = .ok (.pop, 1) := dk_87 (dw_u1 (q := 768 + 19) rfl ((congrArg (Option.map UInt8.toNat) (dw_st24 19)).trans (by decide +kernel)))
theorem dL_law_788 : decode cL_law 788 = .ok (.aload_n 2, 1) := dk_44 (dw_u1 (q := 768 + 20) rfl ((congrArg (Option.map UInt8.toNat) (dw_st24 20)).trans (by decide +kernel)))
theorem dL_law_789 : decode cL_law 789 = .ok (.aload_n 0, 1) := dk_42 (dw_u1 (q := 768 + 21) rfl ((congrArg (Option.map UInt8.toNat) (dw_st24 21)).trans (by decide +kernel)))
theorem dL_law_790 : decode cL_law 790 = .ok (.iload 4, 2) := dk_21 (dw_u1 (q := 768 + 22) rfl ((congrArg (Option.map UInt8.toNat) (dw_st24 22)).trans (by decide +kernel))) (dw_u1 (q := 768 + 23) rfl ((congrArg (Option.map UInt8.toNat) (dw_st24 23)).trans (by decide +kernel)))
theorem dL_law_792 : decode cL_law 792 = .ok (.iconst 1, 1) := dk_4 (dw_u1 (q := 768 + 24) rfl ((congrArg (Option.map UInt8.toNat) (dw_st24 24)).trans (by decide +kernel)))
theorem dL_law_793 : decode cL_law 793 = .ok (.iadd, 1) := dk_96 (dw_u1 (q := 768 + 25) rfl ((congrArg (Option.map UInt8.toNat) (dw_st24 25)).trans (by decide +kernel)))
theorem dL_law_794 : decode cL_law 794 = .ok (.iaload, 1) := dk_46 (dw_u1 (q := 768 + 26) rfl ((congrArg (Option.map UInt8.toNat) (dw_st24 26)).trans (by decide +kernel)))
theorem dL_law_795 : decode cL_law 795 = .ok (.aload_n 0, 1) := dk_42 (dw_u1 (q := 768 + 27) rfl ((congrArg (Option.map UInt8.toNat) (dw_st24 27)).trans (by decide +kernel)))
theorem dL_law_796 : decode cL_law 796 = .ok (.iload 4, 2) := dk_21 (dw_u1 (q := 768 + 28) rfl ((congrArg (Option.map UInt8.toNat) (dw_st24 28)).trans (by decide +kernel))) (dw_u1 (q := 768 + 29) rfl ((congrArg (Option.map UInt8.toNat) (dw_st24 29)).trans (by decide +kernel)))
theorem dL_law_798 : decode cL_law 798 = .ok (.iconst 2, 1) := dk_5 (dw_u1 (q := 768 + 30) rfl ((congrArg (Option.map UInt8.toNat) (dw_st24 30)).trans (by decide +kernel)))
theorem dL_law_799 : decode cL_law 799 = .ok (.iadd, 1) := dk_96 (dw_u1 (q := 768 + 31) rfl ((congrArg (Option.map UInt8.toNat) (dw_st24 31)).trans (by decide +kernel)))
theorem dL_law_800 : decode cL_law 800 = .ok (.iaload, 1) := dk_46 (dw_u1 (q := 800 + 0) rfl ((congrArg (Option.map UInt8.toNat) (dw_st25 0)).trans (by decide +kernel)))
theorem dL_law_801 : decode cL_law 801 = .ok (.aload_n 0, 1) := dk_42 (dw_u1 (q := 800 + 1) rfl ((congrArg (Option.map UInt8.toNat) (dw_st25 1)).trans (by decide +kernel)))
theorem dL_law_802 : decode cL_law 802 = .ok (.iload 4, 2) := dk_21 (dw_u1 (q := 800 + 2) rfl ((congrArg (Option.map UInt8.toNat) (dw_st25 2)).trans (by decide +kernel))) (dw_u1 (q := 800 + 3) rfl ((congrArg (Option.map UInt8.toNat) (dw_st25 3)).trans (by decide +kernel)))
theorem dL_law_804 : decode cL_law 804 = .ok (.iconst 3, 1) := dk_6 (dw_u1 (q := 800 + 4) rfl ((congrArg (Option.map UInt8.toNat) (dw_st25 4)).trans (by decide +kernel)))
theorem dL_law_805 : decode cL_law 805 = .ok (.iadd, 1) := dk_96 (dw_u1 (q := 800 + 5) rfl ((congrArg (Option.map UInt8.toNat) (dw_st25 5)).trans (by decide +kernel)))
theorem dL_law_806 : decode cL_law 806 = .ok (.iaload, 1) := dk_46 (dw_u1 (q := 800 + 6) rfl ((congrArg (Option.map UInt8.toNat) (dw_st25 6)).trans (by decide +kernel)))
theorem dL_law_807 : decode cL_law 807 = .ok (.invokevirtual 174, 3) := dk_182 (x := 0) (y := 174) (dw_u1 (q := 800 + 7) rfl ((congrArg (Option.map UInt8.toNat) (dw_st25 7)).trans (by decide +kernel))) (dw_u1 (q := 800 + 8) rfl ((congrArg (Option.map UInt8.toNat) (dw_st25 8)).trans (by decide +kernel))) (dw_u1 (q := 800 + 9) rfl ((congrArg (Option.map UInt8.toNat) (dw_st25 9)).trans (by decide +kernel))) (by decide +kernel)
theorem dL_law_810 : decode cL_law 810 = .ok (.pop, 1) := dk_87 (dw_u1 (q := 800 + 10) rfl ((congrArg (Option.map UInt8.toNat) (dw_st25 10)).trans (by decide +kernel)))
theorem dL_law_811 : decode cL_law 811 = .ok (.goto 863, 3) := dk_167 (x := 3) (y := 95) (dw_u1 (q := 800 + 11) rfl ((congrArg (Option.map UInt8.toNat) (dw_st25 11)).trans (by decide +kernel))) (dw_u1 (q := 800 + 12) rfl ((congrArg (Option.map UInt8.toNat) (dw_st25 12)).trans (by decide +kernel))) (dw_u1 (q := 800 + 13) rfl ((congrArg (Option.map UInt8.toNat) (dw_st25 13)).trans (by decide +kernel))) (by decide +kernel)
theorem dL_law_814 : decode cL_law 814 = .ok (.aload_n 1, 1) := dk_43 (dw_u1 (q := 800 + 14) rfl ((congrArg (Option.map UInt8.toNat) (dw_st25 14)).trans (by decide +kernel)))
theorem dL_law_815 : decode cL_law 815 = .ok (.aload_n 0, 1) := dk_42 (dw_u1 (q := 800 + 15) rfl ((congrArg (Option.map UInt8.toNat) (dw_st25 15)).trans (by decide +kernel)))
theorem dL_law_816 : decode cL_law 816 = .ok (.iload 4, 2) := dk_21 (dw_u1 (q := 800 + 16) rfl ((congrArg (Option.map UInt8.toNat) (dw_st25 16)).trans (by decide +kernel))) (dw_u1 (q := 800 + 17) rfl ((congrArg (Option.map UInt8.toNat) (dw_st25 17)).trans (by decide +kernel)))
theorem dL_law_818 : decode cL_law 818 = .ok (.iconst 1, 1) := dk_4 (dw_u1 (q := 800 + 18) rfl ((congrArg (Option.map UInt8.toNat) (dw_st25 18)).trans (by decide +kernel)))
theorem dL_law_819 : decode cL_law 819 = .ok (.iadd, 1) := dk_96 (dw_u1 (q := 800 + 19) rfl ((congrArg (Option.map UInt8.toNat) (dw_st25 19)).trans (by decide +kernel)))
theorem dL_law_820 : decode cL_law 820 = .ok (.iaload, 1) := dk_46 (dw_u1 (q := 800 + 20) rfl ((congrArg (Option.map UInt8.toNat) (dw_st25 20)).trans (by decide +kernel)))
theorem dL_law_821 : decode cL_law 821 = .ok (.aload_n 0, 1) := dk_42 (dw_u1 (q := 800 + 21) rfl ((congrArg (Option.map UInt8.toNat) (dw_st25 21)).trans (by decide +kernel)))
theorem dL_law_822 : decode cL_law 822 = .ok (.iload 4, 2) := dk_21 (dw_u1 (q := 800 + 22) rfl ((congrArg (Option.map UInt8.toNat) (dw_st25 22)).trans (by decide +kernel))) (dw_u1 (q := 800 + 23) rfl ((congrArg (Option.map UInt8.toNat) (dw_st25 23)).trans (by decide +kernel)))
theorem dL_law_824 : decode cL_law 824 = .ok (.iconst 2, 1) := dk_5 (dw_u1 (q := 800 + 24) rfl ((congrArg (Option.map UInt8.toNat) (dw_st25 24)).trans (by decide +kernel)))
theorem dL_law_825 : decode cL_law 825 = .ok (.iadd, 1) := dk_96 (dw_u1 (q := 800 + 25) rfl ((congrArg (Option.map UInt8.toNat) (dw_st25 25)).trans (by decide +kernel)))
theorem dL_law_826 : decode cL_law 826 = .ok (.iaload, 1) := dk_46 (dw_u1 (q := 800 + 26) rfl ((congrArg (Option.map UInt8.toNat) (dw_st25 26)).trans (by decide +kernel)))
theorem dL_law_827 : decode cL_law 827 = .ok (.aload_n 3, 1) := dk_45 (dw_u1 (q := 800 + 27) rfl ((congrArg (Option.map UInt8.toNat) (dw_st25 27)).trans (by decide +kernel)))
theorem dL_law_828 : decode cL_law 828 = .ok (.invokestatic 175, 3) := dk_184 (x := 0) (y := 175) (dw_u1 (q := 800 + 28) rfl ((congrArg (Option.map UInt8.toNat) (dw_st25 28)).trans (by decide +kernel))) (dw_u1 (q := 800 + 29) rfl ((congrArg (Option.map UInt8.toNat) (dw_st25 29)).trans (by decide +kernel))) (dw_u1 (q := 800 + 30) rfl ((congrArg (Option.map UInt8.toNat) (dw_st25 30)).trans (by decide +kernel))) (by decide +kernel)
theorem dL_law_831 : decode cL_law 831 = .ok (.istore 5, 2) := dk_54 (dw_u1 (q := 800 + 31) rfl ((congrArg (Option.map UInt8.toNat) (dw_st25 31)).trans (by decide +kernel))) (dw_u1 (q := 832 + 0) rfl ((congrArg (Option.map UInt8.toNat) (dw_st26 0)).trans (by decide +kernel)))
theorem dL_law_833 : decode cL_law 833 = .ok (.aload_n 2, 1) := dk_44 (dw_u1 (q := 832 + 1) rfl ((congrArg (Option.map UInt8.toNat) (dw_st26 1)).trans (by decide +kernel)))
theorem dL_law_834 : decode cL_law 834 = .ok (.aload_n 0, 1) := dk_42 (dw_u1 (q := 832 + 2) rfl ((congrArg (Option.map UInt8.toNat) (dw_st26 2)).trans (by decide +kernel)))
theorem dL_law_835 : decode cL_law 835 = .ok (.iload 4, 2) := dk_21 (dw_u1 (q := 832 + 3) rfl ((congrArg (Option.map UInt8.toNat) (dw_st26 3)).trans (by decide +kernel))) (dw_u1 (q := 832 + 4) rfl ((congrArg (Option.map UInt8.toNat) (dw_st26 4)).trans (by decide +kernel)))
theorem dL_law_837 : decode cL_law 837 = .ok (.iconst 1, 1) := dk_4 (dw_u1 (q := 832 + 5) rfl ((congrArg (Option.map UInt8.toNat) (dw_st26 5)).trans (by decide +kernel)))
theorem dL_law_838 : decode cL_law 838 = .ok (.iadd, 1) := dk_96 (dw_u1 (q := 832 + 6) rfl ((congrArg (Option.map UInt8.toNat) (dw_st26 6)).trans (by decide +kernel)))
theorem dL_law_839 : decode cL_law 839 = .ok (.iaload, 1) := dk_46 (dw_u1 (q := 832 + 7) rfl ((congrArg (Option.map UInt8.toNat) (dw_st26 7)).trans (by decide +kernel)))
theorem dL_law_840 : decode cL_law 840 = .ok (.aload_n 0, 1) := dk_42 (dw_u1 (q := 832 + 8) rfl ((congrArg (Option.map UInt8.toNat) (dw_st26 8)).trans (by decide +kernel)))
theorem dL_law_841 : decode cL_law 841 = .ok (.iload 4, 2) := dk_21 (dw_u1 (q := 832 + 9) rfl ((congrArg (Option.map UInt8.toNat) (dw_st26 9)).trans (by decide +kernel))) (dw_u1 (q := 832 + 10) rfl ((congrArg (Option.map UInt8.toNat) (dw_st26 10)).trans (by decide +kernel)))
theorem dL_law_843 : decode cL_law 843 = .ok (.iconst 2, 1) := dk_5 (dw_u1 (q := 832 + 11) rfl ((congrArg (Option.map UInt8.toNat) (dw_st26 11)).trans (by decide +kernel)))
theorem dL_law_844 : decode cL_law 844 = .ok (.iadd, 1) := dk_96 (dw_u1 (q := 832 + 12) rfl ((congrArg (Option.map UInt8.toNat) (dw_st26 12)).trans (by decide +kernel)))
theorem dL_law_845 : decode cL_law 845 = .ok (.iaload, 1) := dk_46 (dw_u1 (q := 832 + 13) rfl ((congrArg (Option.map UInt8.toNat) (dw_st26 13)).trans (by decide +kernel)))
theorem dL_law_846 : decode cL_law 846 = .ok (.invokevirtual 177, 3) := dk_182 (x := 0) (y := 177) (dw_u1 (q := 832 + 14) rfl ((congrArg (Option.map UInt8.toNat) (dw_st26 14)).trans (by decide +kernel))) (dw_u1 (q := 832 + 15) rfl ((congrArg (Option.map UInt8.toNat) (dw_st26 15)).trans (by decide +kernel))) (dw_u1 (q := 832 + 16) rfl ((congrArg (Option.map UInt8.toNat) (dw_st26 16)).trans (by decide +kernel))) (by decide +kernel)
theorem dL_law_849 : decode cL_law 849 = .ok (.istore 6, 2) := dk_54 (dw_u1 (q := 832 + 17) rfl ((congrArg (Option.map UInt8.toNat) (dw_st26 17)).trans (by decide +kernel))) (dw_u1 (q := 832 + 18) rfl ((congrArg (Option.map UInt8.toNat) (dw_st26 18)).trans (by decide +kernel)))
theorem dL_law_851 : decode cL_law 851 = .ok (.goto 823, 3) := dk_167 (x := 3) (y := 55) (dw_u1 (q := 832 + 19) rfl ((congrArg (Option.map UInt8.toNat) (dw_st26 19)).trans (by decide +kernel))) (dw_u1 (q := 832 + 20) rfl ((congrArg (Option.map UInt8.toNat) (dw_st26 20)).trans (by decide +kernel))) (dw_u1 (q := 832 + 21) rfl ((congrArg (Option.map UInt8.toNat) (dw_st26 21)).trans (by decide +kernel))) (by decide +kernel)
theorem dL_law_854 : decode cL_law 854 = .ok (.aload_n 1, 1) := dk_43 (dw_u1 (q := 832 + 22) rfl ((congrArg (Option.map UInt8.toNat) (dw_st26 22)).trans (by decide +kernel)))
theorem dL_law_855 : decode cL_law 855 = .ok (.aload_n 0, 1) := dk_42 (dw_u1 (q := 832 + 23) rfl ((congrArg (Option.map UInt8.toNat) (dw_st26 23)).trans (by decide +kernel)))
theorem dL_law_856 : decode cL_law 856 = .ok (.iload 4, 2) := dk_21 (dw_u1 (q := 832 + 24) rfl ((congrArg (Option.map UInt8.toNat) (dw_st26 24)).trans (by decide +kernel))) (dw_u1 (q := 832 + 25) rfl ((congrArg (Option.map UInt8.toNat) (dw_st26 25)).trans (by decide +kernel)))
theorem dL_law_858 : decode cL_law 858 = .ok (.iconst 1, 1) := dk_4 (dw_u1 (q := 832 + 26) rfl ((congrArg (Option.map UInt8.toNat) (dw_st26 26)).trans (by decide +kernel)))
theorem dL_law_859 : decode cL_law 859 = .ok (.iadd, 1) := dk_96 (dw_u1 (q := 832 + 27) rfl ((congrArg (Option.map UInt8.toNat) (dw_st26 27)).trans (by decide +kernel)))
theorem dL_law_860 : decode cL_law 860 = .ok (.iaload, 1) := dk_46 (dw_u1 (q := 832 + 28) rfl ((congrArg (Option.map UInt8.toNat) (dw_st26 28)).trans (by decide +kernel)))
theorem dL_law_861 : decode cL_law 861 = .ok (.aload_n 3, 1) := dk_45 (dw_u1 (q := 832 + 29) rfl ((congrArg (Option.map UInt8.toNat) (dw_st26 29)).trans (by decide +kernel)))
theorem dL_law_862 : decode cL_law 862 = .ok (.invokestatic 178, 3) := dk_184 (x := 0) (y := 178) (dw_u1 (q := 832 + 30) rfl ((congrArg (Option.map UInt8.toNat) (dw_st26 30)).trans (by decide +kernel))) (dw_u1 (q := 832 + 31) rfl ((congrArg (Option.map UInt8.toNat) (dw_st26 31)).trans (by decide +kernel))) (dw_u1 (q := 864 + 0) rfl ((congrArg (Option.map UInt8.toNat) (dw_st27 0)).trans (by decide +kernel))) (by decide +kernel)
theorem dL_law_865 : decode cL_law 865 = .ok (.istore 5, 2) := dk_54 (dw_u1 (q := 864 + 1) rfl ((congrArg (Option.map UInt8.toNat) (dw_st27 1)).trans (by decide +kernel))) (dw_u1 (q := 864 + 2) rfl ((congrArg (Option.map UInt8.toNat) (dw_st27 2)).trans (by decide +kernel)))
theorem dL_law_867 : decode cL_law 867 = .ok (.aload_n 2, 1) := dk_44 (dw_u1 (q := 864 + 3) rfl ((congrArg (Option.map UInt8.toNat) (dw_st27 3)).trans (by decide +kernel)))
theorem dL_law_868 : decode cL_law 868 = .ok (.aload_n 0, 1) := dk_42 (dw_u1 (q := 864 + 4) rfl ((congrArg (Option.map UInt8.toNat) (dw_st27 4)).trans (by decide +kernel)))
theorem dL_law_869 : decode cL_law 869 = .ok (.iload 4, 2) := dk_21 (dw_u1 (q := 864 + 5) rfl ((congrArg (Option.map UInt8.toNat) (dw_st27 5)).trans (by decide +kernel))) (dw_u1 (q := 864 + 6) rfl ((congrArg (Option.map UInt8.toNat) (dw_st27 6)).trans (by decide +kernel)))
theorem dL_law_871 : decode cL_law 871 = .ok (.iconst 1, 1) := dk_4 (dw_u1 (q := 864 + 7) rfl ((congrArg (Option.map UInt8.toNat) (dw_st27 7)).trans (by decide +kernel)))
theorem dL_law_872 : decode cL_law 872 = .ok (.iadd, 1) := dk_96 (dw_u1 (q := 864 + 8) rfl ((congrArg (Option.map UInt8.toNat) (dw_st27 8)).trans (by decide +kernel)))
theorem dL_law_873 : decode cL_law 873 = .ok (.iaload, 1) := dk_46 (dw_u1 (q := 864 + 9) rfl ((congrArg (Option.map UInt8.toNat) (dw_st27 9)).trans (by decide +kernel)))
theorem dL_law_874 : decode cL_law 874 = .ok (.invokevirtual 180, 3) := dk_182 (x := 0) (y := 180) (dw_u1 (q := 864 + 10) rfl ((congrArg (Option.map UInt8.toNat) (dw_st27 10)).trans (by decide +kernel))) (dw_u1 (q := 864 + 11) rfl ((congrArg (Option.map UInt8.toNat) (dw_st27 11)).trans (by decide +kernel))) (dw_u1 (q := 864 + 12) rfl ((congrArg (Option.map UInt8.toNat) (dw_st27 12)).trans (by decide +kernel))) (by decide +kernel)
theorem dk_58 {c : ByteArray} {p : Nat} (h0 : (Reader.u1 : Decoder Nat) c p = .ok (58, p + 1)) {x : Nat} (h1 : (Reader.u1 : Decoder Nat) c (p + 1) = .ok (x, p + 1 + 1)) : decode c p = .ok (.astore x, 2) := dw_run (q := p + 1 + 1) (by
  show Except.bind ((Reader.u1 : Decoder Nat) c p) _ = _
  rw [h0]
  show Except.bind ((Reader.u1 : Decoder Nat) c (p + 1)) _ = _
  rw [h1]
  rfl) (Nat.add_sub_cancel_left (n := p) (m := 2))
theorem dL_law_877 : decode cL_law 877 = .ok (.astore 6, 2) := dk_58 (dw_u1 (q := 864 + 13) rfl ((congrArg (Option.map UInt8.toNat) (dw_st27 13)).trans (by decide +kernel))) (dw_u1 (q := 864 + 14) rfl ((congrArg (Option.map UInt8.toNat) (dw_st27 14)).trans (by decide +kernel)))
theorem dL_law_879 : decode cL_law 879 = .ok (.goto 795, 3) := dk_167 (x := 3) (y := 27) (dw_u1 (q := 864 + 15) rfl ((congrArg (Option.map UInt8.toNat) (dw_st27 15)).trans (by decide +kernel))) (dw_u1 (q := 864 + 16) rfl ((congrArg (Option.map UInt8.toNat) (dw_st27 16)).trans (by decide +kernel))) (dw_u1 (q := 864 + 17) rfl ((congrArg (Option.map UInt8.toNat) (dw_st27 17)).trans (by decide +kernel))) (by decide +kernel)
theorem dL_law_882 : decode cL_law 882 = .ok (.aload_n 1, 1) := dk_43 (dw_u1 (q := 864 + 18) rfl ((congrArg (Option.map UInt8.toNat) (dw_st27 18)).trans (by decide +kernel)))
theorem dL_law_883 : decode cL_law 883 = .ok (.aload_n 0, 1) := dk_42 (dw_u1 (q := 864 + 19) rfl ((congrArg (Option.map UInt8.toNat) (dw_st27 19)).trans (by decide +kernel)))
theorem dL_law_884 : decode cL_law 884 = .ok (.iload 4, 2) := dk_21 (dw_u1 (q := 864 + 20) rfl ((congrArg (Option.map UInt8.toNat) (dw_st27 20)).trans (by decide +kernel))) (dw_u1 (q := 864 + 21) rfl ((congrArg (Option.map UInt8.toNat) (dw_st27 21)).trans (by decide +kernel)))
theorem dL_law_886 : decode cL_law 886 = .ok (.iconst 1, 1) := dk_4 (dw_u1 (q := 864 + 22) rfl ((congrArg (Option.map UInt8.toNat) (dw_st27 22)).trans (by decide +kernel)))
theorem dL_law_887 : decode cL_law 887 = .ok (.iadd, 1) := dk_96 (dw_u1 (q := 864 + 23) rfl ((congrArg (Option.map UInt8.toNat) (dw_st27 23)).trans (by decide +kernel)))
theorem dL_law_888 : decode cL_law 888 = .ok (.iaload, 1) := dk_46 (dw_u1 (q := 864 + 24) rfl ((congrArg (Option.map UInt8.toNat) (dw_st27 24)).trans (by decide +kernel)))
theorem dL_law_889 : decode cL_law 889 = .ok (.aload_n 3, 1) := dk_45 (dw_u1 (q := 864 + 25) rfl ((congrArg (Option.map UInt8.toNat) (dw_st27 25)).trans (by decide +kernel)))
theorem dL_law_890 : decode cL_law 890 = .ok (.invokestatic 181, 3) := dk_184 (x := 0) (y := 181) (dw_u1 (q := 864 + 26) rfl ((congrArg (Option.map UInt8.toNat) (dw_st27 26)).trans (by decide +kernel))) (dw_u1 (q := 864 + 27) rfl ((congrArg (Option.map UInt8.toNat) (dw_st27 27)).trans (by decide +kernel))) (dw_u1 (q := 864 + 28) rfl ((congrArg (Option.map UInt8.toNat) (dw_st27 28)).trans (by decide +kernel))) (by decide +kernel)
theorem dL_law_893 : decode cL_law 893 = .ok (.istore 5, 2) := dk_54 (dw_u1 (q := 864 + 29) rfl ((congrArg (Option.map UInt8.toNat) (dw_st27 29)).trans (by decide +kernel))) (dw_u1 (q := 864 + 30) rfl ((congrArg (Option.map UInt8.toNat) (dw_st27 30)).trans (by decide +kernel)))
theorem dL_law_895 : decode cL_law 895 = .ok (.aload_n 2, 1) := dk_44 (dw_u1 (q := 864 + 31) rfl ((congrArg (Option.map UInt8.toNat) (dw_st27 31)).trans (by decide +kernel)))
theorem dL_law_896 : decode cL_law 896 = .ok (.aload_n 0, 1) := dk_42 (dw_u1 (q := 896 + 0) rfl ((congrArg (Option.map UInt8.toNat) (dw_st28 0)).trans (by decide +kernel)))
theorem dL_law_897 : decode cL_law 897 = .ok (.iload 4, 2) := dk_21 (dw_u1 (q := 896 + 1) rfl ((congrArg (Option.map UInt8.toNat) (dw_st28 1)).trans (by decide +kernel))) (dw_u1 (q := 896 + 2) rfl ((congrArg (Option.map UInt8.toNat) (dw_st28 2)).trans (by decide +kernel)))
theorem dL_law_899 : decode cL_law 899 = .ok (.iconst 1, 1) := dk_4 (dw_u1 (q := 896 + 3) rfl ((congrArg (Option.map UInt8.toNat) (dw_st28 3)).trans (by decide +kernel)))
theorem dL_law_900 : decode cL_law 900 = .ok (.iadd, 1) := dk_96 (dw_u1 (q := 896 + 4) rfl ((congrArg (Option.map UInt8.toNat) (dw_st28 4)).trans (by decide +kernel)))
theorem dL_law_901 : decode cL_law 901 = .ok (.iaload, 1) := dk_46 (dw_u1 (q := 896 + 5) rfl ((congrArg (Option.map UInt8.toNat) (dw_st28 5)).trans (by decide +kernel)))
theorem dL_law_902 : decode cL_law 902 = .ok (.invokevirtual 183, 3) := dk_182 (x := 0) (y := 183) (dw_u1 (q := 896 + 6) rfl ((congrArg (Option.map UInt8.toNat) (dw_st28 6)).trans (by decide +kernel))) (dw_u1 (q := 896 + 7) rfl ((congrArg (Option.map UInt8.toNat) (dw_st28 7)).trans (by decide +kernel))) (dw_u1 (q := 896 + 8) rfl ((congrArg (Option.map UInt8.toNat) (dw_st28 8)).trans (by decide +kernel))) (by decide +kernel)
theorem dL_law_905 : decode cL_law 905 = .ok (.istore 6, 2) := dk_54 (dw_u1 (q := 896 + 9) rfl ((congrArg (Option.map UInt8.toNat) (dw_st28 9)).trans (by decide +kernel))) (dw_u1 (q := 896 + 10) rfl ((congrArg (Option.map UInt8.toNat) (dw_st28 10)).trans (by decide +kernel)))
theorem dL_law_907 : decode cL_law 907 = .ok (.goto 767, 3) := dk_167 (x := 2) (y := 255) (dw_u1 (q := 896 + 11) rfl ((congrArg (Option.map UInt8.toNat) (dw_st28 11)).trans (by decide +kernel))) (dw_u1 (q := 896 + 12) rfl ((congrArg (Option.map UInt8.toNat) (dw_st28 12)).trans (by decide +kernel))) (dw_u1 (q := 896 + 13) rfl ((congrArg (Option.map UInt8.toNat) (dw_st28 13)).trans (by decide +kernel))) (by decide +kernel)
theorem dL_law_910 : decode cL_law 910 = .ok (.aload_n 1, 1) := dk_43 (dw_u1 (q := 896 + 14) rfl ((congrArg (Option.map UInt8.toNat) (dw_st28 14)).trans (by decide +kernel)))
theorem dL_law_911 : decode cL_law 911 = .ok (.aload_n 0, 1) := dk_42 (dw_u1 (q := 896 + 15) rfl ((congrArg (Option.map UInt8.toNat) (dw_st28 15)).trans (by decide +kernel)))
theorem dL_law_912 : decode cL_law 912 = .ok (.iload 4, 2) := dk_21 (dw_u1 (q := 896 + 16) rfl ((congrArg (Option.map UInt8.toNat) (dw_st28 16)).trans (by decide +kernel))) (dw_u1 (q := 896 + 17) rfl ((congrArg (Option.map UInt8.toNat) (dw_st28 17)).trans (by decide +kernel)))
theorem dL_law_914 : decode cL_law 914 = .ok (.iconst 1, 1) := dk_4 (dw_u1 (q := 896 + 18) rfl ((congrArg (Option.map UInt8.toNat) (dw_st28 18)).trans (by decide +kernel)))
theorem dL_law_915 : decode cL_law 915 = .ok (.iadd, 1) := dk_96 (dw_u1 (q := 896 + 19) rfl ((congrArg (Option.map UInt8.toNat) (dw_st28 19)).trans (by decide +kernel)))
theorem dL_law_916 : decode cL_law 916 = .ok (.iaload, 1) := dk_46 (dw_u1 (q := 896 + 20) rfl ((congrArg (Option.map UInt8.toNat) (dw_st28 20)).trans (by decide +kernel)))
theorem dL_law_917 : decode cL_law 917 = .ok (.aload_n 0, 1) := dk_42 (dw_u1 (q := 896 + 21) rfl ((congrArg (Option.map UInt8.toNat) (dw_st28 21)).trans (by decide +kernel)))
theorem dL_law_918 : decode cL_law 918 = .ok (.iload 4, 2) := dk_21 (dw_u1 (q := 896 + 22) rfl ((congrArg (Option.map UInt8.toNat) (dw_st28 22)).trans (by decide +kernel))) (dw_u1 (q := 896 + 23) rfl ((congrArg (Option.map UInt8.toNat) (dw_st28 23)).trans (by decide +kernel)))
theorem dL_law_920 : decode cL_law 920 = .ok (.iconst 2, 1) := dk_5 (dw_u1 (q := 896 + 24) rfl ((congrArg (Option.map UInt8.toNat) (dw_st28 24)).trans (by decide +kernel)))
theorem dL_law_921 : decode cL_law 921 = .ok (.iadd, 1) := dk_96 (dw_u1 (q := 896 + 25) rfl ((congrArg (Option.map UInt8.toNat) (dw_st28 25)).trans (by decide +kernel)))
theorem dL_law_922 : decode cL_law 922 = .ok (.iaload, 1) := dk_46 (dw_u1 (q := 896 + 26) rfl ((congrArg (Option.map UInt8.toNat) (dw_st28 26)).trans (by decide +kernel)))
theorem dL_law_923 : decode cL_law 923 = .ok (.aload_n 3, 1) := dk_45 (dw_u1 (q := 896 + 27) rfl ((congrArg (Option.map UInt8.toNat) (dw_st28 27)).trans (by decide +kernel)))
theorem dL_law_924 : decode cL_law 924 = .ok (.invokestatic 184, 3) := dk_184 (x := 0) (y := 184) (dw_u1 (q := 896 + 28) rfl ((congrArg (Option.map UInt8.toNat) (dw_st28 28)).trans (by decide +kernel))) (dw_u1 (q := 896 + 29) rfl ((congrArg (Option.map UInt8.toNat) (dw_st28 29)).trans (by decide +kernel))) (dw_u1 (q := 896 + 30) rfl ((congrArg (Option.map UInt8.toNat) (dw_st28 30)).trans (by decide +kernel))) (by decide +kernel)
theorem dL_law_927 : decode cL_law 927 = .ok (.istore 5, 2) := dk_54 (dw_u1 (q := 896 + 31) rfl ((congrArg (Option.map UInt8.toNat) (dw_st28 31)).trans (by decide +kernel))) (dw_u1 (q := 928 + 0) rfl ((congrArg (Option.map UInt8.toNat) (dw_st29 0)).trans (by decide +kernel)))
theorem dL_law_929 : decode cL_law 929 = .ok (.aload_n 2, 1) := dk_44 (dw_u1 (q := 928 + 1) rfl ((congrArg (Option.map UInt8.toNat) (dw_st29 1)).trans (by decide +kernel)))
theorem dL_law_930 : decode cL_law 930 = .ok (.aload_n 0, 1) := dk_42 (dw_u1 (q := 928 + 2) rfl ((congrArg (Option.map UInt8.toNat) (dw_st29 2)).trans (by decide +kernel)))
theorem dL_law_931 : decode cL_law 931 = .ok (.iload 4, 2) := dk_21 (dw_u1 (q := 928 + 3) rfl ((congrArg (Option.map UInt8.toNat) (dw_st29 3)).trans (by decide +kernel))) (dw_u1 (q := 928 + 4) rfl ((congrArg (Option.map UInt8.toNat) (dw_st29 4)).trans (by decide +kernel)))
theorem dL_law_933 : decode cL_law 933 = .ok (.iconst 1, 1) := dk_4 (dw_u1 (q := 928 + 5) rfl ((congrArg (Option.map UInt8.toNat) (dw_st29 5)).trans (by decide +kernel)))
theorem dL_law_934 : decode cL_law 934 = .ok (.iadd, 1) := dk_96 (dw_u1 (q := 928 + 6) rfl ((congrArg (Option.map UInt8.toNat) (dw_st29 6)).trans (by decide +kernel)))
theorem dL_law_935 : decode cL_law 935 = .ok (.iaload, 1) := dk_46 (dw_u1 (q := 928 + 7) rfl ((congrArg (Option.map UInt8.toNat) (dw_st29 7)).trans (by decide +kernel)))
theorem dL_law_936 : decode cL_law 936 = .ok (.aload_n 0, 1) := dk_42 (dw_u1 (q := 928 + 8) rfl ((congrArg (Option.map UInt8.toNat) (dw_st29 8)).trans (by decide +kernel)))
theorem dL_law_937 : decode cL_law 937 = .ok (.iload 4, 2) := dk_21 (dw_u1 (q := 928 + 9) rfl ((congrArg (Option.map UInt8.toNat) (dw_st29 9)).trans (by decide +kernel))) (dw_u1 (q := 928 + 10) rfl ((congrArg (Option.map UInt8.toNat) (dw_st29 10)).trans (by decide +kernel)))
theorem dL_law_939 : decode cL_law 939 = .ok (.iconst 2, 1) := dk_5 (dw_u1 (q := 928 + 11) rfl ((congrArg (Option.map UInt8.toNat) (dw_st29 11)).trans (by decide +kernel)))
theorem dL_law_940 : decode cL_law 940 = .ok (.iadd, 1) := dk_96 (dw_u1 (q := 928 + 12) rfl ((congrArg (Option.map UInt8.toNat) (dw_st29 12)).trans (by decide +kernel)))
theorem dL_law_941 : decode cL_law 941 = .ok (.iaload, 1) := dk_46 (dw_u1 (q := 928 + 13) rfl ((congrArg (Option.map UInt8.toNat) (dw_st29 13)).trans (by decide +kernel)))
theorem dL_law_942 : decode cL_law 942 = .ok (.invokevirtual 186, 3) := dk_182 (x := 0) (y := 186) (dw_u1 (q := 928 + 14) rfl ((congrArg (Option.map UInt8.toNat) (dw_st29 14)).trans (by decide +kernel))) (dw_u1 (q := 928 + 15) rfl ((congrArg (Option.map UInt8.toNat) (dw_st29 15)).trans (by decide +kernel))) (dw_u1 (q := 928 + 16) rfl ((congrArg (Option.map UInt8.toNat) (dw_st29 16)).trans (by decide +kernel))) (by decide +kernel)
theorem dL_law_945 : decode cL_law 945 = .ok (.istore 6, 2) := dk_54 (dw_u1 (q := 928 + 17) rfl ((congrArg (Option.map UInt8.toNat) (dw_st29 17)).trans (by decide +kernel))) (dw_u1 (q := 928 + 18) rfl ((congrArg (Option.map UInt8.toNat) (dw_st29 18)).trans (by decide +kernel)))
theorem dL_law_947 : decode cL_law 947 = .ok (.goto 727, 3) := dk_167 (x := 2) (y := 215) (dw_u1 (q := 928 + 19) rfl ((congrArg (Option.map UInt8.toNat) (dw_st29 19)).trans (by decide +kernel))) (dw_u1 (q := 928 + 20) rfl ((congrArg (Option.map UInt8.toNat) (dw_st29 20)).trans (by decide +kernel))) (dw_u1 (q := 928 + 21) rfl ((congrArg (Option.map UInt8.toNat) (dw_st29 21)).trans (by decide +kernel))) (by decide +kernel)
theorem dL_law_950 : decode cL_law 950 = .ok (.aload_n 1, 1) := dk_43 (dw_u1 (q := 928 + 22) rfl ((congrArg (Option.map UInt8.toNat) (dw_st29 22)).trans (by decide +kernel)))
theorem dL_law_951 : decode cL_law 951 = .ok (.aload_n 0, 1) := dk_42 (dw_u1 (q := 928 + 23) rfl ((congrArg (Option.map UInt8.toNat) (dw_st29 23)).trans (by decide +kernel)))
theorem dL_law_952 : decode cL_law 952 = .ok (.iload 4, 2) := dk_21 (dw_u1 (q := 928 + 24) rfl ((congrArg (Option.map UInt8.toNat) (dw_st29 24)).trans (by decide +kernel))) (dw_u1 (q := 928 + 25) rfl ((congrArg (Option.map UInt8.toNat) (dw_st29 25)).trans (by decide +kernel)))
theorem dL_law_954 : decode cL_law 954 = .ok (.iconst 1, 1) := dk_4 (dw_u1 (q := 928 + 26) rfl ((congrArg (Option.map UInt8.toNat) (dw_st29 26)).trans (by decide +kernel)))
theorem dL_law_955 : decode cL_law 955 = .ok (.iadd, 1) := dk_96 (dw_u1 (q := 928 + 27) rfl ((congrArg (Option.map UInt8.toNat) (dw_st29 27)).trans (by decide +kernel)))
theorem dL_law_956 : decode cL_law 956 = .ok (.iaload, 1) := dk_46 (dw_u1 (q := 928 + 28) rfl ((congrArg (Option.map UInt8.toNat) (dw_st29 28)).trans (by decide +kernel)))
theorem dL_law_957 : decode cL_law 957 = .ok (.aload_n 0, 1) := dk_42 (dw_u1 (q := 928 + 29) rfl ((congrArg (Option.map UInt8.toNat) (dw_st29 29)).trans (by decide +kernel)))
theorem dL_law_958 : decode cL_law 958 = .ok (.iload 4, 2) := dk_21 (dw_u1 (q := 928 + 30) rfl ((congrArg (Option.map UInt8.toNat) (dw_st29 30)).trans (by decide +kernel))) (dw_u1 (q := 928 + 31) rfl ((congrArg (Option.map UInt8.toNat) (dw_st29 31)).trans (by decide +kernel)))
theorem dL_law_960 : decode cL_law 960 = .ok (.iconst 2, 1) := dk_5 (dw_u1 (q := 960 + 0) rfl ((congrArg (Option.map UInt8.toNat) (dw_st30 0)).trans (by decide +kernel)))
theorem dL_law_961 : decode cL_law 961 = .ok (.iadd, 1) := dk_96 (dw_u1 (q := 960 + 1) rfl ((congrArg (Option.map UInt8.toNat) (dw_st30 1)).trans (by decide +kernel)))
theorem dL_law_962 : decode cL_law 962 = .ok (.iaload, 1) := dk_46 (dw_u1 (q := 960 + 2) rfl ((congrArg (Option.map UInt8.toNat) (dw_st30 2)).trans (by decide +kernel)))
theorem dL_law_963 : decode cL_law 963 = .ok (.aload_n 0, 1) := dk_42 (dw_u1 (q := 960 + 3) rfl ((congrArg (Option.map UInt8.toNat) (dw_st30 3)).trans (by decide +kernel)))
theorem dL_law_964 : decode cL_law 964 = .ok (.iload 4, 2) := dk_21 (dw_u1 (q := 960 + 4) rfl ((congrArg (Option.map UInt8.toNat) (dw_st30 4)).trans (by decide +kernel))) (dw_u1 (q := 960 + 5) rfl ((congrArg (Option.map UInt8.toNat) (dw_st30 5)).trans (by decide +kernel)))
theorem dL_law_966 : decode cL_law 966 = .ok (.iconst 3, 1) := dk_6 (dw_u1 (q := 960 + 6) rfl ((congrArg (Option.map UInt8.toNat) (dw_st30 6)).trans (by decide +kernel)))
theorem dL_law_967 : decode cL_law 967 = .ok (.iadd, 1) := dk_96 (dw_u1 (q := 960 + 7) rfl ((congrArg (Option.map UInt8.toNat) (dw_st30 7)).trans (by decide +kernel)))
theorem dL_law_968 : decode cL_law 968 = .ok (.iaload, 1) := dk_46 (dw_u1 (q := 960 + 8) rfl ((congrArg (Option.map UInt8.toNat) (dw_st30 8)).trans (by decide +kernel)))
theorem dL_law_969 : decode cL_law 969 = .ok (.aload_n 3, 1) := dk_45 (dw_u1 (q := 960 + 9) rfl ((congrArg (Option.map UInt8.toNat) (dw_st30 9)).trans (by decide +kernel)))
theorem dL_law_970 : decode cL_law 970 = .ok (.invokestatic 187, 3) := dk_184 (x := 0) (y := 187) (dw_u1 (q := 960 + 10) rfl ((congrArg (Option.map UInt8.toNat) (dw_st30 10)).trans (by decide +kernel))) (dw_u1 (q := 960 + 11) rfl ((congrArg (Option.map UInt8.toNat) (dw_st30 11)).trans (by decide +kernel))) (dw_u1 (q := 960 + 12) rfl ((congrArg (Option.map UInt8.toNat) (dw_st30 12)).trans (by decide +kernel))) (by decide +kernel)
theorem dL_law_973 : decode cL_law 973 = .ok (.istore 5, 2) := dk_54 (dw_u1 (q := 960 + 13) rfl ((congrArg (Option.map UInt8.toNat) (dw_st30 13)).trans (by decide +kernel))) (dw_u1 (q := 960 + 14) rfl ((congrArg (Option.map UInt8.toNat) (dw_st30 14)).trans (by decide +kernel)))
theorem dL_law_975 : decode cL_law 975 = .ok (.aload_n 2, 1) := dk_44 (dw_u1 (q := 960 + 15) rfl ((congrArg (Option.map UInt8.toNat) (dw_st30 15)).trans (by decide +kernel)))
theorem dL_law_976 : decode cL_law 976 = .ok (.aload_n 0, 1) := dk_42 (dw_u1 (q := 960 + 16) rfl ((congrArg (Option.map UInt8.toNat) (dw_st30 16)).trans (by decide +kernel)))
theorem dL_law_977 : decode cL_law 977 = .ok (.iload 4, 2) := dk_21 (dw_u1 (q := 960 + 17) rfl ((congrArg (Option.map UInt8.toNat) (dw_st30 17)).trans (by decide +kernel))) (dw_u1 (q := 960 + 18) rfl ((congrArg (Option.map UInt8.toNat) (dw_st30 18)).trans (by decide +kernel)))
theorem dL_law_979 : decode cL_law 979 = .ok (.iconst 1, 1) := dk_4 (dw_u1 (q := 960 + 19) rfl ((congrArg (Option.map UInt8.toNat) (dw_st30 19)).trans (by decide +kernel)))
theorem dL_law_980 : decode cL_law 980 = .ok (.iadd, 1) := dk_96 (dw_u1 (q := 960 + 20) rfl ((congrArg (Option.map UInt8.toNat) (dw_st30 20)).trans (by decide +kernel)))
theorem dL_law_981 : decode cL_law 981 = .ok (.iaload, 1) := dk_46 (dw_u1 (q := 960 + 21) rfl ((congrArg (Option.map UInt8.toNat) (dw_st30 21)).trans (by decide +kernel)))
theorem dL_law_982 : decode cL_law 982 = .ok (.aload_n 0, 1) := dk_42 (dw_u1 (q := 960 + 22) rfl ((congrArg (Option.map UInt8.toNat) (dw_st30 22)).trans (by decide +kernel)))
theorem dL_law_983 : decode cL_law 983 = .ok (.iload 4, 2) := dk_21 (dw_u1 (q := 960 + 23) rfl ((congrArg (Option.map UInt8.toNat) (dw_st30 23)).trans (by decide +kernel))) (dw_u1 (q := 960 + 24) rfl ((congrArg (Option.map UInt8.toNat) (dw_st30 24)).trans (by decide +kernel)))
theorem dL_law_985 : decode cL_law 985 = .ok (.iconst 2, 1) := dk_5 (dw_u1 (q := 960 + 25) rfl ((congrArg (Option.map UInt8.toNat) (dw_st30 25)).trans (by decide +kernel)))
theorem dL_law_986 : decode cL_law 986 = .ok (.iadd, 1) := dk_96 (dw_u1 (q := 960 + 26) rfl ((congrArg (Option.map UInt8.toNat) (dw_st30 26)).trans (by decide +kernel)))
theorem dL_law_987 : decode cL_law 987 = .ok (.iaload, 1) := dk_46 (dw_u1 (q := 960 + 27) rfl ((congrArg (Option.map UInt8.toNat) (dw_st30 27)).trans (by decide +kernel)))
theorem dL_law_988 : decode cL_law 988 = .ok (.aload_n 0, 1) := dk_42 (dw_u1 (q := 960 + 28) rfl ((congrArg (Option.map UInt8.toNat) (dw_st30 28)).trans (by decide +kernel)))
theorem dL_law_989 : decode cL_law 989 = .ok (.iload 4, 2) := dk_21 (dw_u1 (q := 960 + 29) rfl ((congrArg (Option.map UInt8.toNat) (dw_st30 29)).trans (by decide +kernel))) (dw_u1 (q := 960 + 30) rfl ((congrArg (Option.map UInt8.toNat) (dw_st30 30)).trans (by decide +kernel)))
theorem dL_law_991 : decode cL_law 991 = .ok (.iconst 3, 1) := dk_6 (dw_u1 (q := 960 + 31) rfl ((congrArg (Option.map UInt8.toNat) (dw_st30 31)).trans (by decide +kernel)))
theorem dL_law_992 : decode cL_law 992 = .ok (.iadd, 1) := dk_96 (dw_u1 (q := 992 + 0) rfl ((congrArg (Option.map UInt8.toNat) (dw_st31 0)).trans (by decide +kernel)))
theorem dL_law_993 : decode cL_law 993 = .ok (.iaload, 1) := dk_46 (dw_u1 (q := 992 + 1) rfl ((congrArg (Option.map UInt8.toNat) (dw_st31 1)).trans (by decide +kernel)))
theorem dL_law_994 : decode cL_law 994 = .ok (.invokevirtual 189, 3) := dk_182 (x := 0) (y := 189) (dw_u1 (q := 992 + 2) rfl ((congrArg (Option.map UInt8.toNat) (dw_st31 2)).trans (by decide +kernel))) (dw_u1 (q := 992 + 3) rfl ((congrArg (Option.map UInt8.toNat) (dw_st31 3)).trans (by decide +kernel))) (dw_u1 (q := 992 + 4) rfl ((congrArg (Option.map UInt8.toNat) (dw_st31 4)).trans (by decide +kernel))) (by decide +kernel)
theorem dL_law_997 : decode cL_law 997 = .ok (.astore 6, 2) := dk_58 (dw_u1 (q := 992 + 5) rfl ((congrArg (Option.map UInt8.toNat) (dw_st31 5)).trans (by decide +kernel))) (dw_u1 (q := 992 + 6) rfl ((congrArg (Option.map UInt8.toNat) (dw_st31 6)).trans (by decide +kernel)))
theorem dL_law_999 : decode cL_law 999 = .ok (.goto 675, 3) := dk_167 (x := 2) (y := 163) (dw_u1 (q := 992 + 7) rfl ((congrArg (Option.map UInt8.toNat) (dw_st31 7)).trans (by decide +kernel))) (dw_u1 (q := 992 + 8) rfl ((congrArg (Option.map UInt8.toNat) (dw_st31 8)).trans (by decide +kernel))) (dw_u1 (q := 992 + 9) rfl ((congrArg (Option.map UInt8.toNat) (dw_st31 9)).trans (by decide +kernel))) (by decide +kernel)
theorem dL_law_1002 : decode cL_law 1002 = .ok (.aload_n 1, 1) := dk_43 (dw_u1 (q := 992 + 10) rfl ((congrArg (Option.map UInt8.toNat) (dw_st31 10)).trans (by decide +kernel)))
theorem dL_law_1003 : decode cL_law 1003 = .ok (.aload_n 0, 1) := dk_42 (dw_u1 (q := 992 + 11) rfl ((congrArg (Option.map UInt8.toNat) (dw_st31 11)).trans (by decide +kernel)))
theorem dL_law_1004 : decode cL_law 1004 = .ok (.iload 4, 2) := dk_21 (dw_u1 (q := 992 + 12) rfl ((congrArg (Option.map UInt8.toNat) (dw_st31 12)).trans (by decide +kernel))) (dw_u1 (q := 992 + 13) rfl ((congrArg (Option.map UInt8.toNat) (dw_st31 13)).trans (by decide +kernel)))
theorem dL_law_1006 : decode cL_law 1006 = .ok (.iconst 1, 1) := dk_4 (dw_u1 (q := 992 + 14) rfl ((congrArg (Option.map UInt8.toNat) (dw_st31 14)).trans (by decide +kernel)))
theorem dL_law_1007 : decode cL_law 1007 = .ok (.iadd, 1) := dk_96 (dw_u1 (q := 992 + 15) rfl ((congrArg (Option.map UInt8.toNat) (dw_st31 15)).trans (by decide +kernel)))
theorem dL_law_1008 : decode cL_law 1008 = .ok (.iaload, 1) := dk_46 (dw_u1 (q := 992 + 16) rfl ((congrArg (Option.map UInt8.toNat) (dw_st31 16)).trans (by decide +kernel)))
theorem dL_law_1009 : decode cL_law 1009 = .ok (.aload_n 3, 1) := dk_45 (dw_u1 (q := 992 + 17) rfl ((congrArg (Option.map UInt8.toNat) (dw_st31 17)).trans (by decide +kernel)))
theorem dL_law_1010 : decode cL_law 1010 = .ok (.invokestatic 190, 3) := dk_184 (x := 0) (y := 190) (dw_u1 (q := 992 + 18) rfl ((congrArg (Option.map UInt8.toNat) (dw_st31 18)).trans (by decide +kernel))) (dw_u1 (q := 992 + 19) rfl ((congrArg (Option.map UInt8.toNat) (dw_st31 19)).trans (by decide +kernel))) (dw_u1 (q := 992 + 20) rfl ((congrArg (Option.map UInt8.toNat) (dw_st31 20)).trans (by decide +kernel))) (by decide +kernel)
theorem dL_law_1013 : decode cL_law 1013 = .ok (.istore 5, 2) := dk_54 (dw_u1 (q := 992 + 21) rfl ((congrArg (Option.map UInt8.toNat) (dw_st31 21)).trans (by decide +kernel))) (dw_u1 (q := 992 + 22) rfl ((congrArg (Option.map UInt8.toNat) (dw_st31 22)).trans (by decide +kernel)))
theorem dL_law_1015 : decode cL_law 1015 = .ok (.aload_n 2, 1) := dk_44 (dw_u1 (q := 992 + 23) rfl ((congrArg (Option.map UInt8.toNat) (dw_st31 23)).trans (by decide +kernel)))
theorem dL_law_1016 : decode cL_law 1016 = .ok (.aload_n 0, 1) := dk_42 (dw_u1 (q := 992 + 24) rfl ((congrArg (Option.map UInt8.toNat) (dw_st31 24)).trans (by decide +kernel)))
theorem dL_law_1017 : decode cL_law 1017 = .ok (.iload 4, 2) := dk_21 (dw_u1 (q := 992 + 25) rfl ((congrArg (Option.map UInt8.toNat) (dw_st31 25)).trans (by decide +kernel))) (dw_u1 (q := 992 + 26) rfl ((congrArg (Option.map UInt8.toNat) (dw_st31 26)).trans (by decide +kernel)))
theorem dL_law_1019 : decode cL_law 1019 = .ok (.iconst 1, 1) := dk_4 (dw_u1 (q := 992 + 27) rfl ((congrArg (Option.map UInt8.toNat) (dw_st31 27)).trans (by decide +kernel)))
theorem dL_law_1020 : decode cL_law 1020 = .ok (.iadd, 1) := dk_96 (dw_u1 (q := 992 + 28) rfl ((congrArg (Option.map UInt8.toNat) (dw_st31 28)).trans (by decide +kernel)))
theorem dL_law_1021 : decode cL_law 1021 = .ok (.iaload, 1) := dk_46 (dw_u1 (q := 992 + 29) rfl ((congrArg (Option.map UInt8.toNat) (dw_st31 29)).trans (by decide +kernel)))
theorem dL_law_1022 : decode cL_law 1022 = .ok (.invokevirtual 192, 3) := dk_182 (x := 0) (y := 192) (dw_u1 (q := 992 + 30) rfl ((congrArg (Option.map UInt8.toNat) (dw_st31 30)).trans (by decide +kernel))) (dw_u1 (q := 992 + 31) rfl ((congrArg (Option.map UInt8.toNat) (dw_st31 31)).trans (by decide +kernel))) (dw_u1 (q := 1024 + 0) rfl ((congrArg (Option.map UInt8.toNat) (dw_st32 0)).trans (by decide +kernel))) (by decide +kernel)
theorem dL_law_1025 : decode cL_law 1025 = .ok (.istore 6, 2) := dk_54 (dw_u1 (q := 1024 + 1) rfl ((congrArg (Option.map UInt8.toNat) (dw_st32 1)).trans (by decide +kernel))) (dw_u1 (q := 1024 + 2) rfl ((congrArg (Option.map UInt8.toNat) (dw_st32 2)).trans (by decide +kernel)))
theorem dL_law_1027 : decode cL_law 1027 = .ok (.goto 647, 3) := dk_167 (x := 2) (y := 135) (dw_u1 (q := 1024 + 3) rfl ((congrArg (Option.map UInt8.toNat) (dw_st32 3)).trans (by decide +kernel))) (dw_u1 (q := 1024 + 4) rfl ((congrArg (Option.map UInt8.toNat) (dw_st32 4)).trans (by decide +kernel))) (dw_u1 (q := 1024 + 5) rfl ((congrArg (Option.map UInt8.toNat) (dw_st32 5)).trans (by decide +kernel))) (by decide +kernel)
theorem dL_law_1030 : decode cL_law 1030 = .ok (.aload_n 1, 1) := dk_43 (dw_u1 (q := 1024 + 6) rfl ((congrArg (Option.map UInt8.toNat) (dw_st32 6)).trans (by decide +kernel)))
theorem dL_law_1031 : decode cL_law 1031 = .ok (.aload_n 0, 1) := dk_42 (dw_u1 (q := 1024 + 7) rfl ((congrArg (Option.map UInt8.toNat) (dw_st32 7)).trans (by decide +kernel)))
theorem dL_law_1032 : decode cL_law 1032 = .ok (.iload 4, 2) := dk_21 (dw_u1 (q := 1024 + 8) rfl ((congrArg (Option.map UInt8.toNat) (dw_st32 8)).trans (by decide +kernel))) (dw_u1 (q := 1024 + 9) rfl ((congrArg (Option.map UInt8.toNat) (dw_st32 9)).trans (by decide +kernel)))
theorem dL_law_1034 : decode cL_law 1034 = .ok (.iconst 1, 1) := dk_4 (dw_u1 (q := 1024 + 10) rfl ((congrArg (Option.map UInt8.toNat) (dw_st32 10)).trans (by decide +kernel)))
theorem dL_law_1035 : decode cL_law 1035 = .ok (.iadd, 1) := dk_96 (dw_u1 (q := 1024 + 11) rfl ((congrArg (Option.map UInt8.toNat) (dw_st32 11)).trans (by decide +kernel)))
theorem dL_law_1036 : decode cL_law 1036 = .ok (.iaload, 1) := dk_46 (dw_u1 (q := 1024 + 12) rfl ((congrArg (Option.map UInt8.toNat) (dw_st32 12)).trans (by decide +kernel)))
theorem dL_law_1037 : decode cL_law 1037 = .ok (.aload_n 0, 1) := dk_42 (dw_u1 (q := 1024 + 13) rfl ((congrArg (Option.map UInt8.toNat) (dw_st32 13)).trans (by decide +kernel)))
theorem dL_law_1038 : decode cL_law 1038 = .ok (.iload 4, 2) := dk_21 (dw_u1 (q := 1024 + 14) rfl ((congrArg (Option.map UInt8.toNat) (dw_st32 14)).trans (by decide +kernel))) (dw_u1 (q := 1024 + 15) rfl ((congrArg (Option.map UInt8.toNat) (dw_st32 15)).trans (by decide +kernel)))
theorem dL_law_1040 : decode cL_law 1040 = .ok (.iconst 2, 1) := dk_5 (dw_u1 (q := 1024 + 16) rfl ((congrArg (Option.map UInt8.toNat) (dw_st32 16)).trans (by decide +kernel)))
theorem dL_law_1041 : decode cL_law 1041 = .ok (.iadd, 1) := dk_96 (dw_u1 (q := 1024 + 17) rfl ((congrArg (Option.map UInt8.toNat) (dw_st32 17)).trans (by decide +kernel)))
theorem dL_law_1042 : decode cL_law 1042 = .ok (.iaload, 1) := dk_46 (dw_u1 (q := 1024 + 18) rfl ((congrArg (Option.map UInt8.toNat) (dw_st32 18)).trans (by decide +kernel)))
theorem dL_law_1043 : decode cL_law 1043 = .ok (.aload_n 3, 1) := dk_45 (dw_u1 (q := 1024 + 19) rfl ((congrArg (Option.map UInt8.toNat) (dw_st32 19)).trans (by decide +kernel)))
theorem dL_law_1044 : decode cL_law 1044 = .ok (.invokestatic 193, 3) := dk_184 (x := 0) (y := 193) (dw_u1 (q := 1024 + 20) rfl ((congrArg (Option.map UInt8.toNat) (dw_st32 20)).trans (by decide +kernel))) (dw_u1 (q := 1024 + 21) rfl ((congrArg (Option.map UInt8.toNat) (dw_st32 21)).trans (by decide +kernel))) (dw_u1 (q := 1024 + 22) rfl ((congrArg (Option.map UInt8.toNat) (dw_st32 22)).trans (by decide +kernel))) (by decide +kernel)
theorem dL_law_1047 : decode cL_law 1047 = .ok (.istore 5, 2) := dk_54 (dw_u1 (q := 1024 + 23) rfl ((congrArg (Option.map UInt8.toNat) (dw_st32 23)).trans (by decide +kernel))) (dw_u1 (q := 1024 + 24) rfl ((congrArg (Option.map UInt8.toNat) (dw_st32 24)).trans (by decide +kernel)))
theorem dL_law_1049 : decode cL_law 1049 = .ok (.aload_n 2, 1) := dk_44 (dw_u1 (q := 1024 + 25) rfl ((congrArg (Option.map UInt8.toNat) (dw_st32 25)).trans (by decide +kernel)))
theorem dL_law_1050 : decode cL_law 1050 = .ok (.aload_n 0, 1) := dk_42 (dw_u1 (q := 1024 + 26) rfl ((congrArg (Option.map UInt8.toNat) (dw_st32 26)).trans (by decide +kernel)))
theorem dL_law_1051 : decode cL_law 1051 = .ok (.iload 4, 2) := dk_21 (dw_u1 (q := 1024 + 27) rfl ((congrArg (Option.map UInt8.toNat) (dw_st32 27)).trans (by decide +kernel))) (dw_u1 (q := 1024 + 28) rfl ((congrArg (Option.map UInt8.toNat) (dw_st32 28)).trans (by decide +kernel)))
theorem dL_law_1053 : decode cL_law 1053 = .ok (.iconst 1, 1) := dk_4 (dw_u1 (q := 1024 + 29) rfl ((congrArg (Option.map UInt8.toNat) (dw_st32 29)).trans (by decide +kernel)))
theorem dL_law_1054 : decode cL_law 1054 = .ok (.iadd, 1) := dk_96 (dw_u1 (q := 1024 + 30) rfl ((congrArg (Option.map UInt8.toNat) (dw_st32 30)).trans (by decide +kernel)))
theorem dL_law_1055 : decode cL_law 1055 = .ok (.iaload, 1) := dk_46 (dw_u1 (q := 1024 + 31) rfl ((congrArg (Option.map UInt8.toNat) (dw_st32 31)).trans (by decide +kernel)))
theorem dL_law_1056 : decode cL_law 1056 = .ok (.aload_n 0, 1) := dk_42 (dw_u1 (q := 1056 + 0) rfl ((congrArg (Option.map UInt8.toNat) (dw_st33 0)).trans (by decide +kernel)))
theorem dL_law_1057 : decode cL_law 1057 = .ok (.iload 4, 2) := dk_21 (dw_u1 (q := 1056 + 1) rfl ((congrArg (Option.map UInt8.toNat) (dw_st33 1)).trans (by decide +kernel))) (dw_u1 (q := 1056 + 2) rfl ((congrArg (Option.map UInt8.toNat) (dw_st33 2)).trans (by decide +kernel)))
theorem dL_law_1059 : decode cL_law 1059 = .ok (.iconst 2, 1) := dk_5 (dw_u1 (q := 1056 + 3) rfl ((congrArg (Option.map UInt8.toNat) (dw_st33 3)).trans (by decide +kernel)))
theorem dL_law_1060 : decode cL_law 1060 = .ok (.iadd, 1) := dk_96 (dw_u1 (q := 1056 + 4) rfl ((congrArg (Option.map UInt8.toNat) (dw_st33 4)).trans (by decide +kernel)))
theorem dL_law_1061 : decode cL_law 1061 = .ok (.iaload, 1) := dk_46 (dw_u1 (q := 1056 + 5) rfl ((congrArg (Option.map UInt8.toNat) (dw_st33 5)).trans (by decide +kernel)))
theorem dL_law_1062 : decode cL_law 1062 = .ok (.invokevirtual 195, 3) := dk_182 (x := 0) (y := 195) (dw_u1 (q := 1056 + 6) rfl ((congrArg (Option.map UInt8.toNat) (dw_st33 6)).trans (by decide +kernel))) (dw_u1 (q := 1056 + 7) rfl ((congrArg (Option.map UInt8.toNat) (dw_st33 7)).trans (by decide +kernel))) (dw_u1 (q := 1056 + 8) rfl ((congrArg (Option.map UInt8.toNat) (dw_st33 8)).trans (by decide +kernel))) (by decide +kernel)
theorem dL_law_1065 : decode cL_law 1065 = .ok (.istore 6, 2) := dk_54 (dw_u1 (q := 1056 + 9) rfl ((congrArg (Option.map UInt8.toNat) (dw_st33 9)).trans (by decide +kernel))) (dw_u1 (q := 1056 + 10) rfl ((congrArg (Option.map UInt8.toNat) (dw_st33 10)).trans (by decide +kernel)))
theorem dL_law_1067 : decode cL_law 1067 = .ok (.goto 607, 3) := dk_167 (x := 2) (y := 95) (dw_u1 (q := 1056 + 11) rfl ((congrArg (Option.map UInt8.toNat) (dw_st33 11)).trans (by decide +kernel))) (dw_u1 (q := 1056 + 12) rfl ((congrArg (Option.map UInt8.toNat) (dw_st33 12)).trans (by decide +kernel))) (dw_u1 (q := 1056 + 13) rfl ((congrArg (Option.map UInt8.toNat) (dw_st33 13)).trans (by decide +kernel))) (by decide +kernel)
theorem dL_law_1070 : decode cL_law 1070 = .ok (.aload_n 1, 1) := dk_43 (dw_u1 (q := 1056 + 14) rfl ((congrArg (Option.map UInt8.toNat) (dw_st33 14)).trans (by decide +kernel)))
theorem dL_law_1071 : decode cL_law 1071 = .ok (.aload_n 0, 1) := dk_42 (dw_u1 (q := 1056 + 15) rfl ((congrArg (Option.map UInt8.toNat) (dw_st33 15)).trans (by decide +kernel)))
theorem dL_law_1072 : decode cL_law 1072 = .ok (.iload 4, 2) := dk_21 (dw_u1 (q := 1056 + 16) rfl ((congrArg (Option.map UInt8.toNat) (dw_st33 16)).trans (by decide +kernel))) (dw_u1 (q := 1056 + 17) rfl ((congrArg (Option.map UInt8.toNat) (dw_st33 17)).trans (by decide +kernel)))
theorem dL_law_1074 : decode cL_law 1074 = .ok (.iconst 1, 1) := dk_4 (dw_u1 (q := 1056 + 18) rfl ((congrArg (Option.map UInt8.toNat) (dw_st33 18)).trans (by decide +kernel)))
theorem dL_law_1075 : decode cL_law 1075 = .ok (.iadd, 1) := dk_96 (dw_u1 (q := 1056 + 19) rfl ((congrArg (Option.map UInt8.toNat) (dw_st33 19)).trans (by decide +kernel)))
theorem dL_law_1076 : decode cL_law 1076 = .ok (.iaload, 1) := dk_46 (dw_u1 (q := 1056 + 20) rfl ((congrArg (Option.map UInt8.toNat) (dw_st33 20)).trans (by decide +kernel)))
theorem dL_law_1077 : decode cL_law 1077 = .ok (.aload_n 0, 1) := dk_42 (dw_u1 (q := 1056 + 21) rfl ((congrArg (Option.map UInt8.toNat) (dw_st33 21)).trans (by decide +kernel)))
theorem dL_law_1078 : decode cL_law 1078 = .ok (.iload 4, 2) := dk_21 (dw_u1 (q := 1056 + 22) rfl ((congrArg (Option.map UInt8.toNat) (dw_st33 22)).trans (by decide +kernel))) (dw_u1 (q := 1056 + 23) rfl ((congrArg (Option.map UInt8.toNat) (dw_st33 23)).trans (by decide +kernel)))
theorem dL_law_1080 : decode cL_law 1080 = .ok (.iconst 2, 1) := dk_5 (dw_u1 (q := 1056 + 24) rfl ((congrArg (Option.map UInt8.toNat) (dw_st33 24)).trans (by decide +kernel)))
theorem dL_law_1081 : decode cL_law 1081 = .ok (.iadd, 1) := dk_96 (dw_u1 (q := 1056 + 25) rfl ((congrArg (Option.map UInt8.toNat) (dw_st33 25)).trans (by decide +kernel)))
theorem dL_law_1082 : decode cL_law 1082 = .ok (.iaload, 1) := dk_46 (dw_u1 (q := 1056 + 26) rfl ((congrArg (Option.map UInt8.toNat) (dw_st33 26)).trans (by decide +kernel)))
theorem dL_law_1083 : decode cL_law 1083 = .ok (.aload_n 0, 1) := dk_42 (dw_u1 (q := 1056 + 27) rfl ((congrArg (Option.map UInt8.toNat) (dw_st33 27)).trans (by decide +kernel)))
theorem dL_law_1084 : decode cL_law 1084 = .ok (.iload 4, 2) := dk_21 (dw_u1 (q := 1056 + 28) rfl ((congrArg (Option.map UInt8.toNat) (dw_st33 28)).trans (by decide +kernel))) (dw_u1 (q := 1056 + 29) rfl ((congrArg (Option.map UInt8.toNat) (dw_st33 29)).trans (by decide +kernel)))
theorem dL_law_1086 : decode cL_law 1086 = .ok (.iconst 3, 1) := dk_6 (dw_u1 (q := 1056 + 30) rfl ((congrArg (Option.map UInt8.toNat) (dw_st33 30)).trans (by decide +kernel)))
theorem dL_law_1087 : decode cL_law 1087 = .ok (.iadd, 1) := dk_96 (dw_u1 (q := 1056 + 31) rfl ((congrArg (Option.map UInt8.toNat) (dw_st33 31)).trans (by decide +kernel)))
theorem dL_law_1088 : decode cL_law 1088 = .ok (.iaload, 1) := dk_46 (dw_u1 (q := 1088 + 0) rfl ((congrArg (Option.map UInt8.toNat) (dw_st34 0)).trans (by decide +kernel)))
theorem dL_law_1089 : decode cL_law 1089 = .ok (.aload_n 0, 1) := dk_42 (dw_u1 (q := 1088 + 1) rfl ((congrArg (Option.map UInt8.toNat) (dw_st34 1)).trans (by decide +kernel)))
theorem dL_law_1090 : decode cL_law 1090 = .ok (.iload 4, 2) := dk_21 (dw_u1 (q := 1088 + 2) rfl ((congrArg (Option.map UInt8.toNat) (dw_st34 2)).trans (by decide +kernel))) (dw_u1 (q := 1088 + 3) rfl ((congrArg (Option.map UInt8.toNat) (dw_st34 3)).trans (by decide +kernel)))
theorem dL_law_1092 : decode cL_law 1092 = .ok (.iconst 4, 1) := dk_7 (dw_u1 (q := 1088 + 4) rfl ((congrArg (Option.map UInt8.toNat) (dw_st34 4)).trans (by decide +kernel)))
theorem dL_law_1093 : decode cL_law 1093 = .ok (.iadd, 1) := dk_96 (dw_u1 (q := 1088 + 5) rfl ((congrArg (Option.map UInt8.toNat) (dw_st34 5)).trans (by decide +kernel)))
theorem dL_law_1094 : decode cL_law 1094 = .ok (.iaload, 1) := dk_46 (dw_u1 (q := 1088 + 6) rfl ((congrArg (Option.map UInt8.toNat) (dw_st34 6)).trans (by decide +kernel)))
theorem dL_law_1095 : decode cL_law 1095 = .ok (.aload_n 3, 1) := dk_45 (dw_u1 (q := 1088 + 7) rfl ((congrArg (Option.map UInt8.toNat) (dw_st34 7)).trans (by decide +kernel)))
theorem dL_law_1096 : decode cL_law 1096 = .ok (.invokestatic 196, 3) := dk_184 (x := 0) (y := 196) (dw_u1 (q := 1088 + 8) rfl ((congrArg (Option.map UInt8.toNat) (dw_st34 8)).trans (by decide +kernel))) (dw_u1 (q := 1088 + 9) rfl ((congrArg (Option.map UInt8.toNat) (dw_st34 9)).trans (by decide +kernel))) (dw_u1 (q := 1088 + 10) rfl ((congrArg (Option.map UInt8.toNat) (dw_st34 10)).trans (by decide +kernel))) (by decide +kernel)
theorem dL_law_1099 : decode cL_law 1099 = .ok (.istore 5, 2) := dk_54 (dw_u1 (q := 1088 + 11) rfl ((congrArg (Option.map UInt8.toNat) (dw_st34 11)).trans (by decide +kernel))) (dw_u1 (q := 1088 + 12) rfl ((congrArg (Option.map UInt8.toNat) (dw_st34 12)).trans (by decide +kernel)))
theorem dL_law_1101 : decode cL_law 1101 = .ok (.aload_n 2, 1) := dk_44 (dw_u1 (q := 1088 + 13) rfl ((congrArg (Option.map UInt8.toNat) (dw_st34 13)).trans (by decide +kernel)))
theorem dL_law_1102 : decode cL_law 1102 = .ok (.aload_n 0, 1) := dk_42 (dw_u1 (q := 1088 + 14) rfl ((congrArg (Option.map UInt8.toNat) (dw_st34 14)).trans (by decide +kernel)))
theorem dL_law_1103 : decode cL_law 1103 = .ok (.iload 4, 2) := dk_21 (dw_u1 (q := 1088 + 15) rfl ((congrArg (Option.map UInt8.toNat) (dw_st34 15)).trans (by decide +kernel))) (dw_u1 (q := 1088 + 16) rfl ((congrArg (Option.map UInt8.toNat) (dw_st34 16)).trans (by decide +kernel)))
theorem dL_law_1105 : decode cL_law 1105 = .ok (.iconst 1, 1) := dk_4 (dw_u1 (q := 1088 + 17) rfl ((congrArg (Option.map UInt8.toNat) (dw_st34 17)).trans (by decide +kernel)))
theorem dL_law_1106 : decode cL_law 1106 = .ok (.iadd, 1) := dk_96 (dw_u1 (q := 1088 + 18) rfl ((congrArg (Option.map UInt8.toNat) (dw_st34 18)).trans (by decide +kernel)))
theorem dL_law_1107 : decode cL_law 1107 = .ok (.iaload, 1) := dk_46 (dw_u1 (q := 1088 + 19) rfl ((congrArg (Option.map UInt8.toNat) (dw_st34 19)).trans (by decide +kernel)))
theorem dL_law_1108 : decode cL_law 1108 = .ok (.aload_n 0, 1) := dk_42 (dw_u1 (q := 1088 + 20) rfl ((congrArg (Option.map UInt8.toNat) (dw_st34 20)).trans (by decide +kernel)))
theorem dL_law_1109 : decode cL_law 1109 = .ok (.iload 4, 2) := dk_21 (dw_u1 (q := 1088 + 21) rfl ((congrArg (Option.map UInt8.toNat) (dw_st34 21)).trans (by decide +kernel))) (dw_u1 (q := 1088 + 22) rfl ((congrArg (Option.map UInt8.toNat) (dw_st34 22)).trans (by decide +kernel)))
theorem dL_law_1111 : decode cL_law 1111 = .ok (.iconst 2, 1) := dk_5 (dw_u1 (q := 1088 + 23) rfl ((congrArg (Option.map UInt8.toNat) (dw_st34 23)).trans (by decide +kernel)))
theorem dL_law_1112 : decode cL_law 1112 = .ok (.iadd, 1) := dk_96 (dw_u1 (q := 1088 + 24) rfl ((congrArg (Option.map UInt8.toNat) (dw_st34 24)).trans (by decide +kernel)))
theorem dL_law_1113 : decode cL_law 1113 = .ok (.iaload, 1) := dk_46 (dw_u1 (q := 1088 + 25) rfl ((congrArg (Option.map UInt8.toNat) (dw_st34 25)).trans (by decide +kernel)))
theorem dL_law_1114 : decode cL_law 1114 = .ok (.aload_n 0, 1) := dk_42 (dw_u1 (q := 1088 + 26) rfl ((congrArg (Option.map UInt8.toNat) (dw_st34 26)).trans (by decide +kernel)))
theorem dL_law_1115 : decode cL_law 1115 = .ok (.iload 4, 2) := dk_21 (dw_u1 (q := 1088 + 27) rfl ((congrArg (Option.map UInt8.toNat) (dw_st34 27)).trans (by decide +kernel))) (dw_u1 (q := 1088 + 28) rfl ((congrArg (Option.map UInt8.toNat) (dw_st34 28)).trans (by decide +kernel)))
theorem dL_law_1117 : decode cL_law 1117 = .ok (.iconst 3, 1) := dk_6 (dw_u1 (q := 1088 + 29) rfl ((congrArg (Option.map UInt8.toNat) (dw_st34 29)).trans (by decide +kernel)))
theorem dL_law_1118 : decode cL_law 1118 = .ok (.iadd, 1) := dk_96 (dw_u1 (q := 1088 + 30) rfl ((congrArg (Option.map UInt8.toNat) (dw_st34 30)).trans (by decide +kernel)))
theorem dL_law_1119 : decode cL_law 1119 = .ok (.iaload, 1) := dk_46 (dw_u1 (q := 1088 + 31) rfl ((congrArg (Option.map UInt8.toNat) (dw_st34 31)).trans (by decide +kernel)))
theorem dL_law_1120 : decode cL_law 1120 = .ok (.aload_n 0, 1) := dk_42 (dw_u1 (q := 1120 + 0) rfl ((congrArg (Option.map UInt8.toNat) (dw_st35 0)).trans (by decide +kernel)))
theorem dL_law_1121 : decode cL_law 1121 = .ok (.iload 4, 2) := dk_21 (dw_u1 (q := 1120 + 1) rfl ((congrArg (Option.map UInt8.toNat) (dw_st35 1)).trans (by decide +kernel))) (dw_u1 (q := 1120 + 2) rfl ((congrArg (Option.map UInt8.toNat) (dw_st35 2)).trans (by decide +kernel)))
theorem dL_law_1123 : decode cL_law 1123 = .ok (.iconst 4, 1) := dk_7 (dw_u1 (q := 1120 + 3) rfl ((congrArg (Option.map UInt8.toNat) (dw_st35 3)).trans (by decide +kernel)))
theorem dL_law_1124 : decode cL_law 1124 = .ok (.iadd, 1) := dk_96 (dw_u1 (q := 1120 + 4) rfl ((congrArg (Option.map UInt8.toNat) (dw_st35 4)).trans (by decide +kernel)))
theorem dL_law_1125 : decode cL_law 1125 = .ok (.iaload, 1) := dk_46 (dw_u1 (q := 1120 + 5) rfl ((congrArg (Option.map UInt8.toNat) (dw_st35 5)).trans (by decide +kernel)))
theorem dL_law_1126 : decode cL_law 1126 = .ok (.invokevirtual 198, 3) := dk_182 (x := 0) (y := 198) (dw_u1 (q := 1120 + 6) rfl ((congrArg (Option.map UInt8.toNat) (dw_st35 6)).trans (by decide +kernel))) (dw_u1 (q := 1120 + 7) rfl ((congrArg (Option.map UInt8.toNat) (dw_st35 7)).trans (by decide +kernel))) (dw_u1 (q := 1120 + 8) rfl ((congrArg (Option.map UInt8.toNat) (dw_st35 8)).trans (by decide +kernel))) (by decide +kernel)
theorem dL_law_1129 : decode cL_law 1129 = .ok (.istore 6, 2) := dk_54 (dw_u1 (q := 1120 + 9) rfl ((congrArg (Option.map UInt8.toNat) (dw_st35 9)).trans (by decide +kernel))) (dw_u1 (q := 1120 + 10) rfl ((congrArg (Option.map UInt8.toNat) (dw_st35 10)).trans (by decide +kernel)))
theorem dL_law_1131 : decode cL_law 1131 = .ok (.goto 543, 3) := dk_167 (x := 2) (y := 31) (dw_u1 (q := 1120 + 11) rfl ((congrArg (Option.map UInt8.toNat) (dw_st35 11)).trans (by decide +kernel))) (dw_u1 (q := 1120 + 12) rfl ((congrArg (Option.map UInt8.toNat) (dw_st35 12)).trans (by decide +kernel))) (dw_u1 (q := 1120 + 13) rfl ((congrArg (Option.map UInt8.toNat) (dw_st35 13)).trans (by decide +kernel))) (by decide +kernel)
theorem dL_law_1134 : decode cL_law 1134 = .ok (.aload_n 1, 1) := dk_43 (dw_u1 (q := 1120 + 14) rfl ((congrArg (Option.map UInt8.toNat) (dw_st35 14)).trans (by decide +kernel)))
theorem dL_law_1135 : decode cL_law 1135 = .ok (.aload_n 0, 1) := dk_42 (dw_u1 (q := 1120 + 15) rfl ((congrArg (Option.map UInt8.toNat) (dw_st35 15)).trans (by decide +kernel)))
theorem dL_law_1136 : decode cL_law 1136 = .ok (.iload 4, 2) := dk_21 (dw_u1 (q := 1120 + 16) rfl ((congrArg (Option.map UInt8.toNat) (dw_st35 16)).trans (by decide +kernel))) (dw_u1 (q := 1120 + 17) rfl ((congrArg (Option.map UInt8.toNat) (dw_st35 17)).trans (by decide +kernel)))
theorem dL_law_1138 : decode cL_law 1138 = .ok (.iconst 1, 1) := dk_4 (dw_u1 (q := 1120 + 18) rfl ((congrArg (Option.map UInt8.toNat) (dw_st35 18)).trans (by decide +kernel)))
theorem dL_law_1139 : decode cL_law 1139 = .ok (.iadd, 1) := dk_96 (dw_u1 (q := 1120 + 19) rfl ((congrArg (Option.map UInt8.toNat) (dw_st35 19)).trans (by decide +kernel)))
theorem dL_law_1140 : decode cL_law 1140 = .ok (.iaload, 1) := dk_46 (dw_u1 (q := 1120 + 20) rfl ((congrArg (Option.map UInt8.toNat) (dw_st35 20)).trans (by decide +kernel)))
theorem dL_law_1141 : decode cL_law 1141 = .ok (.aload_n 0, 1) := dk_42 (dw_u1 (q := 1120 + 21) rfl ((congrArg (Option.map UInt8.toNat) (dw_st35 21)).trans (by decide +kernel)))
theorem dL_law_1142 : decode cL_law 1142 = .ok (.iload 4, 2) := dk_21 (dw_u1 (q := 1120 + 22) rfl ((congrArg (Option.map UInt8.toNat) (dw_st35 22)).trans (by decide +kernel))) (dw_u1 (q := 1120 + 23) rfl ((congrArg (Option.map UInt8.toNat) (dw_st35 23)).trans (by decide +kernel)))
theorem dL_law_1144 : decode cL_law 1144 = .ok (.iconst 2, 1) := dk_5 (dw_u1 (q := 1120 + 24) rfl ((congrArg (Option.map UInt8.toNat) (dw_st35 24)).trans (by decide +kernel)))
theorem dL_law_1145 : decode cL_law 1145 = .ok (.iadd, 1) := dk_96 (dw_u1 (q := 1120 + 25) rfl ((congrArg (Option.map UInt8.toNat) (dw_st35 25)).trans (by decide +kernel)))
theorem dL_law_1146 : decode cL_law 1146 = .ok (.iaload, 1) := dk_46 (dw_u1 (q := 1120 + 26) rfl ((congrArg (Option.map UInt8.toNat) (dw_st35 26)).trans (by decide +kernel)))
theorem dL_law_1147 : decode cL_law 1147 = .ok (.aload_n 3, 1) := dk_45 (dw_u1 (q := 1120 + 27) rfl ((congrArg (Option.map UInt8.toNat) (dw_st35 27)).trans (by decide +kernel)))
theorem dL_law_1148 : decode cL_law 1148 = .ok (.invokestatic 199, 3) := dk_184 (x := 0) (y := 199) (dw_u1 (q := 1120 + 28) rfl ((congrArg (Option.map UInt8.toNat) (dw_st35 28)).trans (by decide +kernel))) (dw_u1 (q := 1120 + 29) rfl ((congrArg (Option.map UInt8.toNat) (dw_st35 29)).trans (by decide +kernel))) (dw_u1 (q := 1120 + 30) rfl ((congrArg (Option.map UInt8.toNat) (dw_st35 30)).trans (by decide +kernel))) (by decide +kernel)
theorem dL_law_1151 : decode cL_law 1151 = .ok (.istore 5, 2) := dk_54 (dw_u1 (q := 1120 + 31) rfl ((congrArg (Option.map UInt8.toNat) (dw_st35 31)).trans (by decide +kernel))) (dw_u1 (q := 1152 + 0) rfl ((congrArg (Option.map UInt8.toNat) (dw_st36 0)).trans (by decide +kernel)))
theorem dL_law_1153 : decode cL_law 1153 = .ok (.aload_n 2, 1) := dk_44 (dw_u1 (q := 1152 + 1) rfl ((congrArg (Option.map UInt8.toNat) (dw_st36 1)).trans (by decide +kernel)))
theorem dL_law_1154 : decode cL_law 1154 = .ok (.aload_n 0, 1) := dk_42 (dw_u1 (q := 1152 + 2) rfl ((congrArg (Option.map UInt8.toNat) (dw_st36 2)).trans (by decide +kernel)))
theorem dL_law_1155 : decode cL_law 1155 = .ok (.iload 4, 2) := dk_21 (dw_u1 (q := 1152 + 3) rfl ((congrArg (Option.map UInt8.toNat) (dw_st36 3)).trans (by decide +kernel))) (dw_u1 (q := 1152 + 4) rfl ((congrArg (Option.map UInt8.toNat) (dw_st36 4)).trans (by decide +kernel)))
theorem dL_law_1157 : decode cL_law 1157 = .ok (.iconst 1, 1) := dk_4 (dw_u1 (q := 1152 + 5) rfl ((congrArg (Option.map UInt8.toNat) (dw_st36 5)).trans (by decide +kernel)))
theorem dL_law_1158 : decode cL_law 1158 = .ok (.iadd, 1) := dk_96 (dw_u1 (q := 1152 + 6) rfl ((congrArg (Option.map UInt8.toNat) (dw_st36 6)).trans (by decide +kernel)))
theorem dL_law_1159 : decode cL_law 1159 = .ok (.iaload, 1) := dk_46 (dw_u1 (q := 1152 + 7) rfl ((congrArg (Option.map UInt8.toNat) (dw_st36 7)).trans (by decide +kernel)))
theorem dL_law_1160 : decode cL_law 1160 = .ok (.aload_n 0, 1) := dk_42 (dw_u1 (q := 1152 + 8) rfl ((congrArg (Option.map UInt8.toNat) (dw_st36 8)).trans (by decide +kernel)))
theorem dL_law_1161 : decode cL_law 1161 = .ok (.iload 4, 2) := dk_21 (dw_u1 (q := 1152 + 9) rfl ((congrArg (Option.map UInt8.toNat) (dw_st36 9)).trans (by decide +kernel))) (dw_u1 (q := 1152 + 10) rfl ((congrArg (Option.map UInt8.toNat) (dw_st36 10)).trans (by decide +kernel)))
theorem dL_law_1163 : decode cL_law 1163 = .ok (.iconst 2, 1) := dk_5 (dw_u1 (q := 1152 + 11) rfl ((congrArg (Option.map UInt8.toNat) (dw_st36 11)).trans (by decide +kernel)))
theorem dL_law_1164 : decode cL_law 1164 = .ok (.iadd, 1) := dk_96 (dw_u1 (q := 1152 + 12) rfl ((congrArg (Option.map UInt8.toNat) (dw_st36 12)).trans (by decide +kernel)))
theorem dL_law_1165 : decode cL_law 1165 = .ok (.iaload, 1) := dk_46 (dw_u1 (q := 1152 + 13) rfl ((congrArg (Option.map UInt8.toNat) (dw_st36 13)).trans (by decide +kernel)))
theorem dL_law_1166 : decode cL_law 1166 = .ok (.invokevirtual 201, 3) := dk_182 (x := 0) (y := 201) (dw_u1 (q := 1152 + 14) rfl ((congrArg (Option.map UInt8.toNat) (dw_st36 14)).trans (by decide +kernel))) (dw_u1 (q := 1152 + 15) rfl ((congrArg (Option.map UInt8.toNat) (dw_st36 15)).trans (by decide +kernel))) (dw_u1 (q := 1152 + 16) rfl ((congrArg (Option.map UInt8.toNat) (dw_st36 16)).trans (by decide +kernel))) (by decide +kernel)
theorem dL_law_1169 : decode cL_law 1169 = .ok (.istore 6, 2) := dk_54 (dw_u1 (q := 1152 + 17) rfl ((congrArg (Option.map UInt8.toNat) (dw_st36 17)).trans (by decide +kernel))) (dw_u1 (q := 1152 + 18) rfl ((congrArg (Option.map UInt8.toNat) (dw_st36 18)).trans (by decide +kernel)))
theorem dL_law_1171 : decode cL_law 1171 = .ok (.goto 503, 3) := dk_167 (x := 1) (y := 247) (dw_u1 (q := 1152 + 19) rfl ((congrArg (Option.map UInt8.toNat) (dw_st36 19)).trans (by decide +kernel))) (dw_u1 (q := 1152 + 20) rfl ((congrArg (Option.map UInt8.toNat) (dw_st36 20)).trans (by decide +kernel))) (dw_u1 (q := 1152 + 21) rfl ((congrArg (Option.map UInt8.toNat) (dw_st36 21)).trans (by decide +kernel))) (by decide +kernel)
theorem dL_law_1174 : decode cL_law 1174 = .ok (.aload_n 1, 1) := dk_43 (dw_u1 (q := 1152 + 22) rfl ((congrArg (Option.map UInt8.toNat) (dw_st36 22)).trans (by decide +kernel)))
theorem dL_law_1175 : decode cL_law 1175 = .ok (.aload_n 0, 1) := dk_42 (dw_u1 (q := 1152 + 23) rfl ((congrArg (Option.map UInt8.toNat) (dw_st36 23)).trans (by decide +kernel)))
theorem dL_law_1176 : decode cL_law 1176 = .ok (.iload 4, 2) := dk_21 (dw_u1 (q := 1152 + 24) rfl ((congrArg (Option.map UInt8.toNat) (dw_st36 24)).trans (by decide +kernel))) (dw_u1 (q := 1152 + 25) rfl ((congrArg (Option.map UInt8.toNat) (dw_st36 25)).trans (by decide +kernel)))
theorem dL_law_1178 : decode cL_law 1178 = .ok (.iconst 1, 1) := dk_4 (dw_u1 (q := 1152 + 26) rfl ((congrArg (Option.map UInt8.toNat) (dw_st36 26)).trans (by decide +kernel)))
theorem dL_law_1179 : decode cL_law 1179 = .ok (.iadd, 1) := dk_96 (dw_u1 (q := 1152 + 27) rfl ((congrArg (Option.map UInt8.toNat) (dw_st36 27)).trans (by decide +kernel)))
theorem dL_law_1180 : decode cL_law 1180 = .ok (.iaload, 1) := dk_46 (dw_u1 (q := 1152 + 28) rfl ((congrArg (Option.map UInt8.toNat) (dw_st36 28)).trans (by decide +kernel)))
theorem dL_law_1181 : decode cL_law 1181 = .ok (.aload_n 0, 1) := dk_42 (dw_u1 (q := 1152 + 29) rfl ((congrArg (Option.map UInt8.toNat) (dw_st36 29)).trans (by decide +kernel)))
theorem dL_law_1182 : decode cL_law 1182 = .ok (.iload 4, 2) := dk_21 (dw_u1 (q := 1152 + 30) rfl ((congrArg (Option.map UInt8.toNat) (dw_st36 30)).trans (by decide +kernel))) (dw_u1 (q := 1152 + 31) rfl ((congrArg (Option.map UInt8.toNat) (dw_st36 31)).trans (by decide +kernel)))
theorem dL_law_1184 : decode cL_law 1184 = .ok (.iconst 2, 1) := dk_5 (dw_u1 (q := 1184 + 0) rfl ((congrArg (Option.map UInt8.toNat) (dw_st37 0)).trans (by decide +kernel)))
theorem dL_law_1185 : decode cL_law 1185 = .ok (.iadd, 1) := dk_96 (dw_u1 (q := 1184 + 1) rfl ((congrArg (Option.map UInt8.toNat) (dw_st37 1)).trans (by decide +kernel)))
theorem dL_law_1186 : decode cL_law 1186 = .ok (.iaload, 1) := dk_46 (dw_u1 (q := 1184 + 2) rfl ((congrArg (Option.map UInt8.toNat) (dw_st37 2)).trans (by decide +kernel)))
theorem dL_law_1187 : decode cL_law 1187 = .ok (.aload_n 0, 1) := dk_42 (dw_u1 (q := 1184 + 3) rfl ((congrArg (Option.map UInt8.toNat) (dw_st37 3)).trans (by decide +kernel)))
theorem dL_law_1188 : decode cL_law 1188 = .ok (.iload 4, 2) := dk_21 (dw_u1 (q := 1184 + 4) rfl ((congrArg (Option.map UInt8.toNat) (dw_st37 4)).trans (by decide +kernel))) (dw_u1 (q := 1184 + 5) rfl ((congrArg (Option.map UInt8.toNat) (dw_st37 5)).trans (by decide +kernel)))
theorem dL_law_1190 : decode cL_law 1190 = .ok (.iconst 3, 1) := dk_6 (dw_u1 (q := 1184 + 6) rfl ((congrArg (Option.map UInt8.toNat) (dw_st37 6)).trans (by decide +kernel)))
theorem dL_law_1191 : decode cL_law 1191 = .ok (.iadd, 1) := dk_96 (dw_u1 (q := 1184 + 7) rfl ((congrArg (Option.map UInt8.toNat) (dw_st37 7)).trans (by decide +kernel)))
theorem dL_law_1192 : decode cL_law 1192 = .ok (.iaload, 1) := dk_46 (dw_u1 (q := 1184 + 8) rfl ((congrArg (Option.map UInt8.toNat) (dw_st37 8)).trans (by decide +kernel)))
theorem dL_law_1193 : decode cL_law 1193 = .ok (.aload_n 3, 1) := dk_45 (dw_u1 (q := 1184 + 9) rfl ((congrArg (Option.map UInt8.toNat) (dw_st37 9)).trans (by decide +kernel)))
theorem dL_law_1194 : decode cL_law 1194 = .ok (.invokestatic 202, 3) := dk_184 (x := 0) (y := 202) (dw_u1 (q := 1184 + 10) rfl ((congrArg (Option.map UInt8.toNat) (dw_st37 10)).trans (by decide +kernel))) (dw_u1 (q := 1184 + 11) rfl ((congrArg (Option.map UInt8.toNat) (dw_st37 11)).trans (by decide +kernel))) (dw_u1 (q := 1184 + 12) rfl ((congrArg (Option.map UInt8.toNat) (dw_st37 12)).trans (by decide +kernel))) (by decide +kernel)
theorem dL_law_1197 : decode cL_law 1197 = .ok (.istore 5, 2) := dk_54 (dw_u1 (q := 1184 + 13) rfl ((congrArg (Option.map UInt8.toNat) (dw_st37 13)).trans (by decide +kernel))) (dw_u1 (q := 1184 + 14) rfl ((congrArg (Option.map UInt8.toNat) (dw_st37 14)).trans (by decide +kernel)))
theorem dL_law_1199 : decode cL_law 1199 = .ok (.aload_n 2, 1) := dk_44 (dw_u1 (q := 1184 + 15) rfl ((congrArg (Option.map UInt8.toNat) (dw_st37 15)).trans (by decide +kernel)))
theorem dL_law_1200 : decode cL_law 1200 = .ok (.aload_n 0, 1) := dk_42 (dw_u1 (q := 1184 + 16) rfl ((congrArg (Option.map UInt8.toNat) (dw_st37 16)).trans (by decide +kernel)))
theorem dL_law_1201 : decode cL_law 1201 = .ok (.iload 4, 2) := dk_21 (dw_u1 (q := 1184 + 17) rfl ((congrArg (Option.map UInt8.toNat) (dw_st37 17)).trans (by decide +kernel))) (dw_u1 (q := 1184 + 18) rfl ((congrArg (Option.map UInt8.toNat) (dw_st37 18)).trans (by decide +kernel)))
theorem dL_law_1203 : decode cL_law 1203 = .ok (.iconst 1, 1) := dk_4 (dw_u1 (q := 1184 + 19) rfl ((congrArg (Option.map UInt8.toNat) (dw_st37 19)).trans (by decide +kernel)))
theorem dL_law_1204 : decode cL_law 1204 = .ok (.iadd, 1) := dk_96 (dw_u1 (q := 1184 + 20) rfl ((congrArg (Option.map UInt8.toNat) (dw_st37 20)).trans (by decide +kernel)))
theorem dL_law_1205 : decode cL_law 1205 = .ok (.iaload, 1) := dk_46 (dw_u1 (q := 1184 + 21) rfl ((congrArg (Option.map UInt8.toNat) (dw_st37 21)).trans (by decide +kernel)))
theorem dL_law_1206 : decode cL_law 1206 = .ok (.aload_n 0, 1) := dk_42 (dw_u1 (q := 1184 + 22) rfl ((congrArg (Option.map UInt8.toNat) (dw_st37 22)).trans (by decide +kernel)))
theorem dL_law_1207 : decode cL_law 1207 = .ok (.iload 4, 2) := dk_21 (dw_u1 (q := 1184 + 23) rfl ((congrArg (Option.map UInt8.toNat) (dw_st37 23)).trans (by decide +kernel))) (dw_u1 (q := 1184 + 24) rfl ((congrArg (Option.map UInt8.toNat) (dw_st37 24)).trans (by decide +kernel)))
theorem dL_law_1209 : decode cL_law 1209 = .ok (.iconst 2, 1) := dk_5 (dw_u1 (q := 1184 + 25) rfl ((congrArg (Option.map UInt8.toNat) (dw_st37 25)).trans (by decide +kernel)))
theorem dL_law_1210 : decode cL_law 1210 = .ok (.iadd, 1) := dk_96 (dw_u1 (q := 1184 + 26) rfl ((congrArg (Option.map UInt8.toNat) (dw_st37 26)).trans (by decide +kernel)))
theorem dL_law_1211 : decode cL_law 1211 = .ok (.iaload, 1) := dk_46 (dw_u1 (q := 1184 + 27) rfl ((congrArg (Option.map UInt8.toNat) (dw_st37 27)).trans (by decide +kernel)))
theorem dL_law_1212 : decode cL_law 1212 = .ok (.aload_n 0, 1) := dk_42 (dw_u1 (q := 1184 + 28) rfl ((congrArg (Option.map UInt8.toNat) (dw_st37 28)).trans (by decide +kernel)))
theorem dL_law_1213 : decode cL_law 1213 = .ok (.iload 4, 2) := dk_21 (dw_u1 (q := 1184 + 29) rfl ((congrArg (Option.map UInt8.toNat) (dw_st37 29)).trans (by decide +kernel))) (dw_u1 (q := 1184 + 30) rfl ((congrArg (Option.map UInt8.toNat) (dw_st37 30)).trans (by decide +kernel)))
theorem dL_law_1215 : decode cL_law 1215 = .ok (.iconst 3, 1) := dk_6 (dw_u1 (q := 1184 + 31) rfl ((congrArg (Option.map UInt8.toNat) (dw_st37 31)).trans (by decide +kernel)))
theorem dL_law_1216 : decode cL_law 1216 = .ok (.iadd, 1) := dk_96 (dw_u1 (q := 1216 + 0) rfl ((congrArg (Option.map UInt8.toNat) (dw_st38 0)).trans (by decide +kernel)))
theorem dL_law_1217 : decode cL_law 1217 = .ok (.iaload, 1) := dk_46 (dw_u1 (q := 1216 + 1) rfl ((congrArg (Option.map UInt8.toNat) (dw_st38 1)).trans (by decide +kernel)))
theorem dL_law_1218 : decode cL_law 1218 = .ok (.invokevirtual 204, 3) := dk_182 (x := 0) (y := 204) (dw_u1 (q := 1216 + 2) rfl ((congrArg (Option.map UInt8.toNat) (dw_st38 2)).trans (by decide +kernel))) (dw_u1 (q := 1216 + 3) rfl ((congrArg (Option.map UInt8.toNat) (dw_st38 3)).trans (by decide +kernel))) (dw_u1 (q := 1216 + 4) rfl ((congrArg (Option.map UInt8.toNat) (dw_st38 4)).trans (by decide +kernel))) (by decide +kernel)
theorem dL_law_1221 : decode cL_law 1221 = .ok (.istore 6, 2) := dk_54 (dw_u1 (q := 1216 + 5) rfl ((congrArg (Option.map UInt8.toNat) (dw_st38 5)).trans (by decide +kernel))) (dw_u1 (q := 1216 + 6) rfl ((congrArg (Option.map UInt8.toNat) (dw_st38 6)).trans (by decide +kernel)))
theorem dL_law_1223 : decode cL_law 1223 = .ok (.goto 451, 3) := dk_167 (x := 1) (y := 195) (dw_u1 (q := 1216 + 7) rfl ((congrArg (Option.map UInt8.toNat) (dw_st38 7)).trans (by decide +kernel))) (dw_u1 (q := 1216 + 8) rfl ((congrArg (Option.map UInt8.toNat) (dw_st38 8)).trans (by decide +kernel))) (dw_u1 (q := 1216 + 9) rfl ((congrArg (Option.map UInt8.toNat) (dw_st38 9)).trans (by decide +kernel))) (by decide +kernel)
theorem dL_law_1226 : decode cL_law 1226 = .ok (.aload_n 1, 1) := dk_43 (dw_u1 (q := 1216 + 10) rfl ((congrArg (Option.map UInt8.toNat) (dw_st38 10)).trans (by decide +kernel)))
theorem dL_law_1227 : decode cL_law 1227 = .ok (.aload_n 0, 1) := dk_42 (dw_u1 (q := 1216 + 11) rfl ((congrArg (Option.map UInt8.toNat) (dw_st38 11)).trans (by decide +kernel)))
theorem dL_law_1228 : decode cL_law 1228 = .ok (.iload 4, 2) := dk_21 (dw_u1 (q := 1216 + 12) rfl ((congrArg (Option.map UInt8.toNat) (dw_st38 12)).trans (by decide +kernel))) (dw_u1 (q := 1216 + 13) rfl ((congrArg (Option.map UInt8.toNat) (dw_st38 13)).trans (by decide +kernel)))
theorem dL_law_1230 : decode cL_law 1230 = .ok (.iconst 1, 1) := dk_4 (dw_u1 (q := 1216 + 14) rfl ((congrArg (Option.map UInt8.toNat) (dw_st38 14)).trans (by decide +kernel)))
theorem dL_law_1231 : decode cL_law 1231 = .ok (.iadd, 1) := dk_96 (dw_u1 (q := 1216 + 15) rfl ((congrArg (Option.map UInt8.toNat) (dw_st38 15)).trans (by decide +kernel)))
theorem dL_law_1232 : decode cL_law 1232 = .ok (.iaload, 1) := dk_46 (dw_u1 (q := 1216 + 16) rfl ((congrArg (Option.map UInt8.toNat) (dw_st38 16)).trans (by decide +kernel)))
theorem dL_law_1233 : decode cL_law 1233 = .ok (.aload_n 0, 1) := dk_42 (dw_u1 (q := 1216 + 17) rfl ((congrArg (Option.map UInt8.toNat) (dw_st38 17)).trans (by decide +kernel)))
theorem dL_law_1234 : decode cL_law 1234 = .ok (.iload 4, 2) := dk_21 (dw_u1 (q := 1216 + 18) rfl ((congrArg (Option.map UInt8.toNat) (dw_st38 18)).trans (by decide +kernel))) (dw_u1 (q := 1216 + 19) rfl ((congrArg (Option.map UInt8.toNat) (dw_st38 19)).trans (by decide +kernel)))
theorem dL_law_1236 : decode cL_law 1236 = .ok (.iconst 2, 1) := dk_5 (dw_u1 (q := 1216 + 20) rfl ((congrArg (Option.map UInt8.toNat) (dw_st38 20)).trans (by decide +kernel)))
theorem dL_law_1237 : decode cL_law 1237 = .ok (.iadd, 1) := dk_96 (dw_u1 (q := 1216 + 21) rfl ((congrArg (Option.map UInt8.toNat) (dw_st38 21)).trans (by decide +kernel)))
theorem dL_law_1238 : decode cL_law 1238 = .ok (.iaload, 1) := dk_46 (dw_u1 (q := 1216 + 22) rfl ((congrArg (Option.map UInt8.toNat) (dw_st38 22)).trans (by decide +kernel)))
theorem dL_law_1239 : decode cL_law 1239 = .ok (.aload_n 3, 1) := dk_45 (dw_u1 (q := 1216 + 23) rfl ((congrArg (Option.map UInt8.toNat) (dw_st38 23)).trans (by decide +kernel)))
theorem dL_law_1240 : decode cL_law 1240 = .ok (.invokestatic 205, 3) := dk_184 (x := 0) (y := 205) (dw_u1 (q := 1216 + 24) rfl ((congrArg (Option.map UInt8.toNat) (dw_st38 24)).trans (by decide +kernel))) (dw_u1 (q := 1216 + 25) rfl ((congrArg (Option.map UInt8.toNat) (dw_st38 25)).trans (by decide +kernel))) (dw_u1 (q := 1216 + 26) rfl ((congrArg (Option.map UInt8.toNat) (dw_st38 26)).trans (by decide +kernel))) (by decide +kernel)
theorem dL_law_1243 : decode cL_law 1243 = .ok (.istore 5, 2) := dk_54 (dw_u1 (q := 1216 + 27) rfl ((congrArg (Option.map UInt8.toNat) (dw_st38 27)).trans (by decide +kernel))) (dw_u1 (q := 1216 + 28) rfl ((congrArg (Option.map UInt8.toNat) (dw_st38 28)).trans (by decide +kernel)))
theorem dL_law_1245 : decode cL_law 1245 = .ok (.aload_n 2, 1) := dk_44 (dw_u1 (q := 1216 + 29) rfl ((congrArg (Option.map UInt8.toNat) (dw_st38 29)).trans (by decide +kernel)))
theorem dL_law_1246 : decode cL_law 1246 = .ok (.aload_n 0, 1) := dk_42 (dw_u1 (q := 1216 + 30) rfl ((congrArg (Option.map UInt8.toNat) (dw_st38 30)).trans (by decide +kernel)))
theorem dL_law_1247 : decode cL_law 1247 = .ok (.iload 4, 2) := dk_21 (dw_u1 (q := 1216 + 31) rfl ((congrArg (Option.map UInt8.toNat) (dw_st38 31)).trans (by decide +kernel))) (dw_u1 (q := 1248 + 0) rfl ((congrArg (Option.map UInt8.toNat) (dw_st39 0)).trans (by decide +kernel)))
theorem dL_law_1249 : decode cL_law 1249 = .ok (.iconst 1, 1) := dk_4 (dw_u1 (q := 1248 + 1) rfl ((congrArg (Option.map UInt8.toNat) (dw_st39 1)).trans (by decide +kernel)))
theorem dL_law_1250 : decode cL_law 1250 = .ok (.iadd, 1) := dk_96 (dw_u1 (q := 1248 + 2) rfl ((congrArg (Option.map UInt8.toNat) (dw_st39 2)).trans (by decide +kernel)))
theorem dL_law_1251 : decode cL_law 1251 = .ok (.iaload, 1) := dk_46 (dw_u1 (q := 1248 + 3) rfl ((congrArg (Option.map UInt8.toNat) (dw_st39 3)).trans (by decide +kernel)))
theorem dL_law_1252 : decode cL_law 1252 = .ok (.aload_n 0, 1) := dk_42 (dw_u1 (q := 1248 + 4) rfl ((congrArg (Option.map UInt8.toNat) (dw_st39 4)).trans (by decide +kernel)))
theorem dL_law_1253 : decode cL_law 1253 = .ok (.iload 4, 2) := dk_21 (dw_u1 (q := 1248 + 5) rfl ((congrArg (Option.map UInt8.toNat) (dw_st39 5)).trans (by decide +kernel))) (dw_u1 (q := 1248 + 6) rfl ((congrArg (Option.map UInt8.toNat) (dw_st39 6)).trans (by decide +kernel)))
theorem dL_law_1255 : decode cL_law 1255 = .ok (.iconst 2, 1) := dk_5 (dw_u1 (q := 1248 + 7) rfl ((congrArg (Option.map UInt8.toNat) (dw_st39 7)).trans (by decide +kernel)))
theorem dL_law_1256 : decode cL_law 1256 = .ok (.iadd, 1) := dk_96 (dw_u1 (q := 1248 + 8) rfl ((congrArg (Option.map UInt8.toNat) (dw_st39 8)).trans (by decide +kernel)))
theorem dL_law_1257 : decode cL_law 1257 = .ok (.iaload, 1) := dk_46 (dw_u1 (q := 1248 + 9) rfl ((congrArg (Option.map UInt8.toNat) (dw_st39 9)).trans (by decide +kernel)))
theorem dL_law_1258 : decode cL_law 1258 = .ok (.invokevirtual 207, 3) := dk_182 (x := 0) (y := 207) (dw_u1 (q := 1248 + 10) rfl ((congrArg (Option.map UInt8.toNat) (dw_st39 10)).trans (by decide +kernel))) (dw_u1 (q := 1248 + 11) rfl ((congrArg (Option.map UInt8.toNat) (dw_st39 11)).trans (by decide +kernel))) (dw_u1 (q := 1248 + 12) rfl ((congrArg (Option.map UInt8.toNat) (dw_st39 12)).trans (by decide +kernel))) (by decide +kernel)
theorem dL_law_1261 : decode cL_law 1261 = .ok (.istore 6, 2) := dk_54 (dw_u1 (q := 1248 + 13) rfl ((congrArg (Option.map UInt8.toNat) (dw_st39 13)).trans (by decide +kernel))) (dw_u1 (q := 1248 + 14) rfl ((congrArg (Option.map UInt8.toNat) (dw_st39 14)).trans (by decide +kernel)))
theorem dL_law_1263 : decode cL_law 1263 = .ok (.goto 411, 3) := dk_167 (x := 1) (y := 155) (dw_u1 (q := 1248 + 15) rfl ((congrArg (Option.map UInt8.toNat) (dw_st39 15)).trans (by decide +kernel))) (dw_u1 (q := 1248 + 16) rfl ((congrArg (Option.map UInt8.toNat) (dw_st39 16)).trans (by decide +kernel))) (dw_u1 (q := 1248 + 17) rfl ((congrArg (Option.map UInt8.toNat) (dw_st39 17)).trans (by decide +kernel))) (by decide +kernel)
theorem dL_law_1266 : decode cL_law 1266 = .ok (.aload_n 1, 1) := dk_43 (dw_u1 (q := 1248 + 18) rfl ((congrArg (Option.map UInt8.toNat) (dw_st39 18)).trans (by decide +kernel)))
theorem dL_law_1267 : decode cL_law 1267 = .ok (.aload_n 0, 1) := dk_42 (dw_u1 (q := 1248 + 19) rfl ((congrArg (Option.map UInt8.toNat) (dw_st39 19)).trans (by decide +kernel)))
theorem dL_law_1268 : decode cL_law 1268 = .ok (.iload 4, 2) := dk_21 (dw_u1 (q := 1248 + 20) rfl ((congrArg (Option.map UInt8.toNat) (dw_st39 20)).trans (by decide +kernel))) (dw_u1 (q := 1248 + 21) rfl ((congrArg (Option.map UInt8.toNat) (dw_st39 21)).trans (by decide +kernel)))
theorem dL_law_1270 : decode cL_law 1270 = .ok (.iconst 1, 1) := dk_4 (dw_u1 (q := 1248 + 22) rfl ((congrArg (Option.map UInt8.toNat) (dw_st39 22)).trans (by decide +kernel)))
theorem dL_law_1271 : decode cL_law 1271 = .ok (.iadd, 1) := dk_96 (dw_u1 (q := 1248 + 23) rfl ((congrArg (Option.map UInt8.toNat) (dw_st39 23)).trans (by decide +kernel)))
theorem dL_law_1272 : decode cL_law 1272 = .ok (.iaload, 1) := dk_46 (dw_u1 (q := 1248 + 24) rfl ((congrArg (Option.map UInt8.toNat) (dw_st39 24)).trans (by decide +kernel)))
theorem dL_law_1273 : decode cL_law 1273 = .ok (.aload_n 3, 1) := dk_45 (dw_u1 (q := 1248 + 25) rfl ((congrArg (Option.map UInt8.toNat) (dw_st39 25)).trans (by decide +kernel)))
theorem dL_law_1274 : decode cL_law 1274 = .ok (.invokestatic 208, 3) := dk_184 (x := 0) (y := 208) (dw_u1 (q := 1248 + 26) rfl ((congrArg (Option.map UInt8.toNat) (dw_st39 26)).trans (by decide +kernel))) (dw_u1 (q := 1248 + 27) rfl ((congrArg (Option.map UInt8.toNat) (dw_st39 27)).trans (by decide +kernel))) (dw_u1 (q := 1248 + 28) rfl ((congrArg (Option.map UInt8.toNat) (dw_st39 28)).trans (by decide +kernel))) (by decide +kernel)
theorem dL_law_1277 : decode cL_law 1277 = .ok (.istore 5, 2) := dk_54 (dw_u1 (q := 1248 + 29) rfl ((congrArg (Option.map UInt8.toNat) (dw_st39 29)).trans (by decide +kernel))) (dw_u1 (q := 1248 + 30) rfl ((congrArg (Option.map UInt8.toNat) (dw_st39 30)).trans (by decide +kernel)))
theorem dL_law_1279 : decode cL_law 1279 = .ok (.aload_n 2, 1) := dk_44 (dw_u1 (q := 1248 + 31) rfl ((congrArg (Option.map UInt8.toNat) (dw_st39 31)).trans (by decide +kernel)))
theorem dL_law_1280 : decode cL_law 1280 = .ok (.aload_n 0, 1) := dk_42 (dw_u1 (q := 1280 + 0) rfl ((congrArg (Option.map UInt8.toNat) (dw_st40 0)).trans (by decide +kernel)))
theorem dL_law_1281 : decode cL_law 1281 = .ok (.iload 4, 2) := dk_21 (dw_u1 (q := 1280 + 1) rfl ((congrArg (Option.map UInt8.toNat) (dw_st40 1)).trans (by decide +kernel))) (dw_u1 (q := 1280 + 2) rfl ((congrArg (Option.map UInt8.toNat) (dw_st40 2)).trans (by decide +kernel)))
theorem dL_law_1283 : decode cL_law 1283 = .ok (.iconst 1, 1) := dk_4 (dw_u1 (q := 1280 + 3) rfl ((congrArg (Option.map UInt8.toNat) (dw_st40 3)).trans (by decide +kernel)))
theorem dL_law_1284 : decode cL_law 1284 = .ok (.iadd, 1) := dk_96 (dw_u1 (q := 1280 + 4) rfl ((congrArg (Option.map UInt8.toNat) (dw_st40 4)).trans (by decide +kernel)))
theorem dL_law_1285 : decode cL_law 1285 = .ok (.iaload, 1) := dk_46 (dw_u1 (q := 1280 + 5) rfl ((congrArg (Option.map UInt8.toNat) (dw_st40 5)).trans (by decide +kernel)))
theorem dL_law_1286 : decode cL_law 1286 = .ok (.invokevirtual 210, 3) := dk_182 (x := 0) (y := 210) (dw_u1 (q := 1280 + 6) rfl ((congrArg (Option.map UInt8.toNat) (dw_st40 6)).trans (by decide +kernel))) (dw_u1 (q := 1280 + 7) rfl ((congrArg (Option.map UInt8.toNat) (dw_st40 7)).trans (by decide +kernel))) (dw_u1 (q := 1280 + 8) rfl ((congrArg (Option.map UInt8.toNat) (dw_st40 8)).trans (by decide +kernel))) (by decide +kernel)
theorem dL_law_1289 : decode cL_law 1289 = .ok (.istore 6, 2) := dk_54 (dw_u1 (q := 1280 + 9) rfl ((congrArg (Option.map UInt8.toNat) (dw_st40 9)).trans (by decide +kernel))) (dw_u1 (q := 1280 + 10) rfl ((congrArg (Option.map UInt8.toNat) (dw_st40 10)).trans (by decide +kernel)))
theorem dL_law_1291 : decode cL_law 1291 = .ok (.goto 383, 3) := dk_167 (x := 1) (y := 127) (dw_u1 (q := 1280 + 11) rfl ((congrArg (Option.map UInt8.toNat) (dw_st40 11)).trans (by decide +kernel))) (dw_u1 (q := 1280 + 12) rfl ((congrArg (Option.map UInt8.toNat) (dw_st40 12)).trans (by decide +kernel))) (dw_u1 (q := 1280 + 13) rfl ((congrArg (Option.map UInt8.toNat) (dw_st40 13)).trans (by decide +kernel))) (by decide +kernel)
theorem dL_law_1294 : decode cL_law 1294 = .ok (.aload_n 1, 1) := dk_43 (dw_u1 (q := 1280 + 14) rfl ((congrArg (Option.map UInt8.toNat) (dw_st40 14)).trans (by decide +kernel)))
theorem dL_law_1295 : decode cL_law 1295 = .ok (.aload_n 0, 1) := dk_42 (dw_u1 (q := 1280 + 15) rfl ((congrArg (Option.map UInt8.toNat) (dw_st40 15)).trans (by decide +kernel)))
theorem dL_law_1296 : decode cL_law 1296 = .ok (.iload 4, 2) := dk_21 (dw_u1 (q := 1280 + 16) rfl ((congrArg (Option.map UInt8.toNat) (dw_st40 16)).trans (by decide +kernel))) (dw_u1 (q := 1280 + 17) rfl ((congrArg (Option.map UInt8.toNat) (dw_st40 17)).trans (by decide +kernel)))
theorem dL_law_1298 : decode cL_law 1298 = .ok (.iconst 1, 1) := dk_4 (dw_u1 (q := 1280 + 18) rfl ((congrArg (Option.map UInt8.toNat) (dw_st40 18)).trans (by decide +kernel)))
theorem dL_law_1299 : decode cL_law 1299 = .ok (.iadd, 1) := dk_96 (dw_u1 (q := 1280 + 19) rfl ((congrArg (Option.map UInt8.toNat) (dw_st40 19)).trans (by decide +kernel)))
theorem dL_law_1300 : decode cL_law 1300 = .ok (.iaload, 1) := dk_46 (dw_u1 (q := 1280 + 20) rfl ((congrArg (Option.map UInt8.toNat) (dw_st40 20)).trans (by decide +kernel)))
theorem dL_law_1301 : decode cL_law 1301 = .ok (.aload_n 3, 1) := dk_45 (dw_u1 (q := 1280 + 21) rfl ((congrArg (Option.map UInt8.toNat) (dw_st40 21)).trans (by decide +kernel)))
theorem dL_law_1302 : decode cL_law 1302 = .ok (.invokestatic 211, 3) := dk_184 (x := 0) (y := 211) (dw_u1 (q := 1280 + 22) rfl ((congrArg (Option.map UInt8.toNat) (dw_st40 22)).trans (by decide +kernel))) (dw_u1 (q := 1280 + 23) rfl ((congrArg (Option.map UInt8.toNat) (dw_st40 23)).trans (by decide +kernel))) (dw_u1 (q := 1280 + 24) rfl ((congrArg (Option.map UInt8.toNat) (dw_st40 24)).trans (by decide +kernel))) (by decide +kernel)
theorem dL_law_1305 : decode cL_law 1305 = .ok (.istore 5, 2) := dk_54 (dw_u1 (q := 1280 + 25) rfl ((congrArg (Option.map UInt8.toNat) (dw_st40 25)).trans (by decide +kernel))) (dw_u1 (q := 1280 + 26) rfl ((congrArg (Option.map UInt8.toNat) (dw_st40 26)).trans (by decide +kernel)))
theorem dL_law_1307 : decode cL_law 1307 = .ok (.aload_n 2, 1) := dk_44 (dw_u1 (q := 1280 + 27) rfl ((congrArg (Option.map UInt8.toNat) (dw_st40 27)).trans (by decide +kernel)))
theorem dL_law_1308 : decode cL_law 1308 = .ok (.aload_n 0, 1) := dk_42 (dw_u1 (q := 1280 + 28) rfl ((congrArg (Option.map UInt8.toNat) (dw_st40 28)).trans (by decide +kernel)))
theorem dL_law_1309 : decode cL_law 1309 = .ok (.iload 4, 2) := dk_21 (dw_u1 (q := 1280 + 29) rfl ((congrArg (Option.map UInt8.toNat) (dw_st40 29)).trans (by decide +kernel))) (dw_u1 (q := 1280 + 30) rfl ((congrArg (Option.map UInt8.toNat) (dw_st40 30)).trans (by decide +kernel)))
theorem dL_law_1311 : decode cL_law 1311 = .ok (.iconst 1, 1) := dk_4 (dw_u1 (q := 1280 + 31) rfl ((congrArg (Option.map UInt8.toNat) (dw_st40 31)).trans (by decide +kernel)))
theorem dL_law_1312 : decode cL_law 1312 = .ok (.iadd, 1) := dk_96 (dw_u1 (q := 1312 + 0) rfl ((congrArg (Option.map UInt8.toNat) (dw_st41 0)).trans (by decide +kernel)))
theorem dL_law_1313 : decode cL_law 1313 = .ok (.iaload, 1) := dk_46 (dw_u1 (q := 1312 + 1) rfl ((congrArg (Option.map UInt8.toNat) (dw_st41 1)).trans (by decide +kernel)))
theorem dL_law_1314 : decode cL_law 1314 = .ok (.invokevirtual 213, 3) := dk_182 (x := 0) (y := 213) (dw_u1 (q := 1312 + 2) rfl ((congrArg (Option.map UInt8.toNat) (dw_st41 2)).trans (by decide +kernel))) (dw_u1 (q := 1312 + 3) rfl ((congrArg (Option.map UInt8.toNat) (dw_st41 3)).trans (by decide +kernel))) (dw_u1 (q := 1312 + 4) rfl ((congrArg (Option.map UInt8.toNat) (dw_st41 4)).trans (by decide +kernel))) (by decide +kernel)
theorem dL_law_1317 : decode cL_law 1317 = .ok (.istore 6, 2) := dk_54 (dw_u1 (q := 1312 + 5) rfl ((congrArg (Option.map UInt8.toNat) (dw_st41 5)).trans (by decide +kernel))) (dw_u1 (q := 1312 + 6) rfl ((congrArg (Option.map UInt8.toNat) (dw_st41 6)).trans (by decide +kernel)))
theorem dL_law_1319 : decode cL_law 1319 = .ok (.aload_n 2, 1) := dk_44 (dw_u1 (q := 1312 + 7) rfl ((congrArg (Option.map UInt8.toNat) (dw_st41 7)).trans (by decide +kernel)))
theorem dL_law_1320 : decode cL_law 1320 = .ok (.invokevirtual 214, 3) := dk_182 (x := 0) (y := 214) (dw_u1 (q := 1312 + 8) rfl ((congrArg (Option.map UInt8.toNat) (dw_st41 8)).trans (by decide +kernel))) (dw_u1 (q := 1312 + 9) rfl ((congrArg (Option.map UInt8.toNat) (dw_st41 9)).trans (by decide +kernel))) (dw_u1 (q := 1312 + 10) rfl ((congrArg (Option.map UInt8.toNat) (dw_st41 10)).trans (by decide +kernel))) (by decide +kernel)
theorem dL_law_1323 : decode cL_law 1323 = .ok (.iload 5, 2) := dk_21 (dw_u1 (q := 1312 + 11) rfl ((congrArg (Option.map UInt8.toNat) (dw_st41 11)).trans (by decide +kernel))) (dw_u1 (q := 1312 + 12) rfl ((congrArg (Option.map UInt8.toNat) (dw_st41 12)).trans (by decide +kernel)))
theorem dL_law_1325 : decode cL_law 1325 = .ok (.if_icmp .eq 5, 3) := by decide +kernel
theorem dL_law_1330 : decode cL_law 1330 = .ok (.iload 5, 2) := dk_21 (dw_u1 (q := 1312 + 18) rfl ((congrArg (Option.map UInt8.toNat) (dw_st41 18)).trans (by decide +kernel))) (dw_u1 (q := 1312 + 19) rfl ((congrArg (Option.map UInt8.toNat) (dw_st41 19)).trans (by decide +kernel)))
theorem dL_law_1332 : decode cL_law 1332 = .ok (.ifCond .ne 16, 3) := by decide +kernel
theorem dL_law_1335 : decode cL_law 1335 = .ok (.aload_n 3, 1) := dk_45 (dw_u1 (q := 1312 + 23) rfl ((congrArg (Option.map UInt8.toNat) (dw_st41 23)).trans (by decide +kernel)))
theorem dL_law_1336 : decode cL_law 1336 = .ok (.getfield 13, 3) := by decide +kernel
theorem dL_law_1339 : decode cL_law 1339 = .ok (.iload 6, 2) := dk_21 (dw_u1 (q := 1312 + 27) rfl ((congrArg (Option.map UInt8.toNat) (dw_st41 27)).trans (by decide +kernel))) (dw_u1 (q := 1312 + 28) rfl ((congrArg (Option.map UInt8.toNat) (dw_st41 28)).trans (by decide +kernel)))
theorem dL_law_1341 : decode cL_law 1341 = .ok (.i2l, 1) := by decide +kernel
theorem dL_law_1342 : decode cL_law 1342 = .ok (.lcmp, 1) := by decide +kernel
theorem dL_law_1343 : decode cL_law 1343 = .ok (.ifCond .eq 5, 3) := by decide +kernel
theorem dL_law_1348 : decode cL_law 1348 = .ok (.goto 326, 3) := dk_167 (x := 1) (y := 70) (dw_u1 (q := 1344 + 4) rfl ((congrArg (Option.map UInt8.toNat) (dw_st42 4)).trans (by decide +kernel))) (dw_u1 (q := 1344 + 5) rfl ((congrArg (Option.map UInt8.toNat) (dw_st42 5)).trans (by decide +kernel))) (dw_u1 (q := 1344 + 6) rfl ((congrArg (Option.map UInt8.toNat) (dw_st42 6)).trans (by decide +kernel))) (by decide +kernel)
theorem dL_law_1351 : decode cL_law 1351 = .ok (.aload_n 1, 1) := dk_43 (dw_u1 (q := 1344 + 7) rfl ((congrArg (Option.map UInt8.toNat) (dw_st42 7)).trans (by decide +kernel)))
theorem dL_law_1352 : decode cL_law 1352 = .ok (.aload_n 0, 1) := dk_42 (dw_u1 (q := 1344 + 8) rfl ((congrArg (Option.map UInt8.toNat) (dw_st42 8)).trans (by decide +kernel)))
theorem dL_law_1353 : decode cL_law 1353 = .ok (.iload 4, 2) := dk_21 (dw_u1 (q := 1344 + 9) rfl ((congrArg (Option.map UInt8.toNat) (dw_st42 9)).trans (by decide +kernel))) (dw_u1 (q := 1344 + 10) rfl ((congrArg (Option.map UInt8.toNat) (dw_st42 10)).trans (by decide +kernel)))
theorem dL_law_1355 : decode cL_law 1355 = .ok (.iconst 1, 1) := dk_4 (dw_u1 (q := 1344 + 11) rfl ((congrArg (Option.map UInt8.toNat) (dw_st42 11)).trans (by decide +kernel)))
theorem dL_law_1356 : decode cL_law 1356 = .ok (.iadd, 1) := dk_96 (dw_u1 (q := 1344 + 12) rfl ((congrArg (Option.map UInt8.toNat) (dw_st42 12)).trans (by decide +kernel)))
theorem dL_law_1357 : decode cL_law 1357 = .ok (.iaload, 1) := dk_46 (dw_u1 (q := 1344 + 13) rfl ((congrArg (Option.map UInt8.toNat) (dw_st42 13)).trans (by decide +kernel)))
theorem dL_law_1358 : decode cL_law 1358 = .ok (.aload_n 0, 1) := dk_42 (dw_u1 (q := 1344 + 14) rfl ((congrArg (Option.map UInt8.toNat) (dw_st42 14)).trans (by decide +kernel)))
theorem dL_law_1359 : decode cL_law 1359 = .ok (.iload 4, 2) := dk_21 (dw_u1 (q := 1344 + 15) rfl ((congrArg (Option.map UInt8.toNat) (dw_st42 15)).trans (by decide +kernel))) (dw_u1 (q := 1344 + 16) rfl ((congrArg (Option.map UInt8.toNat) (dw_st42 16)).trans (by decide +kernel)))
theorem dL_law_1361 : decode cL_law 1361 = .ok (.iconst 2, 1) := dk_5 (dw_u1 (q := 1344 + 17) rfl ((congrArg (Option.map UInt8.toNat) (dw_st42 17)).trans (by decide +kernel)))
theorem dL_law_1362 : decode cL_law 1362 = .ok (.iadd, 1) := dk_96 (dw_u1 (q := 1344 + 18) rfl ((congrArg (Option.map UInt8.toNat) (dw_st42 18)).trans (by decide +kernel)))
theorem dL_law_1363 : decode cL_law 1363 = .ok (.iaload, 1) := dk_46 (dw_u1 (q := 1344 + 19) rfl ((congrArg (Option.map UInt8.toNat) (dw_st42 19)).trans (by decide +kernel)))
theorem dL_law_1364 : decode cL_law 1364 = .ok (.aload_n 3, 1) := dk_45 (dw_u1 (q := 1344 + 20) rfl ((congrArg (Option.map UInt8.toNat) (dw_st42 20)).trans (by decide +kernel)))
theorem dL_law_1365 : decode cL_law 1365 = .ok (.invokestatic 218, 3) := dk_184 (x := 0) (y := 218) (dw_u1 (q := 1344 + 21) rfl ((congrArg (Option.map UInt8.toNat) (dw_st42 21)).trans (by decide +kernel))) (dw_u1 (q := 1344 + 22) rfl ((congrArg (Option.map UInt8.toNat) (dw_st42 22)).trans (by decide +kernel))) (dw_u1 (q := 1344 + 23) rfl ((congrArg (Option.map UInt8.toNat) (dw_st42 23)).trans (by decide +kernel))) (by decide +kernel)
theorem dL_law_1368 : decode cL_law 1368 = .ok (.istore 5, 2) := dk_54 (dw_u1 (q := 1344 + 24) rfl ((congrArg (Option.map UInt8.toNat) (dw_st42 24)).trans (by decide +kernel))) (dw_u1 (q := 1344 + 25) rfl ((congrArg (Option.map UInt8.toNat) (dw_st42 25)).trans (by decide +kernel)))
theorem dL_law_1370 : decode cL_law 1370 = .ok (.aload_n 2, 1) := dk_44 (dw_u1 (q := 1344 + 26) rfl ((congrArg (Option.map UInt8.toNat) (dw_st42 26)).trans (by decide +kernel)))
theorem dL_law_1371 : decode cL_law 1371 = .ok (.aload_n 0, 1) := dk_42 (dw_u1 (q := 1344 + 27) rfl ((congrArg (Option.map UInt8.toNat) (dw_st42 27)).trans (by decide +kernel)))
theorem dL_law_1372 : decode cL_law 1372 = .ok (.iload 4, 2) := dk_21 (dw_u1 (q := 1344 + 28) rfl ((congrArg (Option.map UInt8.toNat) (dw_st42 28)).trans (by decide +kernel))) (dw_u1 (q := 1344 + 29) rfl ((congrArg (Option.map UInt8.toNat) (dw_st42 29)).trans (by decide +kernel)))
theorem dL_law_1374 : decode cL_law 1374 = .ok (.iconst 1, 1) := dk_4 (dw_u1 (q := 1344 + 30) rfl ((congrArg (Option.map UInt8.toNat) (dw_st42 30)).trans (by decide +kernel)))
theorem dL_law_1375 : decode cL_law 1375 = .ok (.iadd, 1) := dk_96 (dw_u1 (q := 1344 + 31) rfl ((congrArg (Option.map UInt8.toNat) (dw_st42 31)).trans (by decide +kernel)))
theorem dL_law_1376 : decode cL_law 1376 = .ok (.iaload, 1) := dk_46 (dw_u1 (q := 1376 + 0) rfl ((congrArg (Option.map UInt8.toNat) (dw_st43 0)).trans (by decide +kernel)))
theorem dL_law_1377 : decode cL_law 1377 = .ok (.aload_n 0, 1) := dk_42 (dw_u1 (q := 1376 + 1) rfl ((congrArg (Option.map UInt8.toNat) (dw_st43 1)).trans (by decide +kernel)))
theorem dL_law_1378 : decode cL_law 1378 = .ok (.iload 4, 2) := dk_21 (dw_u1 (q := 1376 + 2) rfl ((congrArg (Option.map UInt8.toNat) (dw_st43 2)).trans (by decide +kernel))) (dw_u1 (q := 1376 + 3) rfl ((congrArg (Option.map UInt8.toNat) (dw_st43 3)).trans (by decide +kernel)))
theorem dL_law_1380 : decode cL_law 1380 = .ok (.iconst 2, 1) := dk_5 (dw_u1 (q := 1376 + 4) rfl ((congrArg (Option.map UInt8.toNat) (dw_st43 4)).trans (by decide +kernel)))
theorem dL_law_1381 : decode cL_law 1381 = .ok (.iadd, 1) := dk_96 (dw_u1 (q := 1376 + 5) rfl ((congrArg (Option.map UInt8.toNat) (dw_st43 5)).trans (by decide +kernel)))
theorem dL_law_1382 : decode cL_law 1382 = .ok (.iaload, 1) := dk_46 (dw_u1 (q := 1376 + 6) rfl ((congrArg (Option.map UInt8.toNat) (dw_st43 6)).trans (by decide +kernel)))
theorem dL_law_1383 : decode cL_law 1383 = .ok (.invokevirtual 220, 3) := dk_182 (x := 0) (y := 220) (dw_u1 (q := 1376 + 7) rfl ((congrArg (Option.map UInt8.toNat) (dw_st43 7)).trans (by decide +kernel))) (dw_u1 (q := 1376 + 8) rfl ((congrArg (Option.map UInt8.toNat) (dw_st43 8)).trans (by decide +kernel))) (dw_u1 (q := 1376 + 9) rfl ((congrArg (Option.map UInt8.toNat) (dw_st43 9)).trans (by decide +kernel))) (by decide +kernel)
theorem dL_law_1386 : decode cL_law 1386 = .ok (.astore 6, 2) := dk_58 (dw_u1 (q := 1376 + 10) rfl ((congrArg (Option.map UInt8.toNat) (dw_st43 10)).trans (by decide +kernel))) (dw_u1 (q := 1376 + 11) rfl ((congrArg (Option.map UInt8.toNat) (dw_st43 11)).trans (by decide +kernel)))
theorem dL_law_1388 : decode cL_law 1388 = .ok (.goto 286, 3) := dk_167 (x := 1) (y := 30) (dw_u1 (q := 1376 + 12) rfl ((congrArg (Option.map UInt8.toNat) (dw_st43 12)).trans (by decide +kernel))) (dw_u1 (q := 1376 + 13) rfl ((congrArg (Option.map UInt8.toNat) (dw_st43 13)).trans (by decide +kernel))) (dw_u1 (q := 1376 + 14) rfl ((congrArg (Option.map UInt8.toNat) (dw_st43 14)).trans (by decide +kernel))) (by decide +kernel)
theorem dL_law_1391 : decode cL_law 1391 = .ok (.aload_n 1, 1) := dk_43 (dw_u1 (q := 1376 + 15) rfl ((congrArg (Option.map UInt8.toNat) (dw_st43 15)).trans (by decide +kernel)))
theorem dL_law_1392 : decode cL_law 1392 = .ok (.aload_n 0, 1) := dk_42 (dw_u1 (q := 1376 + 16) rfl ((congrArg (Option.map UInt8.toNat) (dw_st43 16)).trans (by decide +kernel)))
theorem dL_law_1393 : decode cL_law 1393 = .ok (.iload 4, 2) := dk_21 (dw_u1 (q := 1376 + 17) rfl ((congrArg (Option.map UInt8.toNat) (dw_st43 17)).trans (by decide +kernel))) (dw_u1 (q := 1376 + 18) rfl ((congrArg (Option.map UInt8.toNat) (dw_st43 18)).trans (by decide +kernel)))
theorem dL_law_1395 : decode cL_law 1395 = .ok (.iconst 1, 1) := dk_4 (dw_u1 (q := 1376 + 19) rfl ((congrArg (Option.map UInt8.toNat) (dw_st43 19)).trans (by decide +kernel)))
theorem dL_law_1396 : decode cL_law 1396 = .ok (.iadd, 1) := dk_96 (dw_u1 (q := 1376 + 20) rfl ((congrArg (Option.map UInt8.toNat) (dw_st43 20)).trans (by decide +kernel)))
theorem dL_law_1397 : decode cL_law 1397 = .ok (.iaload, 1) := dk_46 (dw_u1 (q := 1376 + 21) rfl ((congrArg (Option.map UInt8.toNat) (dw_st43 21)).trans (by decide +kernel)))
theorem dL_law_1398 : decode cL_law 1398 = .ok (.aload_n 0, 1) := dk_42 (dw_u1 (q := 1376 + 22) rfl ((congrArg (Option.map UInt8.toNat) (dw_st43 22)).trans (by decide +kernel)))
theorem dL_law_1399 : decode cL_law 1399 = .ok (.iload 4, 2) := dk_21 (dw_u1 (q := 1376 + 23) rfl ((congrArg (Option.map UInt8.toNat) (dw_st43 23)).trans (by decide +kernel))) (dw_u1 (q := 1376 + 24) rfl ((congrArg (Option.map UInt8.toNat) (dw_st43 24)).trans (by decide +kernel)))
theorem dL_law_1401 : decode cL_law 1401 = .ok (.iconst 2, 1) := dk_5 (dw_u1 (q := 1376 + 25) rfl ((congrArg (Option.map UInt8.toNat) (dw_st43 25)).trans (by decide +kernel)))
theorem dL_law_1402 : decode cL_law 1402 = .ok (.iadd, 1) := dk_96 (dw_u1 (q := 1376 + 26) rfl ((congrArg (Option.map UInt8.toNat) (dw_st43 26)).trans (by decide +kernel)))
theorem dL_law_1403 : decode cL_law 1403 = .ok (.iaload, 1) := dk_46 (dw_u1 (q := 1376 + 27) rfl ((congrArg (Option.map UInt8.toNat) (dw_st43 27)).trans (by decide +kernel)))
theorem dL_law_1404 : decode cL_law 1404 = .ok (.aload_n 3, 1) := dk_45 (dw_u1 (q := 1376 + 28) rfl ((congrArg (Option.map UInt8.toNat) (dw_st43 28)).trans (by decide +kernel)))
theorem dL_law_1405 : decode cL_law 1405 = .ok (.invokestatic 221, 3) := dk_184 (x := 0) (y := 221) (dw_u1 (q := 1376 + 29) rfl ((congrArg (Option.map UInt8.toNat) (dw_st43 29)).trans (by decide +kernel))) (dw_u1 (q := 1376 + 30) rfl ((congrArg (Option.map UInt8.toNat) (dw_st43 30)).trans (by decide +kernel))) (dw_u1 (q := 1376 + 31) rfl ((congrArg (Option.map UInt8.toNat) (dw_st43 31)).trans (by decide +kernel))) (by decide +kernel)
theorem dL_law_1408 : decode cL_law 1408 = .ok (.istore 5, 2) := dk_54 (dw_u1 (q := 1408 + 0) rfl ((congrArg (Option.map UInt8.toNat) (dw_st44 0)).trans (by decide +kernel))) (dw_u1 (q := 1408 + 1) rfl ((congrArg (Option.map UInt8.toNat) (dw_st44 1)).trans (by decide +kernel)))
theorem dL_law_1410 : decode cL_law 1410 = .ok (.aload_n 2, 1) := dk_44 (dw_u1 (q := 1408 + 2) rfl ((congrArg (Option.map UInt8.toNat) (dw_st44 2)).trans (by decide +kernel)))
theorem dL_law_1411 : decode cL_law 1411 = .ok (.aload_n 0, 1) := dk_42 (dw_u1 (q := 1408 + 3) rfl ((congrArg (Option.map UInt8.toNat) (dw_st44 3)).trans (by decide +kernel)))
theorem dL_law_1412 : decode cL_law 1412 = .ok (.iload 4, 2) := dk_21 (dw_u1 (q := 1408 + 4) rfl ((congrArg (Option.map UInt8.toNat) (dw_st44 4)).trans (by decide +kernel))) (dw_u1 (q := 1408 + 5) rfl ((congrArg (Option.map UInt8.toNat) (dw_st44 5)).trans (by decide +kernel)))
theorem dL_law_1414 : decode cL_law 1414 = .ok (.iconst 1, 1) := dk_4 (dw_u1 (q := 1408 + 6) rfl ((congrArg (Option.map UInt8.toNat) (dw_st44 6)).trans (by decide +kernel)))
theorem dL_law_1415 : decode cL_law 1415 = .ok (.iadd, 1) := dk_96 (dw_u1 (q := 1408 + 7) rfl ((congrArg (Option.map UInt8.toNat) (dw_st44 7)).trans (by decide +kernel)))
theorem dL_law_1416 : decode cL_law 1416 = .ok (.iaload, 1) := dk_46 (dw_u1 (q := 1408 + 8) rfl ((congrArg (Option.map UInt8.toNat) (dw_st44 8)).trans (by decide +kernel)))
theorem dL_law_1417 : decode cL_law 1417 = .ok (.aload_n 0, 1) := dk_42 (dw_u1 (q := 1408 + 9) rfl ((congrArg (Option.map UInt8.toNat) (dw_st44 9)).trans (by decide +kernel)))
theorem dL_law_1418 : decode cL_law 1418 = .ok (.iload 4, 2) := dk_21 (dw_u1 (q := 1408 + 10) rfl ((congrArg (Option.map UInt8.toNat) (dw_st44 10)).trans (by decide +kernel))) (dw_u1 (q := 1408 + 11) rfl ((congrArg (Option.map UInt8.toNat) (dw_st44 11)).trans (by decide +kernel)))
theorem dL_law_1420 : decode cL_law 1420 = .ok (.iconst 2, 1) := dk_5 (dw_u1 (q := 1408 + 12) rfl ((congrArg (Option.map UInt8.toNat) (dw_st44 12)).trans (by decide +kernel)))
theorem dL_law_1421 : decode cL_law 1421 = .ok (.iadd, 1) := dk_96 (dw_u1 (q := 1408 + 13) rfl ((congrArg (Option.map UInt8.toNat) (dw_st44 13)).trans (by decide +kernel)))
theorem dL_law_1422 : decode cL_law 1422 = .ok (.iaload, 1) := dk_46 (dw_u1 (q := 1408 + 14) rfl ((congrArg (Option.map UInt8.toNat) (dw_st44 14)).trans (by decide +kernel)))
theorem dL_law_1423 : decode cL_law 1423 = .ok (.invokevirtual 223, 3) := dk_182 (x := 0) (y := 223) (dw_u1 (q := 1408 + 15) rfl ((congrArg (Option.map UInt8.toNat) (dw_st44 15)).trans (by decide +kernel))) (dw_u1 (q := 1408 + 16) rfl ((congrArg (Option.map UInt8.toNat) (dw_st44 16)).trans (by decide +kernel))) (dw_u1 (q := 1408 + 17) rfl ((congrArg (Option.map UInt8.toNat) (dw_st44 17)).trans (by decide +kernel))) (by decide +kernel)
theorem dL_law_1426 : decode cL_law 1426 = .ok (.astore 6, 2) := dk_58 (dw_u1 (q := 1408 + 18) rfl ((congrArg (Option.map UInt8.toNat) (dw_st44 18)).trans (by decide +kernel))) (dw_u1 (q := 1408 + 19) rfl ((congrArg (Option.map UInt8.toNat) (dw_st44 19)).trans (by decide +kernel)))
theorem dL_law_1428 : decode cL_law 1428 = .ok (.goto 246, 3) := dk_167 (x := 0) (y := 246) (dw_u1 (q := 1408 + 20) rfl ((congrArg (Option.map UInt8.toNat) (dw_st44 20)).trans (by decide +kernel))) (dw_u1 (q := 1408 + 21) rfl ((congrArg (Option.map UInt8.toNat) (dw_st44 21)).trans (by decide +kernel))) (dw_u1 (q := 1408 + 22) rfl ((congrArg (Option.map UInt8.toNat) (dw_st44 22)).trans (by decide +kernel))) (by decide +kernel)
theorem dL_law_1431 : decode cL_law 1431 = .ok (.aload_n 1, 1) := dk_43 (dw_u1 (q := 1408 + 23) rfl ((congrArg (Option.map UInt8.toNat) (dw_st44 23)).trans (by decide +kernel)))
theorem dL_law_1432 : decode cL_law 1432 = .ok (.aload_n 0, 1) := dk_42 (dw_u1 (q := 1408 + 24) rfl ((congrArg (Option.map UInt8.toNat) (dw_st44 24)).trans (by decide +kernel)))
theorem dL_law_1433 : decode cL_law 1433 = .ok (.iload 4, 2) := dk_21 (dw_u1 (q := 1408 + 25) rfl ((congrArg (Option.map UInt8.toNat) (dw_st44 25)).trans (by decide +kernel))) (dw_u1 (q := 1408 + 26) rfl ((congrArg (Option.map UInt8.toNat) (dw_st44 26)).trans (by decide +kernel)))
theorem dL_law_1435 : decode cL_law 1435 = .ok (.iconst 1, 1) := dk_4 (dw_u1 (q := 1408 + 27) rfl ((congrArg (Option.map UInt8.toNat) (dw_st44 27)).trans (by decide +kernel)))
theorem dL_law_1436 : decode cL_law 1436 = .ok (.iadd, 1) := dk_96 (dw_u1 (q := 1408 + 28) rfl ((congrArg (Option.map UInt8.toNat) (dw_st44 28)).trans (by decide +kernel)))
theorem dL_law_1437 : decode cL_law 1437 = .ok (.iaload, 1) := dk_46 (dw_u1 (q := 1408 + 29) rfl ((congrArg (Option.map UInt8.toNat) (dw_st44 29)).trans (by decide +kernel)))
theorem dL_law_1438 : decode cL_law 1438 = .ok (.aload_n 3, 1) := dk_45 (dw_u1 (q := 1408 + 30) rfl ((congrArg (Option.map UInt8.toNat) (dw_st44 30)).trans (by decide +kernel)))
theorem dL_law_1439 : decode cL_law 1439 = .ok (.invokestatic 224, 3) := dk_184 (x := 0) (y := 224) (dw_u1 (q := 1408 + 31) rfl ((congrArg (Option.map UInt8.toNat) (dw_st44 31)).trans (by decide +kernel))) (dw_u1 (q := 1440 + 0) rfl ((congrArg (Option.map UInt8.toNat) (dw_st45 0)).trans (by decide +kernel))) (dw_u1 (q := 1440 + 1) rfl ((congrArg (Option.map UInt8.toNat) (dw_st45 1)).trans (by decide +kernel))) (by decide +kernel)
theorem dL_law_1442 : decode cL_law 1442 = .ok (.istore 5, 2) := dk_54 (dw_u1 (q := 1440 + 2) rfl ((congrArg (Option.map UInt8.toNat) (dw_st45 2)).trans (by decide +kernel))) (dw_u1 (q := 1440 + 3) rfl ((congrArg (Option.map UInt8.toNat) (dw_st45 3)).trans (by decide +kernel)))
theorem dL_law_1444 : decode cL_law 1444 = .ok (.aload_n 2, 1) := dk_44 (dw_u1 (q := 1440 + 4) rfl ((congrArg (Option.map UInt8.toNat) (dw_st45 4)).trans (by decide +kernel)))
theorem dL_law_1445 : decode cL_law 1445 = .ok (.aload_n 0, 1) := dk_42 (dw_u1 (q := 1440 + 5) rfl ((congrArg (Option.map UInt8.toNat) (dw_st45 5)).trans (by decide +kernel)))
theorem dL_law_1446 : decode cL_law 1446 = .ok (.iload 4, 2) := dk_21 (dw_u1 (q := 1440 + 6) rfl ((congrArg (Option.map UInt8.toNat) (dw_st45 6)).trans (by decide +kernel))) (dw_u1 (q := 1440 + 7) rfl ((congrArg (Option.map UInt8.toNat) (dw_st45 7)).trans (by decide +kernel)))
theorem dL_law_1448 : decode cL_law 1448 = .ok (.iconst 1, 1) := dk_4 (dw_u1 (q := 1440 + 8) rfl ((congrArg (Option.map UInt8.toNat) (dw_st45 8)).trans (by decide +kernel)))
theorem dL_law_1449 : decode cL_law 1449 = .ok (.iadd, 1) := dk_96 (dw_u1 (q := 1440 + 9) rfl ((congrArg (Option.map UInt8.toNat) (dw_st45 9)).trans (by decide +kernel)))
theorem dL_law_1450 : decode cL_law 1450 = .ok (.iaload, 1) := dk_46 (dw_u1 (q := 1440 + 10) rfl ((congrArg (Option.map UInt8.toNat) (dw_st45 10)).trans (by decide +kernel)))
theorem dL_law_1451 : decode cL_law 1451 = .ok (.invokevirtual 226, 3) := dk_182 (x := 0) (y := 226) (dw_u1 (q := 1440 + 11) rfl ((congrArg (Option.map UInt8.toNat) (dw_st45 11)).trans (by decide +kernel))) (dw_u1 (q := 1440 + 12) rfl ((congrArg (Option.map UInt8.toNat) (dw_st45 12)).trans (by decide +kernel))) (dw_u1 (q := 1440 + 13) rfl ((congrArg (Option.map UInt8.toNat) (dw_st45 13)).trans (by decide +kernel))) (by decide +kernel)
theorem dL_law_1454 : decode cL_law 1454 = .ok (.istore 6, 2) := dk_54 (dw_u1 (q := 1440 + 14) rfl ((congrArg (Option.map UInt8.toNat) (dw_st45 14)).trans (by decide +kernel))) (dw_u1 (q := 1440 + 15) rfl ((congrArg (Option.map UInt8.toNat) (dw_st45 15)).trans (by decide +kernel)))
theorem dL_law_1456 : decode cL_law 1456 = .ok (.goto 218, 3) := dk_167 (x := 0) (y := 218) (dw_u1 (q := 1440 + 16) rfl ((congrArg (Option.map UInt8.toNat) (dw_st45 16)).trans (by decide +kernel))) (dw_u1 (q := 1440 + 17) rfl ((congrArg (Option.map UInt8.toNat) (dw_st45 17)).trans (by decide +kernel))) (dw_u1 (q := 1440 + 18) rfl ((congrArg (Option.map UInt8.toNat) (dw_st45 18)).trans (by decide +kernel))) (by decide +kernel)
theorem dL_law_1459 : decode cL_law 1459 = .ok (.aload_n 1, 1) := dk_43 (dw_u1 (q := 1440 + 19) rfl ((congrArg (Option.map UInt8.toNat) (dw_st45 19)).trans (by decide +kernel)))
theorem dL_law_1460 : decode cL_law 1460 = .ok (.aload_n 0, 1) := dk_42 (dw_u1 (q := 1440 + 20) rfl ((congrArg (Option.map UInt8.toNat) (dw_st45 20)).trans (by decide +kernel)))
theorem dL_law_1461 : decode cL_law 1461 = .ok (.iload 4, 2) := dk_21 (dw_u1 (q := 1440 + 21) rfl ((congrArg (Option.map UInt8.toNat) (dw_st45 21)).trans (by decide +kernel))) (dw_u1 (q := 1440 + 22) rfl ((congrArg (Option.map UInt8.toNat) (dw_st45 22)).trans (by decide +kernel)))
theorem dL_law_1463 : decode cL_law 1463 = .ok (.iconst 1, 1) := dk_4 (dw_u1 (q := 1440 + 23) rfl ((congrArg (Option.map UInt8.toNat) (dw_st45 23)).trans (by decide +kernel)))
theorem dL_law_1464 : decode cL_law 1464 = .ok (.iadd, 1) := dk_96 (dw_u1 (q := 1440 + 24) rfl ((congrArg (Option.map UInt8.toNat) (dw_st45 24)).trans (by decide +kernel)))
theorem dL_law_1465 : decode cL_law 1465 = .ok (.iaload, 1) := dk_46 (dw_u1 (q := 1440 + 25) rfl ((congrArg (Option.map UInt8.toNat) (dw_st45 25)).trans (by decide +kernel)))
theorem dL_law_1466 : decode cL_law 1466 = .ok (.aload_n 3, 1) := dk_45 (dw_u1 (q := 1440 + 26) rfl ((congrArg (Option.map UInt8.toNat) (dw_st45 26)).trans (by decide +kernel)))
theorem dL_law_1467 : decode cL_law 1467 = .ok (.invokestatic 227, 3) := dk_184 (x := 0) (y := 227) (dw_u1 (q := 1440 + 27) rfl ((congrArg (Option.map UInt8.toNat) (dw_st45 27)).trans (by decide +kernel))) (dw_u1 (q := 1440 + 28) rfl ((congrArg (Option.map UInt8.toNat) (dw_st45 28)).trans (by decide +kernel))) (dw_u1 (q := 1440 + 29) rfl ((congrArg (Option.map UInt8.toNat) (dw_st45 29)).trans (by decide +kernel))) (by decide +kernel)
theorem dL_law_1470 : decode cL_law 1470 = .ok (.istore 5, 2) := dk_54 (dw_u1 (q := 1440 + 30) rfl ((congrArg (Option.map UInt8.toNat) (dw_st45 30)).trans (by decide +kernel))) (dw_u1 (q := 1440 + 31) rfl ((congrArg (Option.map UInt8.toNat) (dw_st45 31)).trans (by decide +kernel)))
theorem dL_law_1472 : decode cL_law 1472 = .ok (.aload_n 2, 1) := dk_44 (dw_u1 (q := 1472 + 0) rfl ((congrArg (Option.map UInt8.toNat) (dw_st46 0)).trans (by decide +kernel)))
theorem dL_law_1473 : decode cL_law 1473 = .ok (.aload_n 0, 1) := dk_42 (dw_u1 (q := 1472 + 1) rfl ((congrArg (Option.map UInt8.toNat) (dw_st46 1)).trans (by decide +kernel)))
theorem dL_law_1474 : decode cL_law 1474 = .ok (.iload 4, 2) := dk_21 (dw_u1 (q := 1472 + 2) rfl ((congrArg (Option.map UInt8.toNat) (dw_st46 2)).trans (by decide +kernel))) (dw_u1 (q := 1472 + 3) rfl ((congrArg (Option.map UInt8.toNat) (dw_st46 3)).trans (by decide +kernel)))
theorem dL_law_1476 : decode cL_law 1476 = .ok (.iconst 1, 1) := dk_4 (dw_u1 (q := 1472 + 4) rfl ((congrArg (Option.map UInt8.toNat) (dw_st46 4)).trans (by decide +kernel)))
theorem dL_law_1477 : decode cL_law 1477 = .ok (.iadd, 1) := dk_96 (dw_u1 (q := 1472 + 5) rfl ((congrArg (Option.map UInt8.toNat) (dw_st46 5)).trans (by decide +kernel)))
theorem dL_law_1478 : decode cL_law 1478 = .ok (.iaload, 1) := dk_46 (dw_u1 (q := 1472 + 6) rfl ((congrArg (Option.map UInt8.toNat) (dw_st46 6)).trans (by decide +kernel)))
theorem dL_law_1479 : decode cL_law 1479 = .ok (.invokevirtual 229, 3) := dk_182 (x := 0) (y := 229) (dw_u1 (q := 1472 + 7) rfl ((congrArg (Option.map UInt8.toNat) (dw_st46 7)).trans (by decide +kernel))) (dw_u1 (q := 1472 + 8) rfl ((congrArg (Option.map UInt8.toNat) (dw_st46 8)).trans (by decide +kernel))) (dw_u1 (q := 1472 + 9) rfl ((congrArg (Option.map UInt8.toNat) (dw_st46 9)).trans (by decide +kernel))) (by decide +kernel)
theorem dL_law_1482 : decode cL_law 1482 = .ok (.istore 6, 2) := dk_54 (dw_u1 (q := 1472 + 10) rfl ((congrArg (Option.map UInt8.toNat) (dw_st46 10)).trans (by decide +kernel))) (dw_u1 (q := 1472 + 11) rfl ((congrArg (Option.map UInt8.toNat) (dw_st46 11)).trans (by decide +kernel)))
theorem dL_law_1484 : decode cL_law 1484 = .ok (.goto 190, 3) := dk_167 (x := 0) (y := 190) (dw_u1 (q := 1472 + 12) rfl ((congrArg (Option.map UInt8.toNat) (dw_st46 12)).trans (by decide +kernel))) (dw_u1 (q := 1472 + 13) rfl ((congrArg (Option.map UInt8.toNat) (dw_st46 13)).trans (by decide +kernel))) (dw_u1 (q := 1472 + 14) rfl ((congrArg (Option.map UInt8.toNat) (dw_st46 14)).trans (by decide +kernel))) (by decide +kernel)
theorem dL_law_1487 : decode cL_law 1487 = .ok (.aload_n 1, 1) := dk_43 (dw_u1 (q := 1472 + 15) rfl ((congrArg (Option.map UInt8.toNat) (dw_st46 15)).trans (by decide +kernel)))
theorem dL_law_1488 : decode cL_law 1488 = .ok (.aload_n 0, 1) := dk_42 (dw_u1 (q := 1472 + 16) rfl ((congrArg (Option.map UInt8.toNat) (dw_st46 16)).trans (by decide +kernel)))
theorem dL_law_1489 : decode cL_law 1489 = .ok (.iload 4, 2) := dk_21 (dw_u1 (q := 1472 + 17) rfl ((congrArg (Option.map UInt8.toNat) (dw_st46 17)).trans (by decide +kernel))) (dw_u1 (q := 1472 + 18) rfl ((congrArg (Option.map UInt8.toNat) (dw_st46 18)).trans (by decide +kernel)))
theorem dL_law_1491 : decode cL_law 1491 = .ok (.iconst 1, 1) := dk_4 (dw_u1 (q := 1472 + 19) rfl ((congrArg (Option.map UInt8.toNat) (dw_st46 19)).trans (by decide +kernel)))
theorem dL_law_1492 : decode cL_law 1492 = .ok (.iadd, 1) := dk_96 (dw_u1 (q := 1472 + 20) rfl ((congrArg (Option.map UInt8.toNat) (dw_st46 20)).trans (by decide +kernel)))
theorem dL_law_1493 : decode cL_law 1493 = .ok (.iaload, 1) := dk_46 (dw_u1 (q := 1472 + 21) rfl ((congrArg (Option.map UInt8.toNat) (dw_st46 21)).trans (by decide +kernel)))
theorem dL_law_1494 : decode cL_law 1494 = .ok (.aload_n 0, 1) := dk_42 (dw_u1 (q := 1472 + 22) rfl ((congrArg (Option.map UInt8.toNat) (dw_st46 22)).trans (by decide +kernel)))
theorem dL_law_1495 : decode cL_law 1495 = .ok (.iload 4, 2) := dk_21 (dw_u1 (q := 1472 + 23) rfl ((congrArg (Option.map UInt8.toNat) (dw_st46 23)).trans (by decide +kernel))) (dw_u1 (q := 1472 + 24) rfl ((congrArg (Option.map UInt8.toNat) (dw_st46 24)).trans (by decide +kernel)))
theorem dL_law_1497 : decode cL_law 1497 = .ok (.iconst 2, 1) := dk_5 (dw_u1 (q := 1472 + 25) rfl ((congrArg (Option.map UInt8.toNat) (dw_st46 25)).trans (by decide +kernel)))
theorem dL_law_1498 : decode cL_law 1498 = .ok (.iadd, 1) := dk_96 (dw_u1 (q := 1472 + 26) rfl ((congrArg (Option.map UInt8.toNat) (dw_st46 26)).trans (by decide +kernel)))
theorem dL_law_1499 : decode cL_law 1499 = .ok (.iaload, 1) := dk_46 (dw_u1 (q := 1472 + 27) rfl ((congrArg (Option.map UInt8.toNat) (dw_st46 27)).trans (by decide +kernel)))
theorem dL_law_1500 : decode cL_law 1500 = .ok (.aload_n 3, 1) := dk_45 (dw_u1 (q := 1472 + 28) rfl ((congrArg (Option.map UInt8.toNat) (dw_st46 28)).trans (by decide +kernel)))
theorem dL_law_1501 : decode cL_law 1501 = .ok (.invokestatic 230, 3) := dk_184 (x := 0) (y := 230) (dw_u1 (q := 1472 + 29) rfl ((congrArg (Option.map UInt8.toNat) (dw_st46 29)).trans (by decide +kernel))) (dw_u1 (q := 1472 + 30) rfl ((congrArg (Option.map UInt8.toNat) (dw_st46 30)).trans (by decide +kernel))) (dw_u1 (q := 1472 + 31) rfl ((congrArg (Option.map UInt8.toNat) (dw_st46 31)).trans (by decide +kernel))) (by decide +kernel)
theorem dL_law_1504 : decode cL_law 1504 = .ok (.istore 5, 2) := dk_54 (dw_u1 (q := 1504 + 0) rfl ((congrArg (Option.map UInt8.toNat) (dw_st47 0)).trans (by decide +kernel))) (dw_u1 (q := 1504 + 1) rfl ((congrArg (Option.map UInt8.toNat) (dw_st47 1)).trans (by decide +kernel)))
theorem dL_law_1506 : decode cL_law 1506 = .ok (.aload_n 2, 1) := dk_44 (dw_u1 (q := 1504 + 2) rfl ((congrArg (Option.map UInt8.toNat) (dw_st47 2)).trans (by decide +kernel)))
theorem dL_law_1507 : decode cL_law 1507 = .ok (.aload_n 0, 1) := dk_42 (dw_u1 (q := 1504 + 3) rfl ((congrArg (Option.map UInt8.toNat) (dw_st47 3)).trans (by decide +kernel)))
theorem dL_law_1508 : decode cL_law 1508 = .ok (.iload 4, 2) := dk_21 (dw_u1 (q := 1504 + 4) rfl ((congrArg (Option.map UInt8.toNat) (dw_st47 4)).trans (by decide +kernel))) (dw_u1 (q := 1504 + 5) rfl ((congrArg (Option.map UInt8.toNat) (dw_st47 5)).trans (by decide +kernel)))
theorem dL_law_1510 : decode cL_law 1510 = .ok (.iconst 1, 1) := dk_4 (dw_u1 (q := 1504 + 6) rfl ((congrArg (Option.map UInt8.toNat) (dw_st47 6)).trans (by decide +kernel)))
theorem dL_law_1511 : decode cL_law 1511 = .ok (.iadd, 1) := dk_96 (dw_u1 (q := 1504 + 7) rfl ((congrArg (Option.map UInt8.toNat) (dw_st47 7)).trans (by decide +kernel)))
theorem dL_law_1512 : decode cL_law 1512 = .ok (.iaload, 1) := dk_46 (dw_u1 (q := 1504 + 8) rfl ((congrArg (Option.map UInt8.toNat) (dw_st47 8)).trans (by decide +kernel)))
theorem dL_law_1513 : decode cL_law 1513 = .ok (.aload_n 0, 1) := dk_42 (dw_u1 (q := 1504 + 9) rfl ((congrArg (Option.map UInt8.toNat) (dw_st47 9)).trans (by decide +kernel)))
theorem dL_law_1514 : decode cL_law 1514 = .ok (.iload 4, 2) := dk_21 (dw_u1 (q := 1504 + 10) rfl ((congrArg (Option.map UInt8.toNat) (dw_st47 10)).trans (by decide +kernel))) (dw_u1 (q := 1504 + 11) rfl ((congrArg (Option.map UInt8.toNat) (dw_st47 11)).trans (by decide +kernel)))
theorem dL_law_1516 : decode cL_law 1516 = .ok (.iconst 2, 1) := dk_5 (dw_u1 (q := 1504 + 12) rfl ((congrArg (Option.map UInt8.toNat) (dw_st47 12)).trans (by decide +kernel)))
theorem dL_law_1517 : decode cL_law 1517 = .ok (.iadd, 1) := dk_96 (dw_u1 (q := 1504 + 13) rfl ((congrArg (Option.map UInt8.toNat) (dw_st47 13)).trans (by decide +kernel)))
theorem dL_law_1518 : decode cL_law 1518 = .ok (.iaload, 1) := dk_46 (dw_u1 (q := 1504 + 14) rfl ((congrArg (Option.map UInt8.toNat) (dw_st47 14)).trans (by decide +kernel)))
theorem dL_law_1519 : decode cL_law 1519 = .ok (.invokevirtual 232, 3) := dk_182 (x := 0) (y := 232) (dw_u1 (q := 1504 + 15) rfl ((congrArg (Option.map UInt8.toNat) (dw_st47 15)).trans (by decide +kernel))) (dw_u1 (q := 1504 + 16) rfl ((congrArg (Option.map UInt8.toNat) (dw_st47 16)).trans (by decide +kernel))) (dw_u1 (q := 1504 + 17) rfl ((congrArg (Option.map UInt8.toNat) (dw_st47 17)).trans (by decide +kernel))) (by decide +kernel)
theorem dL_law_1522 : decode cL_law 1522 = .ok (.istore 6, 2) := dk_54 (dw_u1 (q := 1504 + 18) rfl ((congrArg (Option.map UInt8.toNat) (dw_st47 18)).trans (by decide +kernel))) (dw_u1 (q := 1504 + 19) rfl ((congrArg (Option.map UInt8.toNat) (dw_st47 19)).trans (by decide +kernel)))
theorem dL_law_1524 : decode cL_law 1524 = .ok (.goto 150, 3) := dk_167 (x := 0) (y := 150) (dw_u1 (q := 1504 + 20) rfl ((congrArg (Option.map UInt8.toNat) (dw_st47 20)).trans (by decide +kernel))) (dw_u1 (q := 1504 + 21) rfl ((congrArg (Option.map UInt8.toNat) (dw_st47 21)).trans (by decide +kernel))) (dw_u1 (q := 1504 + 22) rfl ((congrArg (Option.map UInt8.toNat) (dw_st47 22)).trans (by decide +kernel))) (by decide +kernel)
theorem dL_law_1527 : decode cL_law 1527 = .ok (.aload_n 1, 1) := dk_43 (dw_u1 (q := 1504 + 23) rfl ((congrArg (Option.map UInt8.toNat) (dw_st47 23)).trans (by decide +kernel)))
theorem dL_law_1528 : decode cL_law 1528 = .ok (.aload_n 0, 1) := dk_42 (dw_u1 (q := 1504 + 24) rfl ((congrArg (Option.map UInt8.toNat) (dw_st47 24)).trans (by decide +kernel)))
theorem dL_law_1529 : decode cL_law 1529 = .ok (.iload 4, 2) := dk_21 (dw_u1 (q := 1504 + 25) rfl ((congrArg (Option.map UInt8.toNat) (dw_st47 25)).trans (by decide +kernel))) (dw_u1 (q := 1504 + 26) rfl ((congrArg (Option.map UInt8.toNat) (dw_st47 26)).trans (by decide +kernel)))
theorem dL_law_1531 : decode cL_law 1531 = .ok (.iconst 1, 1) := dk_4 (dw_u1 (q := 1504 + 27) rfl ((congrArg (Option.map UInt8.toNat) (dw_st47 27)).trans (by decide +kernel)))
theorem dL_law_1532 : decode cL_law 1532 = .ok (.iadd, 1) := dk_96 (dw_u1 (q := 1504 + 28) rfl ((congrArg (Option.map UInt8.toNat) (dw_st47 28)).trans (by decide +kernel)))
theorem dL_law_1533 : decode cL_law 1533 = .ok (.iaload, 1) := dk_46 (dw_u1 (q := 1504 + 29) rfl ((congrArg (Option.map UInt8.toNat) (dw_st47 29)).trans (by decide +kernel)))
theorem dL_law_1534 : decode cL_law 1534 = .ok (.aload_n 3, 1) := dk_45 (dw_u1 (q := 1504 + 30) rfl ((congrArg (Option.map UInt8.toNat) (dw_st47 30)).trans (by decide +kernel)))
theorem dL_law_1535 : decode cL_law 1535 = .ok (.invokestatic 233, 3) := dk_184 (x := 0) (y := 233) (dw_u1 (q := 1504 + 31) rfl ((congrArg (Option.map UInt8.toNat) (dw_st47 31)).trans (by decide +kernel))) (dw_u1 (q := 1536 + 0) rfl ((congrArg (Option.map UInt8.toNat) (dw_st48 0)).trans (by decide +kernel))) (dw_u1 (q := 1536 + 1) rfl ((congrArg (Option.map UInt8.toNat) (dw_st48 1)).trans (by decide +kernel))) (by decide +kernel)
theorem dL_law_1538 : decode cL_law 1538 = .ok (.istore 5, 2) := dk_54 (dw_u1 (q := 1536 + 2) rfl ((congrArg (Option.map UInt8.toNat) (dw_st48 2)).trans (by decide +kernel))) (dw_u1 (q := 1536 + 3) rfl ((congrArg (Option.map UInt8.toNat) (dw_st48 3)).trans (by decide +kernel)))
theorem dL_law_1540 : decode cL_law 1540 = .ok (.aload_n 2, 1) := dk_44 (dw_u1 (q := 1536 + 4) rfl ((congrArg (Option.map UInt8.toNat) (dw_st48 4)).trans (by decide +kernel)))
theorem dL_law_1541 : decode cL_law 1541 = .ok (.aload_n 0, 1) := dk_42 (dw_u1 (q := 1536 + 5) rfl ((congrArg (Option.map UInt8.toNat) (dw_st48 5)).trans (by decide +kernel)))
theorem dL_law_1542 : decode cL_law 1542 = .ok (.iload 4, 2) := dk_21 (dw_u1 (q := 1536 + 6) rfl ((congrArg (Option.map UInt8.toNat) (dw_st48 6)).trans (by decide +kernel))) (dw_u1 (q := 1536 + 7) rfl ((congrArg (Option.map UInt8.toNat) (dw_st48 7)).trans (by decide +kernel)))
theorem dL_law_1544 : decode cL_law 1544 = .ok (.iconst 1, 1) := dk_4 (dw_u1 (q := 1536 + 8) rfl ((congrArg (Option.map UInt8.toNat) (dw_st48 8)).trans (by decide +kernel)))
theorem dL_law_1545 : decode cL_law 1545 = .ok (.iadd, 1) := dk_96 (dw_u1 (q := 1536 + 9) rfl ((congrArg (Option.map UInt8.toNat) (dw_st48 9)).trans (by decide +kernel)))
theorem dL_law_1546 : decode cL_law 1546 = .ok (.iaload, 1) := dk_46 (dw_u1 (q := 1536 + 10) rfl ((congrArg (Option.map UInt8.toNat) (dw_st48 10)).trans (by decide +kernel)))
theorem dL_law_1547 : decode cL_law 1547 = .ok (.invokevirtual 235, 3) := dk_182 (x := 0) (y := 235) (dw_u1 (q := 1536 + 11) rfl ((congrArg (Option.map UInt8.toNat) (dw_st48 11)).trans (by decide +kernel))) (dw_u1 (q := 1536 + 12) rfl ((congrArg (Option.map UInt8.toNat) (dw_st48 12)).trans (by decide +kernel))) (dw_u1 (q := 1536 + 13) rfl ((congrArg (Option.map UInt8.toNat) (dw_st48 13)).trans (by decide +kernel))) (by decide +kernel)
theorem dL_law_1550 : decode cL_law 1550 = .ok (.istore 6, 2) := dk_54 (dw_u1 (q := 1536 + 14) rfl ((congrArg (Option.map UInt8.toNat) (dw_st48 14)).trans (by decide +kernel))) (dw_u1 (q := 1536 + 15) rfl ((congrArg (Option.map UInt8.toNat) (dw_st48 15)).trans (by decide +kernel)))
theorem dL_law_1552 : decode cL_law 1552 = .ok (.goto 122, 3) := dk_167 (x := 0) (y := 122) (dw_u1 (q := 1536 + 16) rfl ((congrArg (Option.map UInt8.toNat) (dw_st48 16)).trans (by decide +kernel))) (dw_u1 (q := 1536 + 17) rfl ((congrArg (Option.map UInt8.toNat) (dw_st48 17)).trans (by decide +kernel))) (dw_u1 (q := 1536 + 18) rfl ((congrArg (Option.map UInt8.toNat) (dw_st48 18)).trans (by decide +kernel))) (by decide +kernel)
theorem dL_law_1555 : decode cL_law 1555 = .ok (.aload_n 1, 1) := dk_43 (dw_u1 (q := 1536 + 19) rfl ((congrArg (Option.map UInt8.toNat) (dw_st48 19)).trans (by decide +kernel)))
theorem dL_law_1556 : decode cL_law 1556 = .ok (.aload_n 0, 1) := dk_42 (dw_u1 (q := 1536 + 20) rfl ((congrArg (Option.map UInt8.toNat) (dw_st48 20)).trans (by decide +kernel)))
theorem dL_law_1557 : decode cL_law 1557 = .ok (.iload 4, 2) := dk_21 (dw_u1 (q := 1536 + 21) rfl ((congrArg (Option.map UInt8.toNat) (dw_st48 21)).trans (by decide +kernel))) (dw_u1 (q := 1536 + 22) rfl ((congrArg (Option.map UInt8.toNat) (dw_st48 22)).trans (by decide +kernel)))
theorem dL_law_1559 : decode cL_law 1559 = .ok (.iconst 1, 1) := dk_4 (dw_u1 (q := 1536 + 23) rfl ((congrArg (Option.map UInt8.toNat) (dw_st48 23)).trans (by decide +kernel)))
theorem dL_law_1560 : decode cL_law 1560 = .ok (.iadd, 1) := dk_96 (dw_u1 (q := 1536 + 24) rfl ((congrArg (Option.map UInt8.toNat) (dw_st48 24)).trans (by decide +kernel)))
theorem dL_law_1561 : decode cL_law 1561 = .ok (.iaload, 1) := dk_46 (dw_u1 (q := 1536 + 25) rfl ((congrArg (Option.map UInt8.toNat) (dw_st48 25)).trans (by decide +kernel)))
theorem dL_law_1562 : decode cL_law 1562 = .ok (.aload_n 0, 1) := dk_42 (dw_u1 (q := 1536 + 26) rfl ((congrArg (Option.map UInt8.toNat) (dw_st48 26)).trans (by decide +kernel)))
theorem dL_law_1563 : decode cL_law 1563 = .ok (.iload 4, 2) := dk_21 (dw_u1 (q := 1536 + 27) rfl ((congrArg (Option.map UInt8.toNat) (dw_st48 27)).trans (by decide +kernel))) (dw_u1 (q := 1536 + 28) rfl ((congrArg (Option.map UInt8.toNat) (dw_st48 28)).trans (by decide +kernel)))
theorem dL_law_1565 : decode cL_law 1565 = .ok (.iconst 2, 1) := dk_5 (dw_u1 (q := 1536 + 29) rfl ((congrArg (Option.map UInt8.toNat) (dw_st48 29)).trans (by decide +kernel)))
theorem dL_law_1566 : decode cL_law 1566 = .ok (.iadd, 1) := dk_96 (dw_u1 (q := 1536 + 30) rfl ((congrArg (Option.map UInt8.toNat) (dw_st48 30)).trans (by decide +kernel)))
theorem dL_law_1567 : decode cL_law 1567 = .ok (.iaload, 1) := dk_46 (dw_u1 (q := 1536 + 31) rfl ((congrArg (Option.map UInt8.toNat) (dw_st48 31)).trans (by decide +kernel)))
theorem dL_law_1568 : decode cL_law 1568 = .ok (.aload_n 0, 1) := dk_42 (dw_u1 (q := 1568 + 0) rfl ((congrArg (Option.map UInt8.toNat) (dw_st49 0)).trans (by decide +kernel)))
theorem dL_law_1569 : decode cL_law 1569 = .ok (.iload 4, 2) := dk_21 (dw_u1 (q := 1568 + 1) rfl ((congrArg (Option.map UInt8.toNat) (dw_st49 1)).trans (by decide +kernel))) (dw_u1 (q := 1568 + 2) rfl ((congrArg (Option.map UInt8.toNat) (dw_st49 2)).trans (by decide +kernel)))
theorem dL_law_1571 : decode cL_law 1571 = .ok (.iconst 3, 1) := dk_6 (dw_u1 (q := 1568 + 3) rfl ((congrArg (Option.map UInt8.toNat) (dw_st49 3)).trans (by decide +kernel)))
theorem dL_law_1572 : decode cL_law 1572 = .ok (.iadd, 1) := dk_96 (dw_u1 (q := 1568 + 4) rfl ((congrArg (Option.map UInt8.toNat) (dw_st49 4)).trans (by decide +kernel)))
theorem dL_law_1573 : decode cL_law 1573 = .ok (.iaload, 1) := dk_46 (dw_u1 (q := 1568 + 5) rfl ((congrArg (Option.map UInt8.toNat) (dw_st49 5)).trans (by decide +kernel)))
theorem dL_law_1574 : decode cL_law 1574 = .ok (.aload_n 3, 1) := dk_45 (dw_u1 (q := 1568 + 6) rfl ((congrArg (Option.map UInt8.toNat) (dw_st49 6)).trans (by decide +kernel)))
theorem dL_law_1575 : decode cL_law 1575 = .ok (.invokestatic 236, 3) := dk_184 (x := 0) (y := 236) (dw_u1 (q := 1568 + 7) rfl ((congrArg (Option.map UInt8.toNat) (dw_st49 7)).trans (by decide +kernel))) (dw_u1 (q := 1568 + 8) rfl ((congrArg (Option.map UInt8.toNat) (dw_st49 8)).trans (by decide +kernel))) (dw_u1 (q := 1568 + 9) rfl ((congrArg (Option.map UInt8.toNat) (dw_st49 9)).trans (by decide +kernel))) (by decide +kernel)
theorem dL_law_1578 : decode cL_law 1578 = .ok (.istore 5, 2) := dk_54 (dw_u1 (q := 1568 + 10) rfl ((congrArg (Option.map UInt8.toNat) (dw_st49 10)).trans (by decide +kernel))) (dw_u1 (q := 1568 + 11) rfl ((congrArg (Option.map UInt8.toNat) (dw_st49 11)).trans (by decide +kernel)))
theorem dL_law_1580 : decode cL_law 1580 = .ok (.aload_n 2, 1) := dk_44 (dw_u1 (q := 1568 + 12) rfl ((congrArg (Option.map UInt8.toNat) (dw_st49 12)).trans (by decide +kernel)))
theorem dL_law_1581 : decode cL_law 1581 = .ok (.aload_n 0, 1) := dk_42 (dw_u1 (q := 1568 + 13) rfl ((congrArg (Option.map UInt8.toNat) (dw_st49 13)).trans (by decide +kernel)))
theorem dL_law_1582 : decode cL_law 1582 = .ok (.iload 4, 2) := dk_21 (dw_u1 (q := 1568 + 14) rfl ((congrArg (Option.map UInt8.toNat) (dw_st49 14)).trans (by decide +kernel))) (dw_u1 (q := 1568 + 15) rfl ((congrArg (Option.map UInt8.toNat) (dw_st49 15)).trans (by decide +kernel)))
theorem dL_law_1584 : decode cL_law 1584 = .ok (.iconst 1, 1) := dk_4 (dw_u1 (q := 1568 + 16) rfl ((congrArg (Option.map UInt8.toNat) (dw_st49 16)).trans (by decide +kernel)))
theorem dL_law_1585 : decode cL_law 1585 = .ok (.iadd, 1) := dk_96 (dw_u1 (q := 1568 + 17) rfl ((congrArg (Option.map UInt8.toNat) (dw_st49 17)).trans (by decide +kernel)))
theorem dL_law_1586 : decode cL_law 1586 = .ok (.iaload, 1) := dk_46 (dw_u1 (q := 1568 + 18) rfl ((congrArg (Option.map UInt8.toNat) (dw_st49 18)).trans (by decide +kernel)))
theorem dL_law_1587 : decode cL_law 1587 = .ok (.aload_n 0, 1) := dk_42 (dw_u1 (q := 1568 + 19) rfl ((congrArg (Option.map UInt8.toNat) (dw_st49 19)).trans (by decide +kernel)))
theorem dL_law_1588 : decode cL_law 1588 = .ok (.iload 4, 2) := dk_21 (dw_u1 (q := 1568 + 20) rfl ((congrArg (Option.map UInt8.toNat) (dw_st49 20)).trans (by decide +kernel))) (dw_u1 (q := 1568 + 21) rfl ((congrArg (Option.map UInt8.toNat) (dw_st49 21)).trans (by decide +kernel)))
theorem dL_law_1590 : decode cL_law 1590 = .ok (.iconst 2, 1) := dk_5 (dw_u1 (q := 1568 + 22) rfl ((congrArg (Option.map UInt8.toNat) (dw_st49 22)).trans (by decide +kernel)))
theorem dL_law_1591 : decode cL_law 1591 = .ok (.iadd, 1) := dk_96 (dw_u1 (q := 1568 + 23) rfl ((congrArg (Option.map UInt8.toNat) (dw_st49 23)).trans (by decide +kernel)))
theorem dL_law_1592 : decode cL_law 1592 = .ok (.iaload, 1) := dk_46 (dw_u1 (q := 1568 + 24) rfl ((congrArg (Option.map UInt8.toNat) (dw_st49 24)).trans (by decide +kernel)))
theorem dL_law_1593 : decode cL_law 1593 = .ok (.aload_n 0, 1) := dk_42 (dw_u1 (q := 1568 + 25) rfl ((congrArg (Option.map UInt8.toNat) (dw_st49 25)).trans (by decide +kernel)))
theorem dL_law_1594 : decode cL_law 1594 = .ok (.iload 4, 2) := dk_21 (dw_u1 (q := 1568 + 26) rfl ((congrArg (Option.map UInt8.toNat) (dw_st49 26)).trans (by decide +kernel))) (dw_u1 (q := 1568 + 27) rfl ((congrArg (Option.map UInt8.toNat) (dw_st49 27)).trans (by decide +kernel)))
theorem dL_law_1596 : decode cL_law 1596 = .ok (.iconst 3, 1) := dk_6 (dw_u1 (q := 1568 + 28) rfl ((congrArg (Option.map UInt8.toNat) (dw_st49 28)).trans (by decide +kernel)))
theorem dL_law_1597 : decode cL_law 1597 = .ok (.iadd, 1) := dk_96 (dw_u1 (q := 1568 + 29) rfl ((congrArg (Option.map UInt8.toNat) (dw_st49 29)).trans (by decide +kernel)))
theorem dL_law_1598 : decode cL_law 1598 = .ok (.iaload, 1) := dk_46 (dw_u1 (q := 1568 + 30) rfl ((congrArg (Option.map UInt8.toNat) (dw_st49 30)).trans (by decide +kernel)))
theorem dL_law_1599 : decode cL_law 1599 = .ok (.invokevirtual 238, 3) := dk_182 (x := 0) (y := 238) (dw_u1 (q := 1568 + 31) rfl ((congrArg (Option.map UInt8.toNat) (dw_st49 31)).trans (by decide +kernel))) (dw_u1 (q := 1600 + 0) rfl ((congrArg (Option.map UInt8.toNat) (dw_st50 0)).trans (by decide +kernel))) (dw_u1 (q := 1600 + 1) rfl ((congrArg (Option.map UInt8.toNat) (dw_st50 1)).trans (by decide +kernel))) (by decide +kernel)
theorem dL_law_1602 : decode cL_law 1602 = .ok (.istore 6, 2) := dk_54 (dw_u1 (q := 1600 + 2) rfl ((congrArg (Option.map UInt8.toNat) (dw_st50 2)).trans (by decide +kernel))) (dw_u1 (q := 1600 + 3) rfl ((congrArg (Option.map UInt8.toNat) (dw_st50 3)).trans (by decide +kernel)))
theorem dL_law_1604 : decode cL_law 1604 = .ok (.goto 70, 3) := dk_167 (x := 0) (y := 70) (dw_u1 (q := 1600 + 4) rfl ((congrArg (Option.map UInt8.toNat) (dw_st50 4)).trans (by decide +kernel))) (dw_u1 (q := 1600 + 5) rfl ((congrArg (Option.map UInt8.toNat) (dw_st50 5)).trans (by decide +kernel))) (dw_u1 (q := 1600 + 6) rfl ((congrArg (Option.map UInt8.toNat) (dw_st50 6)).trans (by decide +kernel))) (by decide +kernel)
theorem dL_law_1607 : decode cL_law 1607 = .ok (.aload_n 1, 1) := dk_43 (dw_u1 (q := 1600 + 7) rfl ((congrArg (Option.map UInt8.toNat) (dw_st50 7)).trans (by decide +kernel)))
theorem dL_law_1608 : decode cL_law 1608 = .ok (.invokevirtual 239, 3) := dk_182 (x := 0) (y := 239) (dw_u1 (q := 1600 + 8) rfl ((congrArg (Option.map UInt8.toNat) (dw_st50 8)).trans (by decide +kernel))) (dw_u1 (q := 1600 + 9) rfl ((congrArg (Option.map UInt8.toNat) (dw_st50 9)).trans (by decide +kernel))) (dw_u1 (q := 1600 + 10) rfl ((congrArg (Option.map UInt8.toNat) (dw_st50 10)).trans (by decide +kernel))) (by decide +kernel)
theorem dL_law_1611 : decode cL_law 1611 = .ok (.pop, 1) := dk_87 (dw_u1 (q := 1600 + 11) rfl ((congrArg (Option.map UInt8.toNat) (dw_st50 11)).trans (by decide +kernel)))
theorem dL_law_1612 : decode cL_law 1612 = .ok (.aload_n 2, 1) := dk_44 (dw_u1 (q := 1600 + 12) rfl ((congrArg (Option.map UInt8.toNat) (dw_st50 12)).trans (by decide +kernel)))
theorem dL_law_1613 : decode cL_law 1613 = .ok (.invokevirtual 242, 3) := dk_182 (x := 0) (y := 242) (dw_u1 (q := 1600 + 13) rfl ((congrArg (Option.map UInt8.toNat) (dw_st50 13)).trans (by decide +kernel))) (dw_u1 (q := 1600 + 14) rfl ((congrArg (Option.map UInt8.toNat) (dw_st50 14)).trans (by decide +kernel))) (dw_u1 (q := 1600 + 15) rfl ((congrArg (Option.map UInt8.toNat) (dw_st50 15)).trans (by decide +kernel))) (by decide +kernel)
theorem dL_law_1616 : decode cL_law 1616 = .ok (.pop, 1) := dk_87 (dw_u1 (q := 1600 + 16) rfl ((congrArg (Option.map UInt8.toNat) (dw_st50 16)).trans (by decide +kernel)))
theorem dL_law_1617 : decode cL_law 1617 = .ok (.goto 57, 3) := dk_167 (x := 0) (y := 57) (dw_u1 (q := 1600 + 17) rfl ((congrArg (Option.map UInt8.toNat) (dw_st50 17)).trans (by decide +kernel))) (dw_u1 (q := 1600 + 18) rfl ((congrArg (Option.map UInt8.toNat) (dw_st50 18)).trans (by decide +kernel))) (dw_u1 (q := 1600 + 19) rfl ((congrArg (Option.map UInt8.toNat) (dw_st50 19)).trans (by decide +kernel))) (by decide +kernel)
theorem dL_law_1620 : decode cL_law 1620 = .ok (.aload_n 1, 1) := dk_43 (dw_u1 (q := 1600 + 20) rfl ((congrArg (Option.map UInt8.toNat) (dw_st50 20)).trans (by decide +kernel)))
theorem dL_law_1621 : decode cL_law 1621 = .ok (.aload_n 0, 1) := dk_42 (dw_u1 (q := 1600 + 21) rfl ((congrArg (Option.map UInt8.toNat) (dw_st50 21)).trans (by decide +kernel)))
theorem dL_law_1622 : decode cL_law 1622 = .ok (.iload 4, 2) := dk_21 (dw_u1 (q := 1600 + 22) rfl ((congrArg (Option.map UInt8.toNat) (dw_st50 22)).trans (by decide +kernel))) (dw_u1 (q := 1600 + 23) rfl ((congrArg (Option.map UInt8.toNat) (dw_st50 23)).trans (by decide +kernel)))
theorem dL_law_1624 : decode cL_law 1624 = .ok (.iconst 1, 1) := dk_4 (dw_u1 (q := 1600 + 24) rfl ((congrArg (Option.map UInt8.toNat) (dw_st50 24)).trans (by decide +kernel)))
theorem dL_law_1625 : decode cL_law 1625 = .ok (.iadd, 1) := dk_96 (dw_u1 (q := 1600 + 25) rfl ((congrArg (Option.map UInt8.toNat) (dw_st50 25)).trans (by decide +kernel)))
theorem dL_law_1626 : decode cL_law 1626 = .ok (.iaload, 1) := dk_46 (dw_u1 (q := 1600 + 26) rfl ((congrArg (Option.map UInt8.toNat) (dw_st50 26)).trans (by decide +kernel)))
theorem dL_law_1627 : decode cL_law 1627 = .ok (.aload_n 3, 1) := dk_45 (dw_u1 (q := 1600 + 27) rfl ((congrArg (Option.map UInt8.toNat) (dw_st50 27)).trans (by decide +kernel)))
theorem dL_law_1628 : decode cL_law 1628 = .ok (.invokestatic 243, 3) := dk_184 (x := 0) (y := 243) (dw_u1 (q := 1600 + 28) rfl ((congrArg (Option.map UInt8.toNat) (dw_st50 28)).trans (by decide +kernel))) (dw_u1 (q := 1600 + 29) rfl ((congrArg (Option.map UInt8.toNat) (dw_st50 29)).trans (by decide +kernel))) (dw_u1 (q := 1600 + 30) rfl ((congrArg (Option.map UInt8.toNat) (dw_st50 30)).trans (by decide +kernel))) (by decide +kernel)
theorem dL_law_1631 : decode cL_law 1631 = .ok (.istore 5, 2) := dk_54 (dw_u1 (q := 1600 + 31) rfl ((congrArg (Option.map UInt8.toNat) (dw_st50 31)).trans (by decide +kernel))) (dw_u1 (q := 1632 + 0) rfl ((congrArg (Option.map UInt8.toNat) (dw_st51 0)).trans (by decide +kernel)))
theorem dL_law_1633 : decode cL_law 1633 = .ok (.aload_n 2, 1) := dk_44 (dw_u1 (q := 1632 + 1) rfl ((congrArg (Option.map UInt8.toNat) (dw_st51 1)).trans (by decide +kernel)))
theorem dL_law_1634 : decode cL_law 1634 = .ok (.aload_n 0, 1) := dk_42 (dw_u1 (q := 1632 + 2) rfl ((congrArg (Option.map UInt8.toNat) (dw_st51 2)).trans (by decide +kernel)))
theorem dL_law_1635 : decode cL_law 1635 = .ok (.iload 4, 2) := dk_21 (dw_u1 (q := 1632 + 3) rfl ((congrArg (Option.map UInt8.toNat) (dw_st51 3)).trans (by decide +kernel))) (dw_u1 (q := 1632 + 4) rfl ((congrArg (Option.map UInt8.toNat) (dw_st51 4)).trans (by decide +kernel)))
theorem dL_law_1637 : decode cL_law 1637 = .ok (.iconst 1, 1) := dk_4 (dw_u1 (q := 1632 + 5) rfl ((congrArg (Option.map UInt8.toNat) (dw_st51 5)).trans (by decide +kernel)))
theorem dL_law_1638 : decode cL_law 1638 = .ok (.iadd, 1) := dk_96 (dw_u1 (q := 1632 + 6) rfl ((congrArg (Option.map UInt8.toNat) (dw_st51 6)).trans (by decide +kernel)))
theorem dL_law_1639 : decode cL_law 1639 = .ok (.iaload, 1) := dk_46 (dw_u1 (q := 1632 + 7) rfl ((congrArg (Option.map UInt8.toNat) (dw_st51 7)).trans (by decide +kernel)))
theorem dL_law_1640 : decode cL_law 1640 = .ok (.invokevirtual 245, 3) := dk_182 (x := 0) (y := 245) (dw_u1 (q := 1632 + 8) rfl ((congrArg (Option.map UInt8.toNat) (dw_st51 8)).trans (by decide +kernel))) (dw_u1 (q := 1632 + 9) rfl ((congrArg (Option.map UInt8.toNat) (dw_st51 9)).trans (by decide +kernel))) (dw_u1 (q := 1632 + 10) rfl ((congrArg (Option.map UInt8.toNat) (dw_st51 10)).trans (by decide +kernel))) (by decide +kernel)
theorem dL_law_1643 : decode cL_law 1643 = .ok (.istore 6, 2) := dk_54 (dw_u1 (q := 1632 + 11) rfl ((congrArg (Option.map UInt8.toNat) (dw_st51 11)).trans (by decide +kernel))) (dw_u1 (q := 1632 + 12) rfl ((congrArg (Option.map UInt8.toNat) (dw_st51 12)).trans (by decide +kernel)))
theorem dL_law_1645 : decode cL_law 1645 = .ok (.goto 29, 3) := dk_167 (x := 0) (y := 29) (dw_u1 (q := 1632 + 13) rfl ((congrArg (Option.map UInt8.toNat) (dw_st51 13)).trans (by decide +kernel))) (dw_u1 (q := 1632 + 14) rfl ((congrArg (Option.map UInt8.toNat) (dw_st51 14)).trans (by decide +kernel))) (dw_u1 (q := 1632 + 15) rfl ((congrArg (Option.map UInt8.toNat) (dw_st51 15)).trans (by decide +kernel))) (by decide +kernel)
theorem dL_law_1648 : decode cL_law 1648 = .ok (.aload_n 1, 1) := dk_43 (dw_u1 (q := 1632 + 16) rfl ((congrArg (Option.map UInt8.toNat) (dw_st51 16)).trans (by decide +kernel)))
theorem dL_law_1649 : decode cL_law 1649 = .ok (.invokevirtual 246, 3) := dk_182 (x := 0) (y := 246) (dw_u1 (q := 1632 + 17) rfl ((congrArg (Option.map UInt8.toNat) (dw_st51 17)).trans (by decide +kernel))) (dw_u1 (q := 1632 + 18) rfl ((congrArg (Option.map UInt8.toNat) (dw_st51 18)).trans (by decide +kernel))) (dw_u1 (q := 1632 + 19) rfl ((congrArg (Option.map UInt8.toNat) (dw_st51 19)).trans (by decide +kernel))) (by decide +kernel)
theorem dL_law_1652 : decode cL_law 1652 = .ok (.pop, 1) := dk_87 (dw_u1 (q := 1632 + 20) rfl ((congrArg (Option.map UInt8.toNat) (dw_st51 20)).trans (by decide +kernel)))
theorem dL_law_1653 : decode cL_law 1653 = .ok (.aload_n 2, 1) := dk_44 (dw_u1 (q := 1632 + 21) rfl ((congrArg (Option.map UInt8.toNat) (dw_st51 21)).trans (by decide +kernel)))
theorem dL_law_1654 : decode cL_law 1654 = .ok (.invokevirtual 250, 3) := dk_182 (x := 0) (y := 250) (dw_u1 (q := 1632 + 22) rfl ((congrArg (Option.map UInt8.toNat) (dw_st51 22)).trans (by decide +kernel))) (dw_u1 (q := 1632 + 23) rfl ((congrArg (Option.map UInt8.toNat) (dw_st51 23)).trans (by decide +kernel))) (dw_u1 (q := 1632 + 24) rfl ((congrArg (Option.map UInt8.toNat) (dw_st51 24)).trans (by decide +kernel))) (by decide +kernel)
theorem dL_law_1657 : decode cL_law 1657 = .ok (.pop, 1) := dk_87 (dw_u1 (q := 1632 + 25) rfl ((congrArg (Option.map UInt8.toNat) (dw_st51 25)).trans (by decide +kernel)))
theorem dL_law_1658 : decode cL_law 1658 = .ok (.goto 16, 3) := dk_167 (x := 0) (y := 16) (dw_u1 (q := 1632 + 26) rfl ((congrArg (Option.map UInt8.toNat) (dw_st51 26)).trans (by decide +kernel))) (dw_u1 (q := 1632 + 27) rfl ((congrArg (Option.map UInt8.toNat) (dw_st51 27)).trans (by decide +kernel))) (dw_u1 (q := 1632 + 28) rfl ((congrArg (Option.map UInt8.toNat) (dw_st51 28)).trans (by decide +kernel))) (by decide +kernel)
theorem dL_law_1661 : decode cL_law 1661 = .ok (.aload_n 1, 1) := dk_43 (dw_u1 (q := 1632 + 29) rfl ((congrArg (Option.map UInt8.toNat) (dw_st51 29)).trans (by decide +kernel)))
theorem dL_law_1662 : decode cL_law 1662 = .ok (.invokevirtual 251, 3) := dk_182 (x := 0) (y := 251) (dw_u1 (q := 1632 + 30) rfl ((congrArg (Option.map UInt8.toNat) (dw_st51 30)).trans (by decide +kernel))) (dw_u1 (q := 1632 + 31) rfl ((congrArg (Option.map UInt8.toNat) (dw_st51 31)).trans (by decide +kernel))) (dw_u1 (q := 1664 + 0) rfl ((congrArg (Option.map UInt8.toNat) (dw_st52 0)).trans (by decide +kernel))) (by decide +kernel)
theorem dL_law_1665 : decode cL_law 1665 = .ok (.pop2, 1) := by decide +kernel
theorem dL_law_1666 : decode cL_law 1666 = .ok (.aload_n 2, 1) := dk_44 (dw_u1 (q := 1664 + 2) rfl ((congrArg (Option.map UInt8.toNat) (dw_st52 2)).trans (by decide +kernel)))
theorem dL_law_1667 : decode cL_law 1667 = .ok (.invokevirtual 255, 3) := dk_182 (x := 0) (y := 255) (dw_u1 (q := 1664 + 3) rfl ((congrArg (Option.map UInt8.toNat) (dw_st52 3)).trans (by decide +kernel))) (dw_u1 (q := 1664 + 4) rfl ((congrArg (Option.map UInt8.toNat) (dw_st52 4)).trans (by decide +kernel))) (dw_u1 (q := 1664 + 5) rfl ((congrArg (Option.map UInt8.toNat) (dw_st52 5)).trans (by decide +kernel))) (by decide +kernel)
theorem dL_law_1670 : decode cL_law 1670 = .ok (.pop2, 1) := by decide +kernel
theorem dL_law_1671 : decode cL_law 1671 = .ok (.goto 3, 3) := dk_167 (x := 0) (y := 3) (dw_u1 (q := 1664 + 7) rfl ((congrArg (Option.map UInt8.toNat) (dw_st52 7)).trans (by decide +kernel))) (dw_u1 (q := 1664 + 8) rfl ((congrArg (Option.map UInt8.toNat) (dw_st52 8)).trans (by decide +kernel))) (dw_u1 (q := 1664 + 9) rfl ((congrArg (Option.map UInt8.toNat) (dw_st52 9)).trans (by decide +kernel))) (by decide +kernel)
theorem dL_law_1674 : decode cL_law 1674 = .ok (.iinc 4 5, 3) := by decide +kernel
theorem dL_law_1677 : decode cL_law 1677 = .ok (.goto (-1650), 3) := dk_167 (x := 249) (y := 142) (dw_u1 (q := 1664 + 13) rfl ((congrArg (Option.map UInt8.toNat) (dw_st52 13)).trans (by decide +kernel))) (dw_u1 (q := 1664 + 14) rfl ((congrArg (Option.map UInt8.toNat) (dw_st52 14)).trans (by decide +kernel))) (dw_u1 (q := 1664 + 15) rfl ((congrArg (Option.map UInt8.toNat) (dw_st52 15)).trans (by decide +kernel))) (by decide +kernel)
theorem dL_law_1680 : decode cL_law 1680 = .ok (.iconst 1, 1) := dk_4 (dw_u1 (q := 1664 + 16) rfl ((congrArg (Option.map UInt8.toNat) (dw_st52 16)).trans (by decide +kernel)))
theorem dL_law_1681 : decode cL_law 1681 = .ok (.ireturn, 1) := by decide +kernel
