theorem dL_write_0 : decode cL_write 0 = .ok (.aload 5, 2) := by decide +kernel
theorem dL_write_2 : decode cL_write 2 = .ok (.aload_n 0, 1) := by decide +kernel
theorem dL_write_3 : decode cL_write 3 = .ok (.iload_n 1, 1) := by decide +kernel
theorem dL_write_4 : decode cL_write 4 = .ok (.iload_n 2, 1) := by decide +kernel
theorem dL_write_5 : decode cL_write 5 = .ok (.iload_n 3, 1) := by decide +kernel
theorem dL_write_6 : decode cL_write 6 = .ok (.iload 4, 2) := by decide +kernel
theorem dL_write_8 : decode cL_write 8 = .ok (.invokevirtual 7, 3) := by decide +kernel
theorem dL_write_11 : decode cL_write 11 = .ok (.i2l, 1) := by decide +kernel
theorem dL_write_12 : decode cL_write 12 = .ok (.putfield 13, 3) := by decide +kernel
theorem dL_write_15 : decode cL_write 15 = .ok (.goto 15, 3) := by decide +kernel
theorem dL_write_18 : decode cL_write 18 = .ok (.astore 6, 2) := by decide +kernel
theorem dL_write_20 : decode cL_write 20 = .ok (.iconst 1, 1) := by decide +kernel
theorem dL_write_21 : decode cL_write 21 = .ok (.ireturn, 1) := by decide +kernel
theorem dL_write_22 : decode cL_write 22 = .ok (.astore 6, 2) := by decide +kernel
theorem dL_write_24 : decode cL_write 24 = .ok (.iconst 2, 1) := by decide +kernel
theorem dL_write_25 : decode cL_write 25 = .ok (.ireturn, 1) := by decide +kernel
theorem dL_write_26 : decode cL_write 26 = .ok (.astore 6, 2) := by decide +kernel
theorem dL_write_28 : decode cL_write 28 = .ok (.iconst 3, 1) := by decide +kernel
theorem dL_write_29 : decode cL_write 29 = .ok (.ireturn, 1) := by decide +kernel
theorem dL_write_30 : decode cL_write 30 = .ok (.iconst 0, 1) := by decide +kernel
theorem dL_write_31 : decode cL_write 31 = .ok (.ireturn, 1) := by decide +kernel
theorem dL_fill_0 : decode cL_fill 0 = .ok (.aload 4, 2) := by decide +kernel
theorem dL_fill_2 : decode cL_fill 2 = .ok (.aload_n 0, 1) := by decide +kernel
theorem dL_fill_3 : decode cL_fill 3 = .ok (.iload_n 1, 1) := by decide +kernel
theorem dL_fill_4 : decode cL_fill 4 = .ok (.iload_n 2, 1) := by decide +kernel
theorem dL_fill_5 : decode cL_fill 5 = .ok (.iload_n 3, 1) := by decide +kernel
theorem dL_fill_6 : decode cL_fill 6 = .ok (.invokevirtual 25, 3) := by decide +kernel
theorem dL_fill_9 : decode cL_fill 9 = .ok (.i2l, 1) := by decide +kernel
theorem dL_fill_10 : decode cL_fill 10 = .ok (.putfield 13, 3) := by decide +kernel
theorem dL_fill_13 : decode cL_fill 13 = .ok (.goto 11, 3) := by decide +kernel
theorem dL_fill_16 : decode cL_fill 16 = .ok (.astore 5, 2) := by decide +kernel
theorem dL_fill_18 : decode cL_fill 18 = .ok (.iconst 1, 1) := by decide +kernel
theorem dL_fill_19 : decode cL_fill 19 = .ok (.ireturn, 1) := by decide +kernel
theorem dL_fill_20 : decode cL_fill 20 = .ok (.astore 5, 2) := by decide +kernel
theorem dL_fill_22 : decode cL_fill 22 = .ok (.iconst 2, 1) := by decide +kernel
theorem dL_fill_23 : decode cL_fill 23 = .ok (.ireturn, 1) := by decide +kernel
theorem dL_fill_24 : decode cL_fill 24 = .ok (.iconst 0, 1) := by decide +kernel
theorem dL_fill_25 : decode cL_fill 25 = .ok (.ireturn, 1) := by decide +kernel
theorem dL_cut_0 : decode cL_cut 0 = .ok (.aload 4, 2) := by decide +kernel
theorem dL_cut_2 : decode cL_cut 2 = .ok (.aload_n 0, 1) := by decide +kernel
theorem dL_cut_3 : decode cL_cut 3 = .ok (.iload_n 1, 1) := by decide +kernel
theorem dL_cut_4 : decode cL_cut 4 = .ok (.iload_n 2, 1) := by decide +kernel
theorem dL_cut_5 : decode cL_cut 5 = .ok (.iload_n 3, 1) := by decide +kernel
theorem dL_cut_6 : decode cL_cut 6 = .ok (.invokevirtual 29, 3) := by decide +kernel
theorem dL_cut_9 : decode cL_cut 9 = .ok (.i2l, 1) := by decide +kernel
theorem dL_cut_10 : decode cL_cut 10 = .ok (.putfield 13, 3) := by decide +kernel
theorem dL_cut_13 : decode cL_cut 13 = .ok (.goto 11, 3) := by decide +kernel
theorem dL_cut_16 : decode cL_cut 16 = .ok (.astore 5, 2) := by decide +kernel
theorem dL_cut_18 : decode cL_cut 18 = .ok (.iconst 1, 1) := by decide +kernel
theorem dL_cut_19 : decode cL_cut 19 = .ok (.ireturn, 1) := by decide +kernel
theorem dL_cut_20 : decode cL_cut 20 = .ok (.astore 5, 2) := by decide +kernel
theorem dL_cut_22 : decode cL_cut 22 = .ok (.iconst 2, 1) := by decide +kernel
theorem dL_cut_23 : decode cL_cut 23 = .ok (.ireturn, 1) := by decide +kernel
theorem dL_cut_24 : decode cL_cut 24 = .ok (.iconst 0, 1) := by decide +kernel
theorem dL_cut_25 : decode cL_cut 25 = .ok (.ireturn, 1) := by decide +kernel
theorem dL_take_0 : decode cL_take 0 = .ok (.aload 4, 2) := by decide +kernel
theorem dL_take_2 : decode cL_take 2 = .ok (.aload_n 0, 1) := by decide +kernel
theorem dL_take_3 : decode cL_take 3 = .ok (.iload_n 1, 1) := by decide +kernel
theorem dL_take_4 : decode cL_take 4 = .ok (.iload_n 2, 1) := by decide +kernel
theorem dL_take_5 : decode cL_take 5 = .ok (.iload_n 3, 1) := by decide +kernel
theorem dL_take_6 : decode cL_take 6 = .ok (.invokevirtual 32, 3) := by decide +kernel
theorem dL_take_9 : decode cL_take 9 = .ok (.i2l, 1) := by decide +kernel
theorem dL_take_10 : decode cL_take 10 = .ok (.putfield 13, 3) := by decide +kernel
theorem dL_take_13 : decode cL_take 13 = .ok (.goto 11, 3) := by decide +kernel
theorem dL_take_16 : decode cL_take 16 = .ok (.astore 5, 2) := by decide +kernel
theorem dL_take_18 : decode cL_take 18 = .ok (.iconst 1, 1) := by decide +kernel
theorem dL_take_19 : decode cL_take 19 = .ok (.ireturn, 1) := by decide +kernel
theorem dL_take_20 : decode cL_take 20 = .ok (.astore 5, 2) := by decide +kernel
theorem dL_take_22 : decode cL_take 22 = .ok (.iconst 2, 1) := by decide +kernel
theorem dL_take_23 : decode cL_take 23 = .ok (.ireturn, 1) := by decide +kernel
theorem dL_take_24 : decode cL_take 24 = .ok (.iconst 0, 1) := by decide +kernel
theorem dL_take_25 : decode cL_take 25 = .ok (.ireturn, 1) := by decide +kernel
theorem dL_put_0 : decode cL_put 0 = .ok (.aload 4, 2) := by decide +kernel
theorem dL_put_2 : decode cL_put 2 = .ok (.aload_n 0, 1) := by decide +kernel
theorem dL_put_3 : decode cL_put 3 = .ok (.iload_n 1, 1) := by decide +kernel
theorem dL_put_4 : decode cL_put 4 = .ok (.iload_n 2, 1) := by decide +kernel
theorem dL_put_5 : decode cL_put 5 = .ok (.iload_n 3, 1) := by decide +kernel
theorem dL_put_6 : decode cL_put 6 = .ok (.invokevirtual 35, 3) := by decide +kernel
theorem dL_put_9 : decode cL_put 9 = .ok (.i2l, 1) := by decide +kernel
theorem dL_put_10 : decode cL_put 10 = .ok (.putfield 13, 3) := by decide +kernel
theorem dL_put_13 : decode cL_put 13 = .ok (.goto 15, 3) := by decide +kernel
theorem dL_put_16 : decode cL_put 16 = .ok (.astore 5, 2) := by decide +kernel
theorem dL_put_18 : decode cL_put 18 = .ok (.iconst 1, 1) := by decide +kernel
theorem dL_put_19 : decode cL_put 19 = .ok (.ireturn, 1) := by decide +kernel
theorem dL_put_20 : decode cL_put 20 = .ok (.astore 5, 2) := by decide +kernel
theorem dL_put_22 : decode cL_put 22 = .ok (.iconst 2, 1) := by decide +kernel
theorem dL_put_23 : decode cL_put 23 = .ok (.ireturn, 1) := by decide +kernel
theorem dL_put_24 : decode cL_put 24 = .ok (.astore 5, 2) := by decide +kernel
theorem dL_put_26 : decode cL_put 26 = .ok (.iconst 3, 1) := by decide +kernel
theorem dL_put_27 : decode cL_put 27 = .ok (.ireturn, 1) := by decide +kernel
theorem dL_put_28 : decode cL_put 28 = .ok (.iconst 0, 1) := by decide +kernel
theorem dL_put_29 : decode cL_put 29 = .ok (.ireturn, 1) := by decide +kernel
theorem dL_copy_0 : decode cL_copy 0 = .ok (.aload_n 3, 1) := by decide +kernel
theorem dL_copy_1 : decode cL_copy 1 = .ok (.aload_n 0, 1) := by decide +kernel
theorem dL_copy_2 : decode cL_copy 2 = .ok (.iload_n 1, 1) := by decide +kernel
theorem dL_copy_3 : decode cL_copy 3 = .ok (.iload_n 2, 1) := by decide +kernel
theorem dL_copy_4 : decode cL_copy 4 = .ok (.invokevirtual 38, 3) := by decide +kernel
theorem dL_copy_7 : decode cL_copy 7 = .ok (.i2l, 1) := by decide +kernel
theorem dL_copy_8 : decode cL_copy 8 = .ok (.putfield 13, 3) := by decide +kernel
theorem dL_copy_11 : decode cL_copy 11 = .ok (.goto 7, 3) := by decide +kernel
theorem dL_copy_14 : decode cL_copy 14 = .ok (.astore 4, 2) := by decide +kernel
theorem dL_copy_16 : decode cL_copy 16 = .ok (.iconst 1, 1) := by decide +kernel
theorem dL_copy_17 : decode cL_copy 17 = .ok (.ireturn, 1) := by decide +kernel
theorem dL_copy_18 : decode cL_copy 18 = .ok (.iconst 0, 1) := by decide +kernel
theorem dL_copy_19 : decode cL_copy 19 = .ok (.ireturn, 1) := by decide +kernel
theorem dL_leave_0 : decode cL_leave 0 = .ok (.aload_n 2, 1) := by decide +kernel
theorem dL_leave_1 : decode cL_leave 1 = .ok (.aload_n 0, 1) := by decide +kernel
theorem dL_leave_2 : decode cL_leave 2 = .ok (.iload_n 1, 1) := by decide +kernel
theorem dL_leave_3 : decode cL_leave 3 = .ok (.invokevirtual 42, 3) := by decide +kernel
theorem dL_leave_6 : decode cL_leave 6 = .ok (.i2l, 1) := by decide +kernel
theorem dL_leave_7 : decode cL_leave 7 = .ok (.putfield 13, 3) := by decide +kernel
theorem dL_leave_10 : decode cL_leave 10 = .ok (.goto 6, 3) := by decide +kernel
theorem dL_leave_13 : decode cL_leave 13 = .ok (.astore_n 3, 1) := by decide +kernel
theorem dL_leave_14 : decode cL_leave 14 = .ok (.iconst 1, 1) := by decide +kernel
theorem dL_leave_15 : decode cL_leave 15 = .ok (.ireturn, 1) := by decide +kernel
theorem dL_leave_16 : decode cL_leave 16 = .ok (.iconst 0, 1) := by decide +kernel
theorem dL_leave_17 : decode cL_leave 17 = .ok (.ireturn, 1) := by decide +kernel
theorem dL_insides_0 : decode cL_insides 0 = .ok (.aload_n 3, 1) := by decide +kernel
theorem dL_insides_1 : decode cL_insides 1 = .ok (.aload_n 0, 1) := by decide +kernel
theorem dL_insides_2 : decode cL_insides 2 = .ok (.iload_n 1, 1) := by decide +kernel
theorem dL_insides_3 : decode cL_insides 3 = .ok (.iload_n 2, 1) := by decide +kernel
theorem dL_insides_4 : decode cL_insides 4 = .ok (.invokevirtual 46, 3) := by decide +kernel
theorem dL_insides_7 : decode cL_insides 7 = .ok (.i2l, 1) := by decide +kernel
theorem dL_insides_8 : decode cL_insides 8 = .ok (.putfield 13, 3) := by decide +kernel
theorem dL_insides_11 : decode cL_insides 11 = .ok (.goto 15, 3) := by decide +kernel
theorem dL_insides_14 : decode cL_insides 14 = .ok (.astore 4, 2) := by decide +kernel
theorem dL_insides_16 : decode cL_insides 16 = .ok (.iconst 1, 1) := by decide +kernel
theorem dL_insides_17 : decode cL_insides 17 = .ok (.ireturn, 1) := by decide +kernel
theorem dL_insides_18 : decode cL_insides 18 = .ok (.astore 4, 2) := by decide +kernel
theorem dL_insides_20 : decode cL_insides 20 = .ok (.iconst 2, 1) := by decide +kernel
theorem dL_insides_21 : decode cL_insides 21 = .ok (.ireturn, 1) := by decide +kernel
theorem dL_insides_22 : decode cL_insides 22 = .ok (.astore 4, 2) := by decide +kernel
theorem dL_insides_24 : decode cL_insides 24 = .ok (.iconst 3, 1) := by decide +kernel
theorem dL_insides_25 : decode cL_insides 25 = .ok (.ireturn, 1) := by decide +kernel
theorem dL_insides_26 : decode cL_insides 26 = .ok (.iconst 0, 1) := by decide +kernel
theorem dL_insides_27 : decode cL_insides 27 = .ok (.ireturn, 1) := by decide +kernel
theorem dL_text_0 : decode cL_text 0 = .ok (.aload_n 2, 1) := by decide +kernel
theorem dL_text_1 : decode cL_text 1 = .ok (.aload_n 0, 1) := by decide +kernel
theorem dL_text_2 : decode cL_text 2 = .ok (.iload_n 1, 1) := by decide +kernel
theorem dL_text_3 : decode cL_text 3 = .ok (.invokevirtual 49, 3) := by decide +kernel
theorem dL_text_6 : decode cL_text 6 = .ok (.putfield 53, 3) := by decide +kernel
theorem dL_text_9 : decode cL_text 9 = .ok (.goto 6, 3) := by decide +kernel
theorem dL_text_12 : decode cL_text 12 = .ok (.astore_n 3, 1) := by decide +kernel
theorem dL_text_13 : decode cL_text 13 = .ok (.iconst 1, 1) := by decide +kernel
theorem dL_text_14 : decode cL_text 14 = .ok (.ireturn, 1) := by decide +kernel
theorem dL_text_15 : decode cL_text 15 = .ok (.iconst 0, 1) := by decide +kernel
theorem dL_text_16 : decode cL_text 16 = .ok (.ireturn, 1) := by decide +kernel
theorem dL_length_0 : decode cL_length 0 = .ok (.aload_n 2, 1) := by decide +kernel
theorem dL_length_1 : decode cL_length 1 = .ok (.aload_n 0, 1) := by decide +kernel
theorem dL_length_2 : decode cL_length 2 = .ok (.iload_n 1, 1) := by decide +kernel
theorem dL_length_3 : decode cL_length 3 = .ok (.invokevirtual 57, 3) := by decide +kernel
theorem dL_length_6 : decode cL_length 6 = .ok (.i2l, 1) := by decide +kernel
theorem dL_length_7 : decode cL_length 7 = .ok (.putfield 13, 3) := by decide +kernel
theorem dL_length_10 : decode cL_length 10 = .ok (.goto 6, 3) := by decide +kernel
theorem dL_length_13 : decode cL_length 13 = .ok (.astore_n 3, 1) := by decide +kernel
theorem dL_length_14 : decode cL_length 14 = .ok (.iconst 1, 1) := by decide +kernel
theorem dL_length_15 : decode cL_length 15 = .ok (.ireturn, 1) := by decide +kernel
theorem dL_length_16 : decode cL_length 16 = .ok (.iconst 0, 1) := by decide +kernel
theorem dL_length_17 : decode cL_length 17 = .ok (.ireturn, 1) := by decide +kernel
theorem dL_signAt_0 : decode cL_signAt 0 = .ok (.aload_n 3, 1) := by decide +kernel
theorem dL_signAt_1 : decode cL_signAt 1 = .ok (.aload_n 0, 1) := by decide +kernel
theorem dL_signAt_2 : decode cL_signAt 2 = .ok (.iload_n 1, 1) := by decide +kernel
theorem dL_signAt_3 : decode cL_signAt 3 = .ok (.iload_n 2, 1) := by decide +kernel
theorem dL_signAt_4 : decode cL_signAt 4 = .ok (.invokevirtual 60, 3) := by decide +kernel
theorem dL_signAt_7 : decode cL_signAt 7 = .ok (.i2l, 1) := by decide +kernel
theorem dL_signAt_8 : decode cL_signAt 8 = .ok (.putfield 13, 3) := by decide +kernel
theorem dL_signAt_11 : decode cL_signAt 11 = .ok (.goto 7, 3) := by decide +kernel
theorem dL_signAt_14 : decode cL_signAt 14 = .ok (.astore 4, 2) := by decide +kernel
theorem dL_signAt_16 : decode cL_signAt 16 = .ok (.iconst 1, 1) := by decide +kernel
theorem dL_signAt_17 : decode cL_signAt 17 = .ok (.ireturn, 1) := by decide +kernel
theorem dL_signAt_18 : decode cL_signAt 18 = .ok (.iconst 0, 1) := by decide +kernel
theorem dL_signAt_19 : decode cL_signAt 19 = .ok (.ireturn, 1) := by decide +kernel
theorem dL_part_0 : decode cL_part 0 = .ok (.aload 4, 2) := by decide +kernel
theorem dL_part_2 : decode cL_part 2 = .ok (.aload_n 0, 1) := by decide +kernel
theorem dL_part_3 : decode cL_part 3 = .ok (.iload_n 1, 1) := by decide +kernel
theorem dL_part_4 : decode cL_part 4 = .ok (.iload_n 2, 1) := by decide +kernel
theorem dL_part_5 : decode cL_part 5 = .ok (.iload_n 3, 1) := by decide +kernel
theorem dL_part_6 : decode cL_part 6 = .ok (.invokevirtual 63, 3) := by decide +kernel
theorem dL_part_9 : decode cL_part 9 = .ok (.putfield 53, 3) := by decide +kernel
theorem dL_part_12 : decode cL_part 12 = .ok (.goto 7, 3) := by decide +kernel
theorem dL_part_15 : decode cL_part 15 = .ok (.astore 5, 2) := by decide +kernel
theorem dL_part_17 : decode cL_part 17 = .ok (.iconst 1, 1) := by decide +kernel
theorem dL_part_18 : decode cL_part 18 = .ok (.ireturn, 1) := by decide +kernel
theorem dL_part_19 : decode cL_part 19 = .ok (.iconst 0, 1) := by decide +kernel
theorem dL_part_20 : decode cL_part 20 = .ok (.ireturn, 1) := by decide +kernel
theorem dL_isEmpty_0 : decode cL_isEmpty 0 = .ok (.aload_n 2, 1) := by decide +kernel
theorem dL_isEmpty_1 : decode cL_isEmpty 1 = .ok (.aload_n 0, 1) := by decide +kernel
theorem dL_isEmpty_2 : decode cL_isEmpty 2 = .ok (.iload_n 1, 1) := by decide +kernel
theorem dL_isEmpty_3 : decode cL_isEmpty 3 = .ok (.invokevirtual 67, 3) := by decide +kernel
theorem dL_isEmpty_6 : decode cL_isEmpty 6 = .ok (.ifCond .eq 7, 3) := by decide +kernel
theorem dL_isEmpty_9 : decode cL_isEmpty 9 = .ok (.lconst 1, 1) := by decide +kernel
theorem dL_isEmpty_10 : decode cL_isEmpty 10 = .ok (.goto 4, 3) := by decide +kernel
theorem dL_isEmpty_13 : decode cL_isEmpty 13 = .ok (.lconst 0, 1) := by decide +kernel
theorem dL_isEmpty_14 : decode cL_isEmpty 14 = .ok (.putfield 13, 3) := by decide +kernel
theorem dL_isEmpty_17 : decode cL_isEmpty 17 = .ok (.goto 9, 3) := by decide +kernel
theorem dL_isEmpty_20 : decode cL_isEmpty 20 = .ok (.astore_n 3, 1) := by decide +kernel
theorem dL_isEmpty_21 : decode cL_isEmpty 21 = .ok (.iconst 1, 1) := by decide +kernel
theorem dL_isEmpty_22 : decode cL_isEmpty 22 = .ok (.ireturn, 1) := by decide +kernel
theorem dL_isEmpty_23 : decode cL_isEmpty 23 = .ok (.astore_n 3, 1) := by decide +kernel
theorem dL_isEmpty_24 : decode cL_isEmpty 24 = .ok (.iconst 2, 1) := by decide +kernel
theorem dL_isEmpty_25 : decode cL_isEmpty 25 = .ok (.ireturn, 1) := by decide +kernel
theorem dL_isEmpty_26 : decode cL_isEmpty 26 = .ok (.iconst 0, 1) := by decide +kernel
theorem dL_isEmpty_27 : decode cL_isEmpty 27 = .ok (.ireturn, 1) := by decide +kernel
theorem dL_compare_0 : decode cL_compare 0 = .ok (.aload_n 3, 1) := by decide +kernel
theorem dL_compare_1 : decode cL_compare 1 = .ok (.aload_n 0, 1) := by decide +kernel
theorem dL_compare_2 : decode cL_compare 2 = .ok (.iload_n 1, 1) := by decide +kernel
theorem dL_compare_3 : decode cL_compare 3 = .ok (.iload_n 2, 1) := by decide +kernel
theorem dL_compare_4 : decode cL_compare 4 = .ok (.invokevirtual 71, 3) := by decide +kernel
theorem dL_compare_7 : decode cL_compare 7 = .ok (.i2l, 1) := by decide +kernel
theorem dL_compare_8 : decode cL_compare 8 = .ok (.putfield 13, 3) := by decide +kernel
theorem dL_compare_11 : decode cL_compare 11 = .ok (.goto 7, 3) := by decide +kernel
theorem dL_compare_14 : decode cL_compare 14 = .ok (.astore 4, 2) := by decide +kernel
theorem dL_compare_16 : decode cL_compare 16 = .ok (.iconst 1, 1) := by decide +kernel
theorem dL_compare_17 : decode cL_compare 17 = .ok (.ireturn, 1) := by decide +kernel
theorem dL_compare_18 : decode cL_compare 18 = .ok (.iconst 0, 1) := by decide +kernel
theorem dL_compare_19 : decode cL_compare 19 = .ok (.ireturn, 1) := by decide +kernel
theorem dL_compareParts_0 : decode cL_compareParts 0 = .ok (.aload 5, 2) := by decide +kernel
theorem dL_compareParts_2 : decode cL_compareParts 2 = .ok (.aload_n 0, 1) := by decide +kernel
theorem dL_compareParts_3 : decode cL_compareParts 3 = .ok (.iload_n 1, 1) := by decide +kernel
theorem dL_compareParts_4 : decode cL_compareParts 4 = .ok (.iload_n 2, 1) := by decide +kernel
theorem dL_compareParts_5 : decode cL_compareParts 5 = .ok (.iload_n 3, 1) := by decide +kernel
theorem dL_compareParts_6 : decode cL_compareParts 6 = .ok (.iload 4, 2) := by decide +kernel
theorem dL_compareParts_8 : decode cL_compareParts 8 = .ok (.invokevirtual 74, 3) := by decide +kernel
theorem dL_compareParts_11 : decode cL_compareParts 11 = .ok (.i2l, 1) := by decide +kernel
theorem dL_compareParts_12 : decode cL_compareParts 12 = .ok (.putfield 13, 3) := by decide +kernel
theorem dL_compareParts_15 : decode cL_compareParts 15 = .ok (.goto 7, 3) := by decide +kernel
theorem dL_compareParts_18 : decode cL_compareParts 18 = .ok (.astore 6, 2) := by decide +kernel
theorem dL_compareParts_20 : decode cL_compareParts 20 = .ok (.iconst 1, 1) := by decide +kernel
theorem dL_compareParts_21 : decode cL_compareParts 21 = .ok (.ireturn, 1) := by decide +kernel
theorem dL_compareParts_22 : decode cL_compareParts 22 = .ok (.iconst 0, 1) := by decide +kernel
theorem dL_compareParts_23 : decode cL_compareParts 23 = .ok (.ireturn, 1) := by decide +kernel
theorem dL_isLike_0 : decode cL_isLike 0 = .ok (.aload_n 3, 1) := by decide +kernel
theorem dL_isLike_1 : decode cL_isLike 1 = .ok (.aload_n 0, 1) := by decide +kernel
theorem dL_isLike_2 : decode cL_isLike 2 = .ok (.iload_n 1, 1) := by decide +kernel
theorem dL_isLike_3 : decode cL_isLike 3 = .ok (.iload_n 2, 1) := by decide +kernel
theorem dL_isLike_4 : decode cL_isLike 4 = .ok (.invokevirtual 77, 3) := by decide +kernel
theorem dL_isLike_7 : decode cL_isLike 7 = .ok (.i2l, 1) := by decide +kernel
theorem dL_isLike_8 : decode cL_isLike 8 = .ok (.putfield 13, 3) := by decide +kernel
theorem dL_isLike_11 : decode cL_isLike 11 = .ok (.goto 11, 3) := by decide +kernel
theorem dL_isLike_14 : decode cL_isLike 14 = .ok (.astore 4, 2) := by decide +kernel
theorem dL_isLike_16 : decode cL_isLike 16 = .ok (.iconst 1, 1) := by decide +kernel
theorem dL_isLike_17 : decode cL_isLike 17 = .ok (.ireturn, 1) := by decide +kernel
theorem dL_isLike_18 : decode cL_isLike 18 = .ok (.astore 4, 2) := by decide +kernel
theorem dL_isLike_20 : decode cL_isLike 20 = .ok (.iconst 2, 1) := by decide +kernel
theorem dL_isLike_21 : decode cL_isLike 21 = .ok (.ireturn, 1) := by decide +kernel
theorem dL_isLike_22 : decode cL_isLike 22 = .ok (.iconst 0, 1) := by decide +kernel
theorem dL_isLike_23 : decode cL_isLike 23 = .ok (.ireturn, 1) := by decide +kernel
theorem dL_order_0 : decode cL_order 0 = .ok (.aload 4, 2) := by decide +kernel
theorem dL_order_2 : decode cL_order 2 = .ok (.aload_n 0, 1) := by decide +kernel
theorem dL_order_3 : decode cL_order 3 = .ok (.iload_n 1, 1) := by decide +kernel
theorem dL_order_4 : decode cL_order 4 = .ok (.iload_n 2, 1) := by decide +kernel
theorem dL_order_5 : decode cL_order 5 = .ok (.iload_n 3, 1) := by decide +kernel
theorem dL_order_6 : decode cL_order 6 = .ok (.invokevirtual 80, 3) := by decide +kernel
theorem dL_order_9 : decode cL_order 9 = .ok (.i2l, 1) := by decide +kernel
theorem dL_order_10 : decode cL_order 10 = .ok (.putfield 13, 3) := by decide +kernel
theorem dL_order_13 : decode cL_order 13 = .ok (.goto 11, 3) := by decide +kernel
theorem dL_order_16 : decode cL_order 16 = .ok (.astore 5, 2) := by decide +kernel
theorem dL_order_18 : decode cL_order 18 = .ok (.iconst 1, 1) := by decide +kernel
theorem dL_order_19 : decode cL_order 19 = .ok (.ireturn, 1) := by decide +kernel
theorem dL_order_20 : decode cL_order 20 = .ok (.astore 5, 2) := by decide +kernel
theorem dL_order_22 : decode cL_order 22 = .ok (.iconst 2, 1) := by decide +kernel
theorem dL_order_23 : decode cL_order 23 = .ok (.ireturn, 1) := by decide +kernel
theorem dL_order_24 : decode cL_order 24 = .ok (.iconst 0, 1) := by decide +kernel
theorem dL_order_25 : decode cL_order 25 = .ok (.ireturn, 1) := by decide +kernel
theorem dL_ahead_0 : decode cL_ahead 0 = .ok (.aload_n 3, 1) := by decide +kernel
theorem dL_ahead_1 : decode cL_ahead 1 = .ok (.aload_n 0, 1) := by decide +kernel
theorem dL_ahead_2 : decode cL_ahead 2 = .ok (.iload_n 1, 1) := by decide +kernel
theorem dL_ahead_3 : decode cL_ahead 3 = .ok (.iload_n 2, 1) := by decide +kernel
theorem dL_ahead_4 : decode cL_ahead 4 = .ok (.invokevirtual 83, 3) := by decide +kernel
theorem dL_ahead_7 : decode cL_ahead 7 = .ok (.i2l, 1) := by decide +kernel
theorem dL_ahead_8 : decode cL_ahead 8 = .ok (.putfield 13, 3) := by decide +kernel
theorem dL_ahead_11 : decode cL_ahead 11 = .ok (.goto 11, 3) := by decide +kernel
theorem dL_ahead_14 : decode cL_ahead 14 = .ok (.astore 4, 2) := by decide +kernel
theorem dL_ahead_16 : decode cL_ahead 16 = .ok (.iconst 1, 1) := by decide +kernel
theorem dL_ahead_17 : decode cL_ahead 17 = .ok (.ireturn, 1) := by decide +kernel
theorem dL_ahead_18 : decode cL_ahead 18 = .ok (.astore 4, 2) := by decide +kernel
theorem dL_ahead_20 : decode cL_ahead 20 = .ok (.iconst 2, 1) := by decide +kernel
theorem dL_ahead_21 : decode cL_ahead 21 = .ok (.ireturn, 1) := by decide +kernel
theorem dL_ahead_22 : decode cL_ahead 22 = .ok (.iconst 0, 1) := by decide +kernel
theorem dL_ahead_23 : decode cL_ahead 23 = .ok (.ireturn, 1) := by decide +kernel
theorem dL_must_0 : decode cL_must 0 = .ok (.aload_n 2, 1) := by decide +kernel
theorem dL_must_1 : decode cL_must 1 = .ok (.aload_n 0, 1) := by decide +kernel
theorem dL_must_2 : decode cL_must 2 = .ok (.iload_n 1, 1) := by decide +kernel
theorem dL_must_3 : decode cL_must 3 = .ok (.invokevirtual 86, 3) := by decide +kernel
theorem dL_must_6 : decode cL_must 6 = .ok (.i2l, 1) := by decide +kernel
theorem dL_must_7 : decode cL_must 7 = .ok (.putfield 13, 3) := by decide +kernel
theorem dL_must_10 : decode cL_must 10 = .ok (.goto 6, 3) := by decide +kernel
theorem dL_must_13 : decode cL_must 13 = .ok (.astore_n 3, 1) := by decide +kernel
theorem dL_must_14 : decode cL_must 14 = .ok (.iconst 1, 1) := by decide +kernel
theorem dL_must_15 : decode cL_must 15 = .ok (.ireturn, 1) := by decide +kernel
theorem dL_must_16 : decode cL_must 16 = .ok (.iconst 0, 1) := by decide +kernel
theorem dL_must_17 : decode cL_must 17 = .ok (.ireturn, 1) := by decide +kernel
theorem dL_mustSaying_0 : decode cL_mustSaying 0 = .ok (.aload_n 2, 1) := by decide +kernel
theorem dL_mustSaying_1 : decode cL_mustSaying 1 = .ok (.aload_n 0, 1) := by decide +kernel
theorem dL_mustSaying_2 : decode cL_mustSaying 2 = .ok (.iload_n 1, 1) := by decide +kernel
theorem dL_mustSaying_3 : decode cL_mustSaying 3 = .ok (.invokevirtual 89, 3) := by decide +kernel
theorem dL_mustSaying_6 : decode cL_mustSaying 6 = .ok (.i2l, 1) := by decide +kernel
theorem dL_mustSaying_7 : decode cL_mustSaying 7 = .ok (.putfield 13, 3) := by decide +kernel
theorem dL_mustSaying_10 : decode cL_mustSaying 10 = .ok (.goto 6, 3) := by decide +kernel
theorem dL_mustSaying_13 : decode cL_mustSaying 13 = .ok (.astore_n 3, 1) := by decide +kernel
theorem dL_mustSaying_14 : decode cL_mustSaying 14 = .ok (.iconst 1, 1) := by decide +kernel
theorem dL_mustSaying_15 : decode cL_mustSaying 15 = .ok (.ireturn, 1) := by decide +kernel
theorem dL_mustSaying_16 : decode cL_mustSaying 16 = .ok (.iconst 0, 1) := by decide +kernel
theorem dL_mustSaying_17 : decode cL_mustSaying 17 = .ok (.ireturn, 1) := by decide +kernel
theorem dL_orElse_0 : decode cL_orElse 0 = .ok (.aload_n 3, 1) := by decide +kernel
theorem dL_orElse_1 : decode cL_orElse 1 = .ok (.aload_n 0, 1) := by decide +kernel
theorem dL_orElse_2 : decode cL_orElse 2 = .ok (.iload_n 1, 1) := by decide +kernel
theorem dL_orElse_3 : decode cL_orElse 3 = .ok (.iload_n 2, 1) := by decide +kernel
theorem dL_orElse_4 : decode cL_orElse 4 = .ok (.invokevirtual 92, 3) := by decide +kernel
theorem dL_orElse_7 : decode cL_orElse 7 = .ok (.putfield 53, 3) := by decide +kernel
theorem dL_orElse_10 : decode cL_orElse 10 = .ok (.goto 7, 3) := by decide +kernel
theorem dL_orElse_13 : decode cL_orElse 13 = .ok (.astore 4, 2) := by decide +kernel
theorem dL_orElse_15 : decode cL_orElse 15 = .ok (.iconst 1, 1) := by decide +kernel
theorem dL_orElse_16 : decode cL_orElse 16 = .ok (.ireturn, 1) := by decide +kernel
theorem dL_orElse_17 : decode cL_orElse 17 = .ok (.iconst 0, 1) := by decide +kernel
theorem dL_orElse_18 : decode cL_orElse 18 = .ok (.ireturn, 1) := by decide +kernel
theorem dL_orGiven_0 : decode cL_orGiven 0 = .ok (.aload_n 3, 1) := by decide +kernel
theorem dL_orGiven_1 : decode cL_orGiven 1 = .ok (.aload_n 0, 1) := by decide +kernel
theorem dL_orGiven_2 : decode cL_orGiven 2 = .ok (.iload_n 1, 1) := by decide +kernel
theorem dL_orGiven_3 : decode cL_orGiven 3 = .ok (.iload_n 2, 1) := by decide +kernel
theorem dL_orGiven_4 : decode cL_orGiven 4 = .ok (.invokevirtual 96, 3) := by decide +kernel
theorem dL_orGiven_7 : decode cL_orGiven 7 = .ok (.putfield 53, 3) := by decide +kernel
theorem dL_orGiven_10 : decode cL_orGiven 10 = .ok (.goto 7, 3) := by decide +kernel
theorem dL_orGiven_13 : decode cL_orGiven 13 = .ok (.astore 4, 2) := by decide +kernel
theorem dL_orGiven_15 : decode cL_orGiven 15 = .ok (.iconst 1, 1) := by decide +kernel
theorem dL_orGiven_16 : decode cL_orGiven 16 = .ok (.ireturn, 1) := by decide +kernel
theorem dL_orGiven_17 : decode cL_orGiven 17 = .ok (.iconst 0, 1) := by decide +kernel
theorem dL_orGiven_18 : decode cL_orGiven 18 = .ok (.ireturn, 1) := by decide +kernel
theorem dL_isMissing_0 : decode cL_isMissing 0 = .ok (.aload_n 2, 1) := by decide +kernel
theorem dL_isMissing_1 : decode cL_isMissing 1 = .ok (.aload_n 0, 1) := by decide +kernel
theorem dL_isMissing_2 : decode cL_isMissing 2 = .ok (.iload_n 1, 1) := by decide +kernel
theorem dL_isMissing_3 : decode cL_isMissing 3 = .ok (.invokevirtual 99, 3) := by decide +kernel
theorem dL_isMissing_6 : decode cL_isMissing 6 = .ok (.ifCond .eq 7, 3) := by decide +kernel
theorem dL_isMissing_9 : decode cL_isMissing 9 = .ok (.lconst 1, 1) := by decide +kernel
theorem dL_isMissing_10 : decode cL_isMissing 10 = .ok (.goto 4, 3) := by decide +kernel
theorem dL_isMissing_13 : decode cL_isMissing 13 = .ok (.lconst 0, 1) := by decide +kernel
theorem dL_isMissing_14 : decode cL_isMissing 14 = .ok (.putfield 13, 3) := by decide +kernel
theorem dL_isMissing_17 : decode cL_isMissing 17 = .ok (.goto 6, 3) := by decide +kernel
theorem dL_isMissing_20 : decode cL_isMissing 20 = .ok (.astore_n 3, 1) := by decide +kernel
theorem dL_isMissing_21 : decode cL_isMissing 21 = .ok (.iconst 1, 1) := by decide +kernel
theorem dL_isMissing_22 : decode cL_isMissing 22 = .ok (.ireturn, 1) := by decide +kernel
theorem dL_isMissing_23 : decode cL_isMissing 23 = .ok (.iconst 0, 1) := by decide +kernel
theorem dL_isMissing_24 : decode cL_isMissing 24 = .ok (.ireturn, 1) := by decide +kernel
theorem dL_isThere_0 : decode cL_isThere 0 = .ok (.aload_n 2, 1) := by decide +kernel
theorem dL_isThere_1 : decode cL_isThere 1 = .ok (.aload_n 0, 1) := by decide +kernel
theorem dL_isThere_2 : decode cL_isThere 2 = .ok (.iload_n 1, 1) := by decide +kernel
theorem dL_isThere_3 : decode cL_isThere 3 = .ok (.invokevirtual 102, 3) := by decide +kernel
theorem dL_isThere_6 : decode cL_isThere 6 = .ok (.ifCond .eq 7, 3) := by decide +kernel
theorem dL_isThere_9 : decode cL_isThere 9 = .ok (.lconst 1, 1) := by decide +kernel
theorem dL_isThere_10 : decode cL_isThere 10 = .ok (.goto 4, 3) := by decide +kernel
theorem dL_isThere_13 : decode cL_isThere 13 = .ok (.lconst 0, 1) := by decide +kernel
theorem dL_isThere_14 : decode cL_isThere 14 = .ok (.putfield 13, 3) := by decide +kernel
theorem dL_isThere_17 : decode cL_isThere 17 = .ok (.goto 6, 3) := by decide +kernel
theorem dL_isThere_20 : decode cL_isThere 20 = .ok (.astore_n 3, 1) := by decide +kernel
theorem dL_isThere_21 : decode cL_isThere 21 = .ok (.iconst 1, 1) := by decide +kernel
theorem dL_isThere_22 : decode cL_isThere 22 = .ok (.ireturn, 1) := by decide +kernel
theorem dL_isThere_23 : decode cL_isThere 23 = .ok (.iconst 0, 1) := by decide +kernel
theorem dL_isThere_24 : decode cL_isThere 24 = .ok (.ireturn, 1) := by decide +kernel
theorem dL_areSame_0 : decode cL_areSame 0 = .ok (.aload_n 3, 1) := by decide +kernel
theorem dL_areSame_1 : decode cL_areSame 1 = .ok (.aload_n 0, 1) := by decide +kernel
theorem dL_areSame_2 : decode cL_areSame 2 = .ok (.iload_n 1, 1) := by decide +kernel
theorem dL_areSame_3 : decode cL_areSame 3 = .ok (.iload_n 2, 1) := by decide +kernel
theorem dL_areSame_4 : decode cL_areSame 4 = .ok (.invokevirtual 105, 3) := by decide +kernel
theorem dL_areSame_7 : decode cL_areSame 7 = .ok (.ifCond .eq 7, 3) := by decide +kernel
theorem dL_areSame_10 : decode cL_areSame 10 = .ok (.lconst 1, 1) := by decide +kernel
theorem dL_areSame_11 : decode cL_areSame 11 = .ok (.goto 4, 3) := by decide +kernel
theorem dL_areSame_14 : decode cL_areSame 14 = .ok (.lconst 0, 1) := by decide +kernel
theorem dL_areSame_15 : decode cL_areSame 15 = .ok (.putfield 13, 3) := by decide +kernel
theorem dL_areSame_18 : decode cL_areSame 18 = .ok (.goto 7, 3) := by decide +kernel
theorem dL_areSame_21 : decode cL_areSame 21 = .ok (.astore 4, 2) := by decide +kernel
theorem dL_areSame_23 : decode cL_areSame 23 = .ok (.iconst 1, 1) := by decide +kernel
theorem dL_areSame_24 : decode cL_areSame 24 = .ok (.ireturn, 1) := by decide +kernel
theorem dL_areSame_25 : decode cL_areSame 25 = .ok (.iconst 0, 1) := by decide +kernel
theorem dL_areSame_26 : decode cL_areSame 26 = .ok (.ireturn, 1) := by decide +kernel
theorem dL_code_0 : decode cL_code 0 = .ok (.aload_n 2, 1) := by decide +kernel
theorem dL_code_1 : decode cL_code 1 = .ok (.aload_n 0, 1) := by decide +kernel
theorem dL_code_2 : decode cL_code 2 = .ok (.iload_n 1, 1) := by decide +kernel
theorem dL_code_3 : decode cL_code 3 = .ok (.invokevirtual 109, 3) := by decide +kernel
theorem dL_code_6 : decode cL_code 6 = .ok (.i2l, 1) := by decide +kernel
theorem dL_code_7 : decode cL_code 7 = .ok (.putfield 13, 3) := by decide +kernel
theorem dL_code_10 : decode cL_code 10 = .ok (.goto 6, 3) := by decide +kernel
theorem dL_code_13 : decode cL_code 13 = .ok (.astore_n 3, 1) := by decide +kernel
theorem dL_code_14 : decode cL_code 14 = .ok (.iconst 1, 1) := by decide +kernel
theorem dL_code_15 : decode cL_code 15 = .ok (.ireturn, 1) := by decide +kernel
theorem dL_code_16 : decode cL_code 16 = .ok (.iconst 0, 1) := by decide +kernel
theorem dL_code_17 : decode cL_code 17 = .ok (.ireturn, 1) := by decide +kernel
theorem dL_codes_0 : decode cL_codes 0 = .ok (.aload 4, 2) := by decide +kernel
theorem dL_codes_2 : decode cL_codes 2 = .ok (.aload_n 0, 1) := by decide +kernel
theorem dL_codes_3 : decode cL_codes 3 = .ok (.iload_n 1, 1) := by decide +kernel
theorem dL_codes_4 : decode cL_codes 4 = .ok (.iload_n 2, 1) := by decide +kernel
theorem dL_codes_5 : decode cL_codes 5 = .ok (.iload_n 3, 1) := by decide +kernel
theorem dL_codes_6 : decode cL_codes 6 = .ok (.invokevirtual 112, 3) := by decide +kernel
theorem dL_codes_9 : decode cL_codes 9 = .ok (.i2l, 1) := by decide +kernel
theorem dL_codes_10 : decode cL_codes 10 = .ok (.putfield 13, 3) := by decide +kernel
theorem dL_codes_13 : decode cL_codes 13 = .ok (.goto 7, 3) := by decide +kernel
theorem dL_codes_16 : decode cL_codes 16 = .ok (.astore 5, 2) := by decide +kernel
theorem dL_codes_18 : decode cL_codes 18 = .ok (.iconst 1, 1) := by decide +kernel
theorem dL_codes_19 : decode cL_codes 19 = .ok (.ireturn, 1) := by decide +kernel
theorem dL_codes_20 : decode cL_codes 20 = .ok (.iconst 0, 1) := by decide +kernel
theorem dL_codes_21 : decode cL_codes 21 = .ok (.ireturn, 1) := by decide +kernel
theorem dL_house_0 : decode cL_house 0 = .ok (.aload_n 2, 1) := by decide +kernel
theorem dL_house_1 : decode cL_house 1 = .ok (.aload_n 0, 1) := by decide +kernel
theorem dL_house_2 : decode cL_house 2 = .ok (.iload_n 1, 1) := by decide +kernel
theorem dL_house_3 : decode cL_house 3 = .ok (.invokevirtual 115, 3) := by decide +kernel
theorem dL_house_6 : decode cL_house 6 = .ok (.i2l, 1) := by decide +kernel
theorem dL_house_7 : decode cL_house 7 = .ok (.putfield 13, 3) := by decide +kernel
theorem dL_house_10 : decode cL_house 10 = .ok (.goto 6, 3) := by decide +kernel
theorem dL_house_13 : decode cL_house 13 = .ok (.astore_n 3, 1) := by decide +kernel
theorem dL_house_14 : decode cL_house 14 = .ok (.iconst 1, 1) := by decide +kernel
theorem dL_house_15 : decode cL_house 15 = .ok (.ireturn, 1) := by decide +kernel
theorem dL_house_16 : decode cL_house 16 = .ok (.iconst 0, 1) := by decide +kernel
theorem dL_house_17 : decode cL_house 17 = .ok (.ireturn, 1) := by decide +kernel
theorem dC_law_0 : (decode cL_law 0 = .ok (.new 8, 3)) ∧ (decode cL_law 3 = .ok (.dup, 1)) ∧ (decode cL_law 4 = .ok (.invokespecial 118, 3)) ∧ (decode cL_law 7 = .ok (.astore_n 1, 1)) ∧ (decode cL_law 8 = .ok (.new 119, 3)) ∧ (decode cL_law 11 = .ok (.dup, 1)) ∧ (decode cL_law 12 = .ok (.invokespecial 121, 3)) ∧ (decode cL_law 15 = .ok (.astore_n 2, 1)) ∧ (decode cL_law 16 = .ok (.new 14, 3)) ∧ (decode cL_law 19 = .ok (.dup, 1)) ∧ (decode cL_law 20 = .ok (.invokespecial 122, 3)) ∧ (decode cL_law 23 = .ok (.astore_n 3, 1)) ∧ (decode cL_law 24 = .ok (.iconst 0, 1)) ∧ (decode cL_law 25 = .ok (.istore 4, 2)) ∧ (decode cL_law 27 = .ok (.iload 4, 2)) ∧ (decode cL_law 29 = .ok (.aload_n 0, 1)) := by decide +kernel
theorem dL_law_0 : decode cL_law 0 = .ok (.new 8, 3) := dC_law_0.1
theorem dL_law_3 : decode cL_law 3 = .ok (.dup, 1) := dC_law_0.2.1
theorem dL_law_4 : decode cL_law 4 = .ok (.invokespecial 118, 3) := dC_law_0.2.2.1
theorem dL_law_7 : decode cL_law 7 = .ok (.astore_n 1, 1) := dC_law_0.2.2.2.1
theorem dL_law_8 : decode cL_law 8 = .ok (.new 119, 3) := dC_law_0.2.2.2.2.1
theorem dL_law_11 : decode cL_law 11 = .ok (.dup, 1) := dC_law_0.2.2.2.2.2.1
theorem dL_law_12 : decode cL_law 12 = .ok (.invokespecial 121, 3) := dC_law_0.2.2.2.2.2.2.1
theorem dL_law_15 : decode cL_law 15 = .ok (.astore_n 2, 1) := dC_law_0.2.2.2.2.2.2.2.1
theorem dL_law_16 : decode cL_law 16 = .ok (.new 14, 3) := dC_law_0.2.2.2.2.2.2.2.2.1
theorem dL_law_19 : decode cL_law 19 = .ok (.dup, 1) := dC_law_0.2.2.2.2.2.2.2.2.2.1
theorem dL_law_20 : decode cL_law 20 = .ok (.invokespecial 122, 3) := dC_law_0.2.2.2.2.2.2.2.2.2.2.1
theorem dL_law_23 : decode cL_law 23 = .ok (.astore_n 3, 1) := dC_law_0.2.2.2.2.2.2.2.2.2.2.2.1
theorem dL_law_24 : decode cL_law 24 = .ok (.iconst 0, 1) := dC_law_0.2.2.2.2.2.2.2.2.2.2.2.2.1
theorem dL_law_25 : decode cL_law 25 = .ok (.istore 4, 2) := dC_law_0.2.2.2.2.2.2.2.2.2.2.2.2.2.1
theorem dL_law_27 : decode cL_law 27 = .ok (.iload 4, 2) := dC_law_0.2.2.2.2.2.2.2.2.2.2.2.2.2.2.1
theorem dL_law_29 : decode cL_law 29 = .ok (.aload_n 0, 1) := dC_law_0.2.2.2.2.2.2.2.2.2.2.2.2.2.2.2
theorem dC_law_30 : (decode cL_law 30 = .ok (.arraylength, 1)) ∧ (decode cL_law 31 = .ok (.iconst 5, 1)) ∧ (decode cL_law 32 = .ok (.isub, 1)) ∧ (decode cL_law 33 = .ok (.if_icmp .gt 1647, 3)) ∧ (decode cL_law 36 = .ok (.aload_n 0, 1)) ∧ (decode cL_law 37 = .ok (.iload 4, 2)) ∧ (decode cL_law 39 = .ok (.iaload, 1)) ∧ (decode cL_law 40 = .ok (.bipush 63, 2)) ∧ (decode cL_law 42 = .ok (.iand, 1)) ∧ (decode cL_law 43 = .ok (.tableswitch 1631 0 36 #[161, 225, 277, 329, 381, 433, 502, 530, 567, 616, 665, 702, 751, 800, 840, 868, 896, 936, 988, 1016, 1056, 1120, 1160, 1212, 1252, 1280, 1308, 1348, 1388, 1416, 1444, 1484, 1512, 1564, 1577, 1605, 1618], 161)) ∧ (decode cL_law 204 = .ok (.aload_n 1, 1)) ∧ (decode cL_law 205 = .ok (.aload_n 0, 1)) ∧ (decode cL_law 206 = .ok (.iload 4, 2)) ∧ (decode cL_law 208 = .ok (.iconst 1, 1)) ∧ (decode cL_law 209 = .ok (.iadd, 1)) ∧ (decode cL_law 210 = .ok (.iaload, 1)) := by decide +kernel
theorem dL_law_30 : decode cL_law 30 = .ok (.arraylength, 1) := dC_law_30.1
theorem dL_law_31 : decode cL_law 31 = .ok (.iconst 5, 1) := dC_law_30.2.1
theorem dL_law_32 : decode cL_law 32 = .ok (.isub, 1) := dC_law_30.2.2.1
theorem dL_law_33 : decode cL_law 33 = .ok (.if_icmp .gt 1647, 3) := dC_law_30.2.2.2.1
theorem dL_law_36 : decode cL_law 36 = .ok (.aload_n 0, 1) := dC_law_30.2.2.2.2.1
theorem dL_law_37 : decode cL_law 37 = .ok (.iload 4, 2) := dC_law_30.2.2.2.2.2.1
theorem dL_law_39 : decode cL_law 39 = .ok (.iaload, 1) := dC_law_30.2.2.2.2.2.2.1
theorem dL_law_40 : decode cL_law 40 = .ok (.bipush 63, 2) := dC_law_30.2.2.2.2.2.2.2.1
theorem dL_law_42 : decode cL_law 42 = .ok (.iand, 1) := dC_law_30.2.2.2.2.2.2.2.2.1
theorem dL_law_43 : decode cL_law 43 = .ok (.tableswitch 1631 0 36 #[161, 225, 277, 329, 381, 433, 502, 530, 567, 616, 665, 702, 751, 800, 840, 868, 896, 936, 988, 1016, 1056, 1120, 1160, 1212, 1252, 1280, 1308, 1348, 1388, 1416, 1444, 1484, 1512, 1564, 1577, 1605, 1618], 161) := dC_law_30.2.2.2.2.2.2.2.2.2.1
theorem dL_law_204 : decode cL_law 204 = .ok (.aload_n 1, 1) := dC_law_30.2.2.2.2.2.2.2.2.2.2.1
theorem dL_law_205 : decode cL_law 205 = .ok (.aload_n 0, 1) := dC_law_30.2.2.2.2.2.2.2.2.2.2.2.1
theorem dL_law_206 : decode cL_law 206 = .ok (.iload 4, 2) := dC_law_30.2.2.2.2.2.2.2.2.2.2.2.2.1
theorem dL_law_208 : decode cL_law 208 = .ok (.iconst 1, 1) := dC_law_30.2.2.2.2.2.2.2.2.2.2.2.2.2.1
theorem dL_law_209 : decode cL_law 209 = .ok (.iadd, 1) := dC_law_30.2.2.2.2.2.2.2.2.2.2.2.2.2.2.1
theorem dL_law_210 : decode cL_law 210 = .ok (.iaload, 1) := dC_law_30.2.2.2.2.2.2.2.2.2.2.2.2.2.2.2
theorem dC_law_211 : (decode cL_law 211 = .ok (.aload_n 0, 1)) ∧ (decode cL_law 212 = .ok (.iload 4, 2)) ∧ (decode cL_law 214 = .ok (.iconst 2, 1)) ∧ (decode cL_law 215 = .ok (.iadd, 1)) ∧ (decode cL_law 216 = .ok (.iaload, 1)) ∧ (decode cL_law 217 = .ok (.aload_n 0, 1)) ∧ (decode cL_law 218 = .ok (.iload 4, 2)) ∧ (decode cL_law 220 = .ok (.iconst 3, 1)) ∧ (decode cL_law 221 = .ok (.iadd, 1)) ∧ (decode cL_law 222 = .ok (.iaload, 1)) ∧ (decode cL_law 223 = .ok (.aload_n 0, 1)) ∧ (decode cL_law 224 = .ok (.iload 4, 2)) ∧ (decode cL_law 226 = .ok (.iconst 4, 1)) ∧ (decode cL_law 227 = .ok (.iadd, 1)) ∧ (decode cL_law 228 = .ok (.iaload, 1)) ∧ (decode cL_law 229 = .ok (.aload_n 3, 1)) := by decide +kernel
theorem dL_law_211 : decode cL_law 211 = .ok (.aload_n 0, 1) := dC_law_211.1
theorem dL_law_212 : decode cL_law 212 = .ok (.iload 4, 2) := dC_law_211.2.1
theorem dL_law_214 : decode cL_law 214 = .ok (.iconst 2, 1) := dC_law_211.2.2.1
theorem dL_law_215 : decode cL_law 215 = .ok (.iadd, 1) := dC_law_211.2.2.2.1
theorem dL_law_216 : decode cL_law 216 = .ok (.iaload, 1) := dC_law_211.2.2.2.2.1
theorem dL_law_217 : decode cL_law 217 = .ok (.aload_n 0, 1) := dC_law_211.2.2.2.2.2.1
theorem dL_law_218 : decode cL_law 218 = .ok (.iload 4, 2) := dC_law_211.2.2.2.2.2.2.1
theorem dL_law_220 : decode cL_law 220 = .ok (.iconst 3, 1) := dC_law_211.2.2.2.2.2.2.2.1
theorem dL_law_221 : decode cL_law 221 = .ok (.iadd, 1) := dC_law_211.2.2.2.2.2.2.2.2.1
theorem dL_law_222 : decode cL_law 222 = .ok (.iaload, 1) := dC_law_211.2.2.2.2.2.2.2.2.2.1
theorem dL_law_223 : decode cL_law 223 = .ok (.aload_n 0, 1) := dC_law_211.2.2.2.2.2.2.2.2.2.2.1
theorem dL_law_224 : decode cL_law 224 = .ok (.iload 4, 2) := dC_law_211.2.2.2.2.2.2.2.2.2.2.2.1
theorem dL_law_226 : decode cL_law 226 = .ok (.iconst 4, 1) := dC_law_211.2.2.2.2.2.2.2.2.2.2.2.2.1
theorem dL_law_227 : decode cL_law 227 = .ok (.iadd, 1) := dC_law_211.2.2.2.2.2.2.2.2.2.2.2.2.2.1
theorem dL_law_228 : decode cL_law 228 = .ok (.iaload, 1) := dC_law_211.2.2.2.2.2.2.2.2.2.2.2.2.2.2.1
theorem dL_law_229 : decode cL_law 229 = .ok (.aload_n 3, 1) := dC_law_211.2.2.2.2.2.2.2.2.2.2.2.2.2.2.2
theorem dC_law_230 : (decode cL_law 230 = .ok (.invokestatic 123, 3)) ∧ (decode cL_law 233 = .ok (.istore 5, 2)) ∧ (decode cL_law 235 = .ok (.aload_n 2, 1)) ∧ (decode cL_law 236 = .ok (.aload_n 0, 1)) ∧ (decode cL_law 237 = .ok (.iload 4, 2)) ∧ (decode cL_law 239 = .ok (.iconst 1, 1)) ∧ (decode cL_law 240 = .ok (.iadd, 1)) ∧ (decode cL_law 241 = .ok (.iaload, 1)) ∧ (decode cL_law 242 = .ok (.aload_n 0, 1)) ∧ (decode cL_law 243 = .ok (.iload 4, 2)) ∧ (decode cL_law 245 = .ok (.iconst 2, 1)) ∧ (decode cL_law 246 = .ok (.iadd, 1)) ∧ (decode cL_law 247 = .ok (.iaload, 1)) ∧ (decode cL_law 248 = .ok (.aload_n 0, 1)) ∧ (decode cL_law 249 = .ok (.iload 4, 2)) ∧ (decode cL_law 251 = .ok (.iconst 3, 1)) := by decide +kernel
theorem dL_law_230 : decode cL_law 230 = .ok (.invokestatic 123, 3) := dC_law_230.1
theorem dL_law_233 : decode cL_law 233 = .ok (.istore 5, 2) := dC_law_230.2.1
theorem dL_law_235 : decode cL_law 235 = .ok (.aload_n 2, 1) := dC_law_230.2.2.1
theorem dL_law_236 : decode cL_law 236 = .ok (.aload_n 0, 1) := dC_law_230.2.2.2.1
theorem dL_law_237 : decode cL_law 237 = .ok (.iload 4, 2) := dC_law_230.2.2.2.2.1
theorem dL_law_239 : decode cL_law 239 = .ok (.iconst 1, 1) := dC_law_230.2.2.2.2.2.1
theorem dL_law_240 : decode cL_law 240 = .ok (.iadd, 1) := dC_law_230.2.2.2.2.2.2.1
theorem dL_law_241 : decode cL_law 241 = .ok (.iaload, 1) := dC_law_230.2.2.2.2.2.2.2.1
theorem dL_law_242 : decode cL_law 242 = .ok (.aload_n 0, 1) := dC_law_230.2.2.2.2.2.2.2.2.1
theorem dL_law_243 : decode cL_law 243 = .ok (.iload 4, 2) := dC_law_230.2.2.2.2.2.2.2.2.2.1
theorem dL_law_245 : decode cL_law 245 = .ok (.iconst 2, 1) := dC_law_230.2.2.2.2.2.2.2.2.2.2.1
theorem dL_law_246 : decode cL_law 246 = .ok (.iadd, 1) := dC_law_230.2.2.2.2.2.2.2.2.2.2.2.1
theorem dL_law_247 : decode cL_law 247 = .ok (.iaload, 1) := dC_law_230.2.2.2.2.2.2.2.2.2.2.2.2.1
theorem dL_law_248 : decode cL_law 248 = .ok (.aload_n 0, 1) := dC_law_230.2.2.2.2.2.2.2.2.2.2.2.2.2.1
theorem dL_law_249 : decode cL_law 249 = .ok (.iload 4, 2) := dC_law_230.2.2.2.2.2.2.2.2.2.2.2.2.2.2.1
theorem dL_law_251 : decode cL_law 251 = .ok (.iconst 3, 1) := dC_law_230.2.2.2.2.2.2.2.2.2.2.2.2.2.2.2
theorem dC_law_252 : (decode cL_law 252 = .ok (.iadd, 1)) ∧ (decode cL_law 253 = .ok (.iaload, 1)) ∧ (decode cL_law 254 = .ok (.aload_n 0, 1)) ∧ (decode cL_law 255 = .ok (.iload 4, 2)) ∧ (decode cL_law 257 = .ok (.iconst 4, 1)) ∧ (decode cL_law 258 = .ok (.iadd, 1)) ∧ (decode cL_law 259 = .ok (.iaload, 1)) ∧ (decode cL_law 260 = .ok (.invokevirtual 128, 3)) ∧ (decode cL_law 263 = .ok (.istore 6, 2)) ∧ (decode cL_law 265 = .ok (.goto 1409, 3)) ∧ (decode cL_law 268 = .ok (.aload_n 1, 1)) ∧ (decode cL_law 269 = .ok (.aload_n 0, 1)) ∧ (decode cL_law 270 = .ok (.iload 4, 2)) ∧ (decode cL_law 272 = .ok (.iconst 1, 1)) ∧ (decode cL_law 273 = .ok (.iadd, 1)) ∧ (decode cL_law 274 = .ok (.iaload, 1)) := by decide +kernel
theorem dL_law_252 : decode cL_law 252 = .ok (.iadd, 1) := dC_law_252.1
theorem dL_law_253 : decode cL_law 253 = .ok (.iaload, 1) := dC_law_252.2.1
theorem dL_law_254 : decode cL_law 254 = .ok (.aload_n 0, 1) := dC_law_252.2.2.1
theorem dL_law_255 : decode cL_law 255 = .ok (.iload 4, 2) := dC_law_252.2.2.2.1
theorem dL_law_257 : decode cL_law 257 = .ok (.iconst 4, 1) := dC_law_252.2.2.2.2.1
theorem dL_law_258 : decode cL_law 258 = .ok (.iadd, 1) := dC_law_252.2.2.2.2.2.1
theorem dL_law_259 : decode cL_law 259 = .ok (.iaload, 1) := dC_law_252.2.2.2.2.2.2.1
theorem dL_law_260 : decode cL_law 260 = .ok (.invokevirtual 128, 3) := dC_law_252.2.2.2.2.2.2.2.1
theorem dL_law_263 : decode cL_law 263 = .ok (.istore 6, 2) := dC_law_252.2.2.2.2.2.2.2.2.1
theorem dL_law_265 : decode cL_law 265 = .ok (.goto 1409, 3) := dC_law_252.2.2.2.2.2.2.2.2.2.1
theorem dL_law_268 : decode cL_law 268 = .ok (.aload_n 1, 1) := dC_law_252.2.2.2.2.2.2.2.2.2.2.1
theorem dL_law_269 : decode cL_law 269 = .ok (.aload_n 0, 1) := dC_law_252.2.2.2.2.2.2.2.2.2.2.2.1
theorem dL_law_270 : decode cL_law 270 = .ok (.iload 4, 2) := dC_law_252.2.2.2.2.2.2.2.2.2.2.2.2.1
theorem dL_law_272 : decode cL_law 272 = .ok (.iconst 1, 1) := dC_law_252.2.2.2.2.2.2.2.2.2.2.2.2.2.1
theorem dL_law_273 : decode cL_law 273 = .ok (.iadd, 1) := dC_law_252.2.2.2.2.2.2.2.2.2.2.2.2.2.2.1
theorem dL_law_274 : decode cL_law 274 = .ok (.iaload, 1) := dC_law_252.2.2.2.2.2.2.2.2.2.2.2.2.2.2.2
theorem dC_law_275 : (decode cL_law 275 = .ok (.aload_n 0, 1)) ∧ (decode cL_law 276 = .ok (.iload 4, 2)) ∧ (decode cL_law 278 = .ok (.iconst 2, 1)) ∧ (decode cL_law 279 = .ok (.iadd, 1)) ∧ (decode cL_law 280 = .ok (.iaload, 1)) ∧ (decode cL_law 281 = .ok (.aload_n 0, 1)) ∧ (decode cL_law 282 = .ok (.iload 4, 2)) ∧ (decode cL_law 284 = .ok (.iconst 3, 1)) ∧ (decode cL_law 285 = .ok (.iadd, 1)) ∧ (decode cL_law 286 = .ok (.iaload, 1)) ∧ (decode cL_law 287 = .ok (.aload_n 3, 1)) ∧ (decode cL_law 288 = .ok (.invokestatic 129, 3)) ∧ (decode cL_law 291 = .ok (.istore 5, 2)) ∧ (decode cL_law 293 = .ok (.aload_n 2, 1)) ∧ (decode cL_law 294 = .ok (.aload_n 0, 1)) ∧ (decode cL_law 295 = .ok (.iload 4, 2)) := by decide +kernel
theorem dL_law_275 : decode cL_law 275 = .ok (.aload_n 0, 1) := dC_law_275.1
theorem dL_law_276 : decode cL_law 276 = .ok (.iload 4, 2) := dC_law_275.2.1
theorem dL_law_278 : decode cL_law 278 = .ok (.iconst 2, 1) := dC_law_275.2.2.1
theorem dL_law_279 : decode cL_law 279 = .ok (.iadd, 1) := dC_law_275.2.2.2.1
theorem dL_law_280 : decode cL_law 280 = .ok (.iaload, 1) := dC_law_275.2.2.2.2.1
theorem dL_law_281 : decode cL_law 281 = .ok (.aload_n 0, 1) := dC_law_275.2.2.2.2.2.1
theorem dL_law_282 : decode cL_law 282 = .ok (.iload 4, 2) := dC_law_275.2.2.2.2.2.2.1
theorem dL_law_284 : decode cL_law 284 = .ok (.iconst 3, 1) := dC_law_275.2.2.2.2.2.2.2.1
theorem dL_law_285 : decode cL_law 285 = .ok (.iadd, 1) := dC_law_275.2.2.2.2.2.2.2.2.1
theorem dL_law_286 : decode cL_law 286 = .ok (.iaload, 1) := dC_law_275.2.2.2.2.2.2.2.2.2.1
theorem dL_law_287 : decode cL_law 287 = .ok (.aload_n 3, 1) := dC_law_275.2.2.2.2.2.2.2.2.2.2.1
theorem dL_law_288 : decode cL_law 288 = .ok (.invokestatic 129, 3) := dC_law_275.2.2.2.2.2.2.2.2.2.2.2.1
theorem dL_law_291 : decode cL_law 291 = .ok (.istore 5, 2) := dC_law_275.2.2.2.2.2.2.2.2.2.2.2.2.1
theorem dL_law_293 : decode cL_law 293 = .ok (.aload_n 2, 1) := dC_law_275.2.2.2.2.2.2.2.2.2.2.2.2.2.1
theorem dL_law_294 : decode cL_law 294 = .ok (.aload_n 0, 1) := dC_law_275.2.2.2.2.2.2.2.2.2.2.2.2.2.2.1
theorem dL_law_295 : decode cL_law 295 = .ok (.iload 4, 2) := dC_law_275.2.2.2.2.2.2.2.2.2.2.2.2.2.2.2
theorem dC_law_297 : (decode cL_law 297 = .ok (.iconst 1, 1)) ∧ (decode cL_law 298 = .ok (.iadd, 1)) ∧ (decode cL_law 299 = .ok (.iaload, 1)) ∧ (decode cL_law 300 = .ok (.aload_n 0, 1)) ∧ (decode cL_law 301 = .ok (.iload 4, 2)) ∧ (decode cL_law 303 = .ok (.iconst 2, 1)) ∧ (decode cL_law 304 = .ok (.iadd, 1)) ∧ (decode cL_law 305 = .ok (.iaload, 1)) ∧ (decode cL_law 306 = .ok (.aload_n 0, 1)) ∧ (decode cL_law 307 = .ok (.iload 4, 2)) ∧ (decode cL_law 309 = .ok (.iconst 3, 1)) ∧ (decode cL_law 310 = .ok (.iadd, 1)) ∧ (decode cL_law 311 = .ok (.iaload, 1)) ∧ (decode cL_law 312 = .ok (.invokevirtual 132, 3)) ∧ (decode cL_law 315 = .ok (.istore 6, 2)) ∧ (decode cL_law 317 = .ok (.goto 1357, 3)) := by decide +kernel
theorem dL_law_297 : decode cL_law 297 = .ok (.iconst 1, 1) := dC_law_297.1
theorem dL_law_298 : decode cL_law 298 = .ok (.iadd, 1) := dC_law_297.2.1
theorem dL_law_299 : decode cL_law 299 = .ok (.iaload, 1) := dC_law_297.2.2.1
theorem dL_law_300 : decode cL_law 300 = .ok (.aload_n 0, 1) := dC_law_297.2.2.2.1
theorem dL_law_301 : decode cL_law 301 = .ok (.iload 4, 2) := dC_law_297.2.2.2.2.1
theorem dL_law_303 : decode cL_law 303 = .ok (.iconst 2, 1) := dC_law_297.2.2.2.2.2.1
theorem dL_law_304 : decode cL_law 304 = .ok (.iadd, 1) := dC_law_297.2.2.2.2.2.2.1
theorem dL_law_305 : decode cL_law 305 = .ok (.iaload, 1) := dC_law_297.2.2.2.2.2.2.2.1
theorem dL_law_306 : decode cL_law 306 = .ok (.aload_n 0, 1) := dC_law_297.2.2.2.2.2.2.2.2.1
theorem dL_law_307 : decode cL_law 307 = .ok (.iload 4, 2) := dC_law_297.2.2.2.2.2.2.2.2.2.1
theorem dL_law_309 : decode cL_law 309 = .ok (.iconst 3, 1) := dC_law_297.2.2.2.2.2.2.2.2.2.2.1
theorem dL_law_310 : decode cL_law 310 = .ok (.iadd, 1) := dC_law_297.2.2.2.2.2.2.2.2.2.2.2.1
theorem dL_law_311 : decode cL_law 311 = .ok (.iaload, 1) := dC_law_297.2.2.2.2.2.2.2.2.2.2.2.2.1
theorem dL_law_312 : decode cL_law 312 = .ok (.invokevirtual 132, 3) := dC_law_297.2.2.2.2.2.2.2.2.2.2.2.2.2.1
theorem dL_law_315 : decode cL_law 315 = .ok (.istore 6, 2) := dC_law_297.2.2.2.2.2.2.2.2.2.2.2.2.2.2.1
theorem dL_law_317 : decode cL_law 317 = .ok (.goto 1357, 3) := dC_law_297.2.2.2.2.2.2.2.2.2.2.2.2.2.2.2
theorem dC_law_320 : (decode cL_law 320 = .ok (.aload_n 1, 1)) ∧ (decode cL_law 321 = .ok (.aload_n 0, 1)) ∧ (decode cL_law 322 = .ok (.iload 4, 2)) ∧ (decode cL_law 324 = .ok (.iconst 1, 1)) ∧ (decode cL_law 325 = .ok (.iadd, 1)) ∧ (decode cL_law 326 = .ok (.iaload, 1)) ∧ (decode cL_law 327 = .ok (.aload_n 0, 1)) ∧ (decode cL_law 328 = .ok (.iload 4, 2)) ∧ (decode cL_law 330 = .ok (.iconst 2, 1)) ∧ (decode cL_law 331 = .ok (.iadd, 1)) ∧ (decode cL_law 332 = .ok (.iaload, 1)) ∧ (decode cL_law 333 = .ok (.aload_n 0, 1)) ∧ (decode cL_law 334 = .ok (.iload 4, 2)) ∧ (decode cL_law 336 = .ok (.iconst 3, 1)) ∧ (decode cL_law 337 = .ok (.iadd, 1)) ∧ (decode cL_law 338 = .ok (.iaload, 1)) := by decide +kernel
theorem dL_law_320 : decode cL_law 320 = .ok (.aload_n 1, 1) := dC_law_320.1
theorem dL_law_321 : decode cL_law 321 = .ok (.aload_n 0, 1) := dC_law_320.2.1
theorem dL_law_322 : decode cL_law 322 = .ok (.iload 4, 2) := dC_law_320.2.2.1
theorem dL_law_324 : decode cL_law 324 = .ok (.iconst 1, 1) := dC_law_320.2.2.2.1
theorem dL_law_325 : decode cL_law 325 = .ok (.iadd, 1) := dC_law_320.2.2.2.2.1
theorem dL_law_326 : decode cL_law 326 = .ok (.iaload, 1) := dC_law_320.2.2.2.2.2.1
theorem dL_law_327 : decode cL_law 327 = .ok (.aload_n 0, 1) := dC_law_320.2.2.2.2.2.2.1
theorem dL_law_328 : decode cL_law 328 = .ok (.iload 4, 2) := dC_law_320.2.2.2.2.2.2.2.1
theorem dL_law_330 : decode cL_law 330 = .ok (.iconst 2, 1) := dC_law_320.2.2.2.2.2.2.2.2.1
theorem dL_law_331 : decode cL_law 331 = .ok (.iadd, 1) := dC_law_320.2.2.2.2.2.2.2.2.2.1
theorem dL_law_332 : decode cL_law 332 = .ok (.iaload, 1) := dC_law_320.2.2.2.2.2.2.2.2.2.2.1
theorem dL_law_333 : decode cL_law 333 = .ok (.aload_n 0, 1) := dC_law_320.2.2.2.2.2.2.2.2.2.2.2.1
theorem dL_law_334 : decode cL_law 334 = .ok (.iload 4, 2) := dC_law_320.2.2.2.2.2.2.2.2.2.2.2.2.1
theorem dL_law_336 : decode cL_law 336 = .ok (.iconst 3, 1) := dC_law_320.2.2.2.2.2.2.2.2.2.2.2.2.2.1
theorem dL_law_337 : decode cL_law 337 = .ok (.iadd, 1) := dC_law_320.2.2.2.2.2.2.2.2.2.2.2.2.2.2.1
theorem dL_law_338 : decode cL_law 338 = .ok (.iaload, 1) := dC_law_320.2.2.2.2.2.2.2.2.2.2.2.2.2.2.2
theorem dC_law_339 : (decode cL_law 339 = .ok (.aload_n 3, 1)) ∧ (decode cL_law 340 = .ok (.invokestatic 133, 3)) ∧ (decode cL_law 343 = .ok (.istore 5, 2)) ∧ (decode cL_law 345 = .ok (.aload_n 2, 1)) ∧ (decode cL_law 346 = .ok (.aload_n 0, 1)) ∧ (decode cL_law 347 = .ok (.iload 4, 2)) ∧ (decode cL_law 349 = .ok (.iconst 1, 1)) ∧ (decode cL_law 350 = .ok (.iadd, 1)) ∧ (decode cL_law 351 = .ok (.iaload, 1)) ∧ (decode cL_law 352 = .ok (.aload_n 0, 1)) ∧ (decode cL_law 353 = .ok (.iload 4, 2)) ∧ (decode cL_law 355 = .ok (.iconst 2, 1)) ∧ (decode cL_law 356 = .ok (.iadd, 1)) ∧ (decode cL_law 357 = .ok (.iaload, 1)) ∧ (decode cL_law 358 = .ok (.aload_n 0, 1)) ∧ (decode cL_law 359 = .ok (.iload 4, 2)) := by decide +kernel
theorem dL_law_339 : decode cL_law 339 = .ok (.aload_n 3, 1) := dC_law_339.1
theorem dL_law_340 : decode cL_law 340 = .ok (.invokestatic 133, 3) := dC_law_339.2.1
theorem dL_law_343 : decode cL_law 343 = .ok (.istore 5, 2) := dC_law_339.2.2.1
theorem dL_law_345 : decode cL_law 345 = .ok (.aload_n 2, 1) := dC_law_339.2.2.2.1
theorem dL_law_346 : decode cL_law 346 = .ok (.aload_n 0, 1) := dC_law_339.2.2.2.2.1
theorem dL_law_347 : decode cL_law 347 = .ok (.iload 4, 2) := dC_law_339.2.2.2.2.2.1
theorem dL_law_349 : decode cL_law 349 = .ok (.iconst 1, 1) := dC_law_339.2.2.2.2.2.2.1
theorem dL_law_350 : decode cL_law 350 = .ok (.iadd, 1) := dC_law_339.2.2.2.2.2.2.2.1
theorem dL_law_351 : decode cL_law 351 = .ok (.iaload, 1) := dC_law_339.2.2.2.2.2.2.2.2.1
theorem dL_law_352 : decode cL_law 352 = .ok (.aload_n 0, 1) := dC_law_339.2.2.2.2.2.2.2.2.2.1
theorem dL_law_353 : decode cL_law 353 = .ok (.iload 4, 2) := dC_law_339.2.2.2.2.2.2.2.2.2.2.1
theorem dL_law_355 : decode cL_law 355 = .ok (.iconst 2, 1) := dC_law_339.2.2.2.2.2.2.2.2.2.2.2.1
theorem dL_law_356 : decode cL_law 356 = .ok (.iadd, 1) := dC_law_339.2.2.2.2.2.2.2.2.2.2.2.2.1
theorem dL_law_357 : decode cL_law 357 = .ok (.iaload, 1) := dC_law_339.2.2.2.2.2.2.2.2.2.2.2.2.2.1
theorem dL_law_358 : decode cL_law 358 = .ok (.aload_n 0, 1) := dC_law_339.2.2.2.2.2.2.2.2.2.2.2.2.2.2.1
theorem dL_law_359 : decode cL_law 359 = .ok (.iload 4, 2) := dC_law_339.2.2.2.2.2.2.2.2.2.2.2.2.2.2.2
theorem dC_law_361 : (decode cL_law 361 = .ok (.iconst 3, 1)) ∧ (decode cL_law 362 = .ok (.iadd, 1)) ∧ (decode cL_law 363 = .ok (.iaload, 1)) ∧ (decode cL_law 364 = .ok (.invokevirtual 135, 3)) ∧ (decode cL_law 367 = .ok (.istore 6, 2)) ∧ (decode cL_law 369 = .ok (.goto 1305, 3)) ∧ (decode cL_law 372 = .ok (.aload_n 1, 1)) ∧ (decode cL_law 373 = .ok (.aload_n 0, 1)) ∧ (decode cL_law 374 = .ok (.iload 4, 2)) ∧ (decode cL_law 376 = .ok (.iconst 1, 1)) ∧ (decode cL_law 377 = .ok (.iadd, 1)) ∧ (decode cL_law 378 = .ok (.iaload, 1)) ∧ (decode cL_law 379 = .ok (.aload_n 0, 1)) ∧ (decode cL_law 380 = .ok (.iload 4, 2)) ∧ (decode cL_law 382 = .ok (.iconst 2, 1)) ∧ (decode cL_law 383 = .ok (.iadd, 1)) := by decide +kernel
theorem dL_law_361 : decode cL_law 361 = .ok (.iconst 3, 1) := dC_law_361.1
theorem dL_law_362 : decode cL_law 362 = .ok (.iadd, 1) := dC_law_361.2.1
theorem dL_law_363 : decode cL_law 363 = .ok (.iaload, 1) := dC_law_361.2.2.1
theorem dL_law_364 : decode cL_law 364 = .ok (.invokevirtual 135, 3) := dC_law_361.2.2.2.1
theorem dL_law_367 : decode cL_law 367 = .ok (.istore 6, 2) := dC_law_361.2.2.2.2.1
theorem dL_law_369 : decode cL_law 369 = .ok (.goto 1305, 3) := dC_law_361.2.2.2.2.2.1
theorem dL_law_372 : decode cL_law 372 = .ok (.aload_n 1, 1) := dC_law_361.2.2.2.2.2.2.1
theorem dL_law_373 : decode cL_law 373 = .ok (.aload_n 0, 1) := dC_law_361.2.2.2.2.2.2.2.1
theorem dL_law_374 : decode cL_law 374 = .ok (.iload 4, 2) := dC_law_361.2.2.2.2.2.2.2.2.1
theorem dL_law_376 : decode cL_law 376 = .ok (.iconst 1, 1) := dC_law_361.2.2.2.2.2.2.2.2.2.1
theorem dL_law_377 : decode cL_law 377 = .ok (.iadd, 1) := dC_law_361.2.2.2.2.2.2.2.2.2.2.1
theorem dL_law_378 : decode cL_law 378 = .ok (.iaload, 1) := dC_law_361.2.2.2.2.2.2.2.2.2.2.2.1
theorem dL_law_379 : decode cL_law 379 = .ok (.aload_n 0, 1) := dC_law_361.2.2.2.2.2.2.2.2.2.2.2.2.1
theorem dL_law_380 : decode cL_law 380 = .ok (.iload 4, 2) := dC_law_361.2.2.2.2.2.2.2.2.2.2.2.2.2.1
theorem dL_law_382 : decode cL_law 382 = .ok (.iconst 2, 1) := dC_law_361.2.2.2.2.2.2.2.2.2.2.2.2.2.2.1
theorem dL_law_383 : decode cL_law 383 = .ok (.iadd, 1) := dC_law_361.2.2.2.2.2.2.2.2.2.2.2.2.2.2.2
theorem dC_law_384 : (decode cL_law 384 = .ok (.iaload, 1)) ∧ (decode cL_law 385 = .ok (.aload_n 0, 1)) ∧ (decode cL_law 386 = .ok (.iload 4, 2)) ∧ (decode cL_law 388 = .ok (.iconst 3, 1)) ∧ (decode cL_law 389 = .ok (.iadd, 1)) ∧ (decode cL_law 390 = .ok (.iaload, 1)) ∧ (decode cL_law 391 = .ok (.aload_n 3, 1)) ∧ (decode cL_law 392 = .ok (.invokestatic 136, 3)) ∧ (decode cL_law 395 = .ok (.istore 5, 2)) ∧ (decode cL_law 397 = .ok (.aload_n 2, 1)) ∧ (decode cL_law 398 = .ok (.aload_n 0, 1)) ∧ (decode cL_law 399 = .ok (.iload 4, 2)) ∧ (decode cL_law 401 = .ok (.iconst 1, 1)) ∧ (decode cL_law 402 = .ok (.iadd, 1)) ∧ (decode cL_law 403 = .ok (.iaload, 1)) ∧ (decode cL_law 404 = .ok (.aload_n 0, 1)) := by decide +kernel
theorem dL_law_384 : decode cL_law 384 = .ok (.iaload, 1) := dC_law_384.1
theorem dL_law_385 : decode cL_law 385 = .ok (.aload_n 0, 1) := dC_law_384.2.1
theorem dL_law_386 : decode cL_law 386 = .ok (.iload 4, 2) := dC_law_384.2.2.1
theorem dL_law_388 : decode cL_law 388 = .ok (.iconst 3, 1) := dC_law_384.2.2.2.1
theorem dL_law_389 : decode cL_law 389 = .ok (.iadd, 1) := dC_law_384.2.2.2.2.1
theorem dL_law_390 : decode cL_law 390 = .ok (.iaload, 1) := dC_law_384.2.2.2.2.2.1
theorem dL_law_391 : decode cL_law 391 = .ok (.aload_n 3, 1) := dC_law_384.2.2.2.2.2.2.1
theorem dL_law_392 : decode cL_law 392 = .ok (.invokestatic 136, 3) := dC_law_384.2.2.2.2.2.2.2.1
theorem dL_law_395 : decode cL_law 395 = .ok (.istore 5, 2) := dC_law_384.2.2.2.2.2.2.2.2.1
theorem dL_law_397 : decode cL_law 397 = .ok (.aload_n 2, 1) := dC_law_384.2.2.2.2.2.2.2.2.2.1
theorem dL_law_398 : decode cL_law 398 = .ok (.aload_n 0, 1) := dC_law_384.2.2.2.2.2.2.2.2.2.2.1
theorem dL_law_399 : decode cL_law 399 = .ok (.iload 4, 2) := dC_law_384.2.2.2.2.2.2.2.2.2.2.2.1
theorem dL_law_401 : decode cL_law 401 = .ok (.iconst 1, 1) := dC_law_384.2.2.2.2.2.2.2.2.2.2.2.2.1
theorem dL_law_402 : decode cL_law 402 = .ok (.iadd, 1) := dC_law_384.2.2.2.2.2.2.2.2.2.2.2.2.2.1
theorem dL_law_403 : decode cL_law 403 = .ok (.iaload, 1) := dC_law_384.2.2.2.2.2.2.2.2.2.2.2.2.2.2.1
theorem dL_law_404 : decode cL_law 404 = .ok (.aload_n 0, 1) := dC_law_384.2.2.2.2.2.2.2.2.2.2.2.2.2.2.2
theorem dC_law_405 : (decode cL_law 405 = .ok (.iload 4, 2)) ∧ (decode cL_law 407 = .ok (.iconst 2, 1)) ∧ (decode cL_law 408 = .ok (.iadd, 1)) ∧ (decode cL_law 409 = .ok (.iaload, 1)) ∧ (decode cL_law 410 = .ok (.aload_n 0, 1)) ∧ (decode cL_law 411 = .ok (.iload 4, 2)) ∧ (decode cL_law 413 = .ok (.iconst 3, 1)) ∧ (decode cL_law 414 = .ok (.iadd, 1)) ∧ (decode cL_law 415 = .ok (.iaload, 1)) ∧ (decode cL_law 416 = .ok (.invokevirtual 138, 3)) ∧ (decode cL_law 419 = .ok (.istore 6, 2)) ∧ (decode cL_law 421 = .ok (.goto 1253, 3)) ∧ (decode cL_law 424 = .ok (.aload_n 1, 1)) ∧ (decode cL_law 425 = .ok (.aload_n 0, 1)) ∧ (decode cL_law 426 = .ok (.iload 4, 2)) ∧ (decode cL_law 428 = .ok (.iconst 1, 1)) := by decide +kernel
theorem dL_law_405 : decode cL_law 405 = .ok (.iload 4, 2) := dC_law_405.1
theorem dL_law_407 : decode cL_law 407 = .ok (.iconst 2, 1) := dC_law_405.2.1
theorem dL_law_408 : decode cL_law 408 = .ok (.iadd, 1) := dC_law_405.2.2.1
theorem dL_law_409 : decode cL_law 409 = .ok (.iaload, 1) := dC_law_405.2.2.2.1
theorem dL_law_410 : decode cL_law 410 = .ok (.aload_n 0, 1) := dC_law_405.2.2.2.2.1
theorem dL_law_411 : decode cL_law 411 = .ok (.iload 4, 2) := dC_law_405.2.2.2.2.2.1
theorem dL_law_413 : decode cL_law 413 = .ok (.iconst 3, 1) := dC_law_405.2.2.2.2.2.2.1
theorem dL_law_414 : decode cL_law 414 = .ok (.iadd, 1) := dC_law_405.2.2.2.2.2.2.2.1
theorem dL_law_415 : decode cL_law 415 = .ok (.iaload, 1) := dC_law_405.2.2.2.2.2.2.2.2.1
theorem dL_law_416 : decode cL_law 416 = .ok (.invokevirtual 138, 3) := dC_law_405.2.2.2.2.2.2.2.2.2.1
theorem dL_law_419 : decode cL_law 419 = .ok (.istore 6, 2) := dC_law_405.2.2.2.2.2.2.2.2.2.2.1
theorem dL_law_421 : decode cL_law 421 = .ok (.goto 1253, 3) := dC_law_405.2.2.2.2.2.2.2.2.2.2.2.1
theorem dL_law_424 : decode cL_law 424 = .ok (.aload_n 1, 1) := dC_law_405.2.2.2.2.2.2.2.2.2.2.2.2.1
theorem dL_law_425 : decode cL_law 425 = .ok (.aload_n 0, 1) := dC_law_405.2.2.2.2.2.2.2.2.2.2.2.2.2.1
theorem dL_law_426 : decode cL_law 426 = .ok (.iload 4, 2) := dC_law_405.2.2.2.2.2.2.2.2.2.2.2.2.2.2.1
theorem dL_law_428 : decode cL_law 428 = .ok (.iconst 1, 1) := dC_law_405.2.2.2.2.2.2.2.2.2.2.2.2.2.2.2
theorem dC_law_429 : (decode cL_law 429 = .ok (.iadd, 1)) ∧ (decode cL_law 430 = .ok (.iaload, 1)) ∧ (decode cL_law 431 = .ok (.aload_n 0, 1)) ∧ (decode cL_law 432 = .ok (.iload 4, 2)) ∧ (decode cL_law 434 = .ok (.iconst 2, 1)) ∧ (decode cL_law 435 = .ok (.iadd, 1)) ∧ (decode cL_law 436 = .ok (.iaload, 1)) ∧ (decode cL_law 437 = .ok (.aload_n 0, 1)) ∧ (decode cL_law 438 = .ok (.iload 4, 2)) ∧ (decode cL_law 440 = .ok (.iconst 3, 1)) ∧ (decode cL_law 441 = .ok (.iadd, 1)) ∧ (decode cL_law 442 = .ok (.iaload, 1)) ∧ (decode cL_law 443 = .ok (.aload_n 3, 1)) ∧ (decode cL_law 444 = .ok (.invokestatic 139, 3)) ∧ (decode cL_law 447 = .ok (.istore 5, 2)) ∧ (decode cL_law 449 = .ok (.aload_n 2, 1)) := by decide +kernel
theorem dL_law_429 : decode cL_law 429 = .ok (.iadd, 1) := dC_law_429.1
theorem dL_law_430 : decode cL_law 430 = .ok (.iaload, 1) := dC_law_429.2.1
theorem dL_law_431 : decode cL_law 431 = .ok (.aload_n 0, 1) := dC_law_429.2.2.1
theorem dL_law_432 : decode cL_law 432 = .ok (.iload 4, 2) := dC_law_429.2.2.2.1
theorem dL_law_434 : decode cL_law 434 = .ok (.iconst 2, 1) := dC_law_429.2.2.2.2.1
theorem dL_law_435 : decode cL_law 435 = .ok (.iadd, 1) := dC_law_429.2.2.2.2.2.1
theorem dL_law_436 : decode cL_law 436 = .ok (.iaload, 1) := dC_law_429.2.2.2.2.2.2.1
theorem dL_law_437 : decode cL_law 437 = .ok (.aload_n 0, 1) := dC_law_429.2.2.2.2.2.2.2.1
theorem dL_law_438 : decode cL_law 438 = .ok (.iload 4, 2) := dC_law_429.2.2.2.2.2.2.2.2.1
theorem dL_law_440 : decode cL_law 440 = .ok (.iconst 3, 1) := dC_law_429.2.2.2.2.2.2.2.2.2.1
theorem dL_law_441 : decode cL_law 441 = .ok (.iadd, 1) := dC_law_429.2.2.2.2.2.2.2.2.2.2.1
theorem dL_law_442 : decode cL_law 442 = .ok (.iaload, 1) := dC_law_429.2.2.2.2.2.2.2.2.2.2.2.1
theorem dL_law_443 : decode cL_law 443 = .ok (.aload_n 3, 1) := dC_law_429.2.2.2.2.2.2.2.2.2.2.2.2.1
theorem dL_law_444 : decode cL_law 444 = .ok (.invokestatic 139, 3) := dC_law_429.2.2.2.2.2.2.2.2.2.2.2.2.2.1
theorem dL_law_447 : decode cL_law 447 = .ok (.istore 5, 2) := dC_law_429.2.2.2.2.2.2.2.2.2.2.2.2.2.2.1
theorem dL_law_449 : decode cL_law 449 = .ok (.aload_n 2, 1) := dC_law_429.2.2.2.2.2.2.2.2.2.2.2.2.2.2.2
theorem dC_law_450 : (decode cL_law 450 = .ok (.aload_n 0, 1)) ∧ (decode cL_law 451 = .ok (.iload 4, 2)) ∧ (decode cL_law 453 = .ok (.iconst 1, 1)) ∧ (decode cL_law 454 = .ok (.iadd, 1)) ∧ (decode cL_law 455 = .ok (.iaload, 1)) ∧ (decode cL_law 456 = .ok (.aload_n 0, 1)) ∧ (decode cL_law 457 = .ok (.iload 4, 2)) ∧ (decode cL_law 459 = .ok (.iconst 2, 1)) ∧ (decode cL_law 460 = .ok (.iadd, 1)) ∧ (decode cL_law 461 = .ok (.iaload, 1)) ∧ (decode cL_law 462 = .ok (.aload_n 0, 1)) ∧ (decode cL_law 463 = .ok (.iload 4, 2)) ∧ (decode cL_law 465 = .ok (.iconst 3, 1)) ∧ (decode cL_law 466 = .ok (.iadd, 1)) ∧ (decode cL_law 467 = .ok (.iaload, 1)) ∧ (decode cL_law 468 = .ok (.invokevirtual 141, 3)) := by decide +kernel
theorem dL_law_450 : decode cL_law 450 = .ok (.aload_n 0, 1) := dC_law_450.1
theorem dL_law_451 : decode cL_law 451 = .ok (.iload 4, 2) := dC_law_450.2.1
theorem dL_law_453 : decode cL_law 453 = .ok (.iconst 1, 1) := dC_law_450.2.2.1
theorem dL_law_454 : decode cL_law 454 = .ok (.iadd, 1) := dC_law_450.2.2.2.1
theorem dL_law_455 : decode cL_law 455 = .ok (.iaload, 1) := dC_law_450.2.2.2.2.1
theorem dL_law_456 : decode cL_law 456 = .ok (.aload_n 0, 1) := dC_law_450.2.2.2.2.2.1
theorem dL_law_457 : decode cL_law 457 = .ok (.iload 4, 2) := dC_law_450.2.2.2.2.2.2.1
theorem dL_law_459 : decode cL_law 459 = .ok (.iconst 2, 1) := dC_law_450.2.2.2.2.2.2.2.1
theorem dL_law_460 : decode cL_law 460 = .ok (.iadd, 1) := dC_law_450.2.2.2.2.2.2.2.2.1
theorem dL_law_461 : decode cL_law 461 = .ok (.iaload, 1) := dC_law_450.2.2.2.2.2.2.2.2.2.1
theorem dL_law_462 : decode cL_law 462 = .ok (.aload_n 0, 1) := dC_law_450.2.2.2.2.2.2.2.2.2.2.1
theorem dL_law_463 : decode cL_law 463 = .ok (.iload 4, 2) := dC_law_450.2.2.2.2.2.2.2.2.2.2.2.1
theorem dL_law_465 : decode cL_law 465 = .ok (.iconst 3, 1) := dC_law_450.2.2.2.2.2.2.2.2.2.2.2.2.1
theorem dL_law_466 : decode cL_law 466 = .ok (.iadd, 1) := dC_law_450.2.2.2.2.2.2.2.2.2.2.2.2.2.1
theorem dL_law_467 : decode cL_law 467 = .ok (.iaload, 1) := dC_law_450.2.2.2.2.2.2.2.2.2.2.2.2.2.2.1
theorem dL_law_468 : decode cL_law 468 = .ok (.invokevirtual 141, 3) := dC_law_450.2.2.2.2.2.2.2.2.2.2.2.2.2.2.2
theorem dC_law_471 : (decode cL_law 471 = .ok (.istore 6, 2)) ∧ (decode cL_law 473 = .ok (.goto 1201, 3)) ∧ (decode cL_law 476 = .ok (.aload_n 1, 1)) ∧ (decode cL_law 477 = .ok (.aload_n 0, 1)) ∧ (decode cL_law 478 = .ok (.iload 4, 2)) ∧ (decode cL_law 480 = .ok (.iconst 1, 1)) ∧ (decode cL_law 481 = .ok (.iadd, 1)) ∧ (decode cL_law 482 = .ok (.iaload, 1)) ∧ (decode cL_law 483 = .ok (.aload_n 0, 1)) ∧ (decode cL_law 484 = .ok (.iload 4, 2)) ∧ (decode cL_law 486 = .ok (.iconst 2, 1)) ∧ (decode cL_law 487 = .ok (.iadd, 1)) ∧ (decode cL_law 488 = .ok (.iaload, 1)) ∧ (decode cL_law 489 = .ok (.aload_n 3, 1)) ∧ (decode cL_law 490 = .ok (.invokestatic 142, 3)) ∧ (decode cL_law 493 = .ok (.istore 5, 2)) := by decide +kernel
theorem dL_law_471 : decode cL_law 471 = .ok (.istore 6, 2) := dC_law_471.1
theorem dL_law_473 : decode cL_law 473 = .ok (.goto 1201, 3) := dC_law_471.2.1
theorem dL_law_476 : decode cL_law 476 = .ok (.aload_n 1, 1) := dC_law_471.2.2.1
theorem dL_law_477 : decode cL_law 477 = .ok (.aload_n 0, 1) := dC_law_471.2.2.2.1
theorem dL_law_478 : decode cL_law 478 = .ok (.iload 4, 2) := dC_law_471.2.2.2.2.1
theorem dL_law_480 : decode cL_law 480 = .ok (.iconst 1, 1) := dC_law_471.2.2.2.2.2.1
theorem dL_law_481 : decode cL_law 481 = .ok (.iadd, 1) := dC_law_471.2.2.2.2.2.2.1
theorem dL_law_482 : decode cL_law 482 = .ok (.iaload, 1) := dC_law_471.2.2.2.2.2.2.2.1
theorem dL_law_483 : decode cL_law 483 = .ok (.aload_n 0, 1) := dC_law_471.2.2.2.2.2.2.2.2.1
theorem dL_law_484 : decode cL_law 484 = .ok (.iload 4, 2) := dC_law_471.2.2.2.2.2.2.2.2.2.1
theorem dL_law_486 : decode cL_law 486 = .ok (.iconst 2, 1) := dC_law_471.2.2.2.2.2.2.2.2.2.2.1
theorem dL_law_487 : decode cL_law 487 = .ok (.iadd, 1) := dC_law_471.2.2.2.2.2.2.2.2.2.2.2.1
theorem dL_law_488 : decode cL_law 488 = .ok (.iaload, 1) := dC_law_471.2.2.2.2.2.2.2.2.2.2.2.2.1
theorem dL_law_489 : decode cL_law 489 = .ok (.aload_n 3, 1) := dC_law_471.2.2.2.2.2.2.2.2.2.2.2.2.2.1
theorem dL_law_490 : decode cL_law 490 = .ok (.invokestatic 142, 3) := dC_law_471.2.2.2.2.2.2.2.2.2.2.2.2.2.2.1
theorem dL_law_493 : decode cL_law 493 = .ok (.istore 5, 2) := dC_law_471.2.2.2.2.2.2.2.2.2.2.2.2.2.2.2
theorem dC_law_495 : (decode cL_law 495 = .ok (.aload_n 2, 1)) ∧ (decode cL_law 496 = .ok (.aload_n 0, 1)) ∧ (decode cL_law 497 = .ok (.iload 4, 2)) ∧ (decode cL_law 499 = .ok (.iconst 1, 1)) ∧ (decode cL_law 500 = .ok (.iadd, 1)) ∧ (decode cL_law 501 = .ok (.iaload, 1)) ∧ (decode cL_law 502 = .ok (.aload_n 0, 1)) ∧ (decode cL_law 503 = .ok (.iload 4, 2)) ∧ (decode cL_law 505 = .ok (.iconst 2, 1)) ∧ (decode cL_law 506 = .ok (.iadd, 1)) ∧ (decode cL_law 507 = .ok (.iaload, 1)) ∧ (decode cL_law 508 = .ok (.invokevirtual 145, 3)) ∧ (decode cL_law 511 = .ok (.istore 6, 2)) ∧ (decode cL_law 513 = .ok (.aload_n 2, 1)) ∧ (decode cL_law 514 = .ok (.invokevirtual 146, 3)) ∧ (decode cL_law 517 = .ok (.iload 5, 2)) := by decide +kernel
theorem dL_law_495 : decode cL_law 495 = .ok (.aload_n 2, 1) := dC_law_495.1
theorem dL_law_496 : decode cL_law 496 = .ok (.aload_n 0, 1) := dC_law_495.2.1
theorem dL_law_497 : decode cL_law 497 = .ok (.iload 4, 2) := dC_law_495.2.2.1
theorem dL_law_499 : decode cL_law 499 = .ok (.iconst 1, 1) := dC_law_495.2.2.2.1
theorem dL_law_500 : decode cL_law 500 = .ok (.iadd, 1) := dC_law_495.2.2.2.2.1
theorem dL_law_501 : decode cL_law 501 = .ok (.iaload, 1) := dC_law_495.2.2.2.2.2.1
theorem dL_law_502 : decode cL_law 502 = .ok (.aload_n 0, 1) := dC_law_495.2.2.2.2.2.2.1
theorem dL_law_503 : decode cL_law 503 = .ok (.iload 4, 2) := dC_law_495.2.2.2.2.2.2.2.1
theorem dL_law_505 : decode cL_law 505 = .ok (.iconst 2, 1) := dC_law_495.2.2.2.2.2.2.2.2.1
theorem dL_law_506 : decode cL_law 506 = .ok (.iadd, 1) := dC_law_495.2.2.2.2.2.2.2.2.2.1
theorem dL_law_507 : decode cL_law 507 = .ok (.iaload, 1) := dC_law_495.2.2.2.2.2.2.2.2.2.2.1
theorem dL_law_508 : decode cL_law 508 = .ok (.invokevirtual 145, 3) := dC_law_495.2.2.2.2.2.2.2.2.2.2.2.1
theorem dL_law_511 : decode cL_law 511 = .ok (.istore 6, 2) := dC_law_495.2.2.2.2.2.2.2.2.2.2.2.2.1
theorem dL_law_513 : decode cL_law 513 = .ok (.aload_n 2, 1) := dC_law_495.2.2.2.2.2.2.2.2.2.2.2.2.2.1
theorem dL_law_514 : decode cL_law 514 = .ok (.invokevirtual 146, 3) := dC_law_495.2.2.2.2.2.2.2.2.2.2.2.2.2.2.1
theorem dL_law_517 : decode cL_law 517 = .ok (.iload 5, 2) := dC_law_495.2.2.2.2.2.2.2.2.2.2.2.2.2.2.2
theorem dC_law_519 : (decode cL_law 519 = .ok (.if_icmp .eq 5, 3)) ∧ (decode cL_law 524 = .ok (.iload 5, 2)) ∧ (decode cL_law 526 = .ok (.ifCond .ne 16, 3)) ∧ (decode cL_law 529 = .ok (.aload_n 3, 1)) ∧ (decode cL_law 530 = .ok (.getfield 13, 3)) ∧ (decode cL_law 533 = .ok (.iload 6, 2)) ∧ (decode cL_law 535 = .ok (.i2l, 1)) ∧ (decode cL_law 536 = .ok (.lcmp, 1)) ∧ (decode cL_law 537 = .ok (.ifCond .eq 5, 3)) ∧ (decode cL_law 542 = .ok (.goto 1132, 3)) ∧ (decode cL_law 545 = .ok (.aload_n 1, 1)) ∧ (decode cL_law 546 = .ok (.aload_n 0, 1)) ∧ (decode cL_law 547 = .ok (.iload 4, 2)) ∧ (decode cL_law 549 = .ok (.iconst 1, 1)) ∧ (decode cL_law 550 = .ok (.iadd, 1)) ∧ (decode cL_law 551 = .ok (.iaload, 1)) := by decide +kernel
theorem dL_law_519 : decode cL_law 519 = .ok (.if_icmp .eq 5, 3) := dC_law_519.1
theorem dL_law_524 : decode cL_law 524 = .ok (.iload 5, 2) := dC_law_519.2.1
theorem dL_law_526 : decode cL_law 526 = .ok (.ifCond .ne 16, 3) := dC_law_519.2.2.1
theorem dL_law_529 : decode cL_law 529 = .ok (.aload_n 3, 1) := dC_law_519.2.2.2.1
theorem dL_law_530 : decode cL_law 530 = .ok (.getfield 13, 3) := dC_law_519.2.2.2.2.1
theorem dL_law_533 : decode cL_law 533 = .ok (.iload 6, 2) := dC_law_519.2.2.2.2.2.1
theorem dL_law_535 : decode cL_law 535 = .ok (.i2l, 1) := dC_law_519.2.2.2.2.2.2.1
theorem dL_law_536 : decode cL_law 536 = .ok (.lcmp, 1) := dC_law_519.2.2.2.2.2.2.2.1
theorem dL_law_537 : decode cL_law 537 = .ok (.ifCond .eq 5, 3) := dC_law_519.2.2.2.2.2.2.2.2.1
theorem dL_law_542 : decode cL_law 542 = .ok (.goto 1132, 3) := dC_law_519.2.2.2.2.2.2.2.2.2.1
theorem dL_law_545 : decode cL_law 545 = .ok (.aload_n 1, 1) := dC_law_519.2.2.2.2.2.2.2.2.2.2.1
theorem dL_law_546 : decode cL_law 546 = .ok (.aload_n 0, 1) := dC_law_519.2.2.2.2.2.2.2.2.2.2.2.1
theorem dL_law_547 : decode cL_law 547 = .ok (.iload 4, 2) := dC_law_519.2.2.2.2.2.2.2.2.2.2.2.2.1
theorem dL_law_549 : decode cL_law 549 = .ok (.iconst 1, 1) := dC_law_519.2.2.2.2.2.2.2.2.2.2.2.2.2.1
theorem dL_law_550 : decode cL_law 550 = .ok (.iadd, 1) := dC_law_519.2.2.2.2.2.2.2.2.2.2.2.2.2.2.1
theorem dL_law_551 : decode cL_law 551 = .ok (.iaload, 1) := dC_law_519.2.2.2.2.2.2.2.2.2.2.2.2.2.2.2
theorem dC_law_552 : (decode cL_law 552 = .ok (.aload_n 3, 1)) ∧ (decode cL_law 553 = .ok (.invokestatic 150, 3)) ∧ (decode cL_law 556 = .ok (.istore 5, 2)) ∧ (decode cL_law 558 = .ok (.aload_n 2, 1)) ∧ (decode cL_law 559 = .ok (.aload_n 0, 1)) ∧ (decode cL_law 560 = .ok (.iload 4, 2)) ∧ (decode cL_law 562 = .ok (.iconst 1, 1)) ∧ (decode cL_law 563 = .ok (.iadd, 1)) ∧ (decode cL_law 564 = .ok (.iaload, 1)) ∧ (decode cL_law 565 = .ok (.invokevirtual 153, 3)) ∧ (decode cL_law 568 = .ok (.istore 6, 2)) ∧ (decode cL_law 570 = .ok (.goto 1104, 3)) ∧ (decode cL_law 573 = .ok (.aload_n 1, 1)) ∧ (decode cL_law 574 = .ok (.aload_n 0, 1)) ∧ (decode cL_law 575 = .ok (.iload 4, 2)) ∧ (decode cL_law 577 = .ok (.iconst 1, 1)) := by decide +kernel
theorem dL_law_552 : decode cL_law 552 = .ok (.aload_n 3, 1) := dC_law_552.1
theorem dL_law_553 : decode cL_law 553 = .ok (.invokestatic 150, 3) := dC_law_552.2.1
theorem dL_law_556 : decode cL_law 556 = .ok (.istore 5, 2) := dC_law_552.2.2.1
theorem dL_law_558 : decode cL_law 558 = .ok (.aload_n 2, 1) := dC_law_552.2.2.2.1
theorem dL_law_559 : decode cL_law 559 = .ok (.aload_n 0, 1) := dC_law_552.2.2.2.2.1
theorem dL_law_560 : decode cL_law 560 = .ok (.iload 4, 2) := dC_law_552.2.2.2.2.2.1
theorem dL_law_562 : decode cL_law 562 = .ok (.iconst 1, 1) := dC_law_552.2.2.2.2.2.2.1
theorem dL_law_563 : decode cL_law 563 = .ok (.iadd, 1) := dC_law_552.2.2.2.2.2.2.2.1
theorem dL_law_564 : decode cL_law 564 = .ok (.iaload, 1) := dC_law_552.2.2.2.2.2.2.2.2.1
theorem dL_law_565 : decode cL_law 565 = .ok (.invokevirtual 153, 3) := dC_law_552.2.2.2.2.2.2.2.2.2.1
theorem dL_law_568 : decode cL_law 568 = .ok (.istore 6, 2) := dC_law_552.2.2.2.2.2.2.2.2.2.2.1
theorem dL_law_570 : decode cL_law 570 = .ok (.goto 1104, 3) := dC_law_552.2.2.2.2.2.2.2.2.2.2.2.1
theorem dL_law_573 : decode cL_law 573 = .ok (.aload_n 1, 1) := dC_law_552.2.2.2.2.2.2.2.2.2.2.2.2.1
theorem dL_law_574 : decode cL_law 574 = .ok (.aload_n 0, 1) := dC_law_552.2.2.2.2.2.2.2.2.2.2.2.2.2.1
theorem dL_law_575 : decode cL_law 575 = .ok (.iload 4, 2) := dC_law_552.2.2.2.2.2.2.2.2.2.2.2.2.2.2.1
theorem dL_law_577 : decode cL_law 577 = .ok (.iconst 1, 1) := dC_law_552.2.2.2.2.2.2.2.2.2.2.2.2.2.2.2
theorem dC_law_578 : (decode cL_law 578 = .ok (.iadd, 1)) ∧ (decode cL_law 579 = .ok (.iaload, 1)) ∧ (decode cL_law 580 = .ok (.aload_n 0, 1)) ∧ (decode cL_law 581 = .ok (.iload 4, 2)) ∧ (decode cL_law 583 = .ok (.iconst 2, 1)) ∧ (decode cL_law 584 = .ok (.iadd, 1)) ∧ (decode cL_law 585 = .ok (.iaload, 1)) ∧ (decode cL_law 586 = .ok (.invokevirtual 154, 3)) ∧ (decode cL_law 589 = .ok (.pop, 1)) ∧ (decode cL_law 590 = .ok (.aload_n 2, 1)) ∧ (decode cL_law 591 = .ok (.aload_n 0, 1)) ∧ (decode cL_law 592 = .ok (.iload 4, 2)) ∧ (decode cL_law 594 = .ok (.iconst 1, 1)) ∧ (decode cL_law 595 = .ok (.iadd, 1)) ∧ (decode cL_law 596 = .ok (.iaload, 1)) ∧ (decode cL_law 597 = .ok (.aload_n 0, 1)) := by decide +kernel
theorem dL_law_578 : decode cL_law 578 = .ok (.iadd, 1) := dC_law_578.1
theorem dL_law_579 : decode cL_law 579 = .ok (.iaload, 1) := dC_law_578.2.1
theorem dL_law_580 : decode cL_law 580 = .ok (.aload_n 0, 1) := dC_law_578.2.2.1
theorem dL_law_581 : decode cL_law 581 = .ok (.iload 4, 2) := dC_law_578.2.2.2.1
theorem dL_law_583 : decode cL_law 583 = .ok (.iconst 2, 1) := dC_law_578.2.2.2.2.1
theorem dL_law_584 : decode cL_law 584 = .ok (.iadd, 1) := dC_law_578.2.2.2.2.2.1
theorem dL_law_585 : decode cL_law 585 = .ok (.iaload, 1) := dC_law_578.2.2.2.2.2.2.1
theorem dL_law_586 : decode cL_law 586 = .ok (.invokevirtual 154, 3) := dC_law_578.2.2.2.2.2.2.2.1
theorem dL_law_589 : decode cL_law 589 = .ok (.pop, 1) := dC_law_578.2.2.2.2.2.2.2.2.1
theorem dL_law_590 : decode cL_law 590 = .ok (.aload_n 2, 1) := dC_law_578.2.2.2.2.2.2.2.2.2.1
theorem dL_law_591 : decode cL_law 591 = .ok (.aload_n 0, 1) := dC_law_578.2.2.2.2.2.2.2.2.2.2.1
theorem dL_law_592 : decode cL_law 592 = .ok (.iload 4, 2) := dC_law_578.2.2.2.2.2.2.2.2.2.2.2.1
theorem dL_law_594 : decode cL_law 594 = .ok (.iconst 1, 1) := dC_law_578.2.2.2.2.2.2.2.2.2.2.2.2.1
theorem dL_law_595 : decode cL_law 595 = .ok (.iadd, 1) := dC_law_578.2.2.2.2.2.2.2.2.2.2.2.2.2.1
theorem dL_law_596 : decode cL_law 596 = .ok (.iaload, 1) := dC_law_578.2.2.2.2.2.2.2.2.2.2.2.2.2.2.1
theorem dL_law_597 : decode cL_law 597 = .ok (.aload_n 0, 1) := dC_law_578.2.2.2.2.2.2.2.2.2.2.2.2.2.2.2
theorem dC_law_598 : (decode cL_law 598 = .ok (.iload 4, 2)) ∧ (decode cL_law 600 = .ok (.iconst 2, 1)) ∧ (decode cL_law 601 = .ok (.iadd, 1)) ∧ (decode cL_law 602 = .ok (.iaload, 1)) ∧ (decode cL_law 603 = .ok (.invokevirtual 157, 3)) ∧ (decode cL_law 606 = .ok (.pop, 1)) ∧ (decode cL_law 607 = .ok (.goto 1067, 3)) ∧ (decode cL_law 610 = .ok (.aload_n 1, 1)) ∧ (decode cL_law 611 = .ok (.aload_n 0, 1)) ∧ (decode cL_law 612 = .ok (.iload 4, 2)) ∧ (decode cL_law 614 = .ok (.iconst 1, 1)) ∧ (decode cL_law 615 = .ok (.iadd, 1)) ∧ (decode cL_law 616 = .ok (.iaload, 1)) ∧ (decode cL_law 617 = .ok (.aload_n 0, 1)) ∧ (decode cL_law 618 = .ok (.iload 4, 2)) ∧ (decode cL_law 620 = .ok (.iconst 2, 1)) := by decide +kernel
theorem dL_law_598 : decode cL_law 598 = .ok (.iload 4, 2) := dC_law_598.1
theorem dL_law_600 : decode cL_law 600 = .ok (.iconst 2, 1) := dC_law_598.2.1
theorem dL_law_601 : decode cL_law 601 = .ok (.iadd, 1) := dC_law_598.2.2.1
theorem dL_law_602 : decode cL_law 602 = .ok (.iaload, 1) := dC_law_598.2.2.2.1
theorem dL_law_603 : decode cL_law 603 = .ok (.invokevirtual 157, 3) := dC_law_598.2.2.2.2.1
theorem dL_law_606 : decode cL_law 606 = .ok (.pop, 1) := dC_law_598.2.2.2.2.2.1
theorem dL_law_607 : decode cL_law 607 = .ok (.goto 1067, 3) := dC_law_598.2.2.2.2.2.2.1
theorem dL_law_610 : decode cL_law 610 = .ok (.aload_n 1, 1) := dC_law_598.2.2.2.2.2.2.2.1
theorem dL_law_611 : decode cL_law 611 = .ok (.aload_n 0, 1) := dC_law_598.2.2.2.2.2.2.2.2.1
theorem dL_law_612 : decode cL_law 612 = .ok (.iload 4, 2) := dC_law_598.2.2.2.2.2.2.2.2.2.1
theorem dL_law_614 : decode cL_law 614 = .ok (.iconst 1, 1) := dC_law_598.2.2.2.2.2.2.2.2.2.2.1
theorem dL_law_615 : decode cL_law 615 = .ok (.iadd, 1) := dC_law_598.2.2.2.2.2.2.2.2.2.2.2.1
theorem dL_law_616 : decode cL_law 616 = .ok (.iaload, 1) := dC_law_598.2.2.2.2.2.2.2.2.2.2.2.2.1
theorem dL_law_617 : decode cL_law 617 = .ok (.aload_n 0, 1) := dC_law_598.2.2.2.2.2.2.2.2.2.2.2.2.2.1
theorem dL_law_618 : decode cL_law 618 = .ok (.iload 4, 2) := dC_law_598.2.2.2.2.2.2.2.2.2.2.2.2.2.2.1
theorem dL_law_620 : decode cL_law 620 = .ok (.iconst 2, 1) := dC_law_598.2.2.2.2.2.2.2.2.2.2.2.2.2.2.2
theorem dC_law_621 : (decode cL_law 621 = .ok (.iadd, 1)) ∧ (decode cL_law 622 = .ok (.iaload, 1)) ∧ (decode cL_law 623 = .ok (.aload_n 0, 1)) ∧ (decode cL_law 624 = .ok (.iload 4, 2)) ∧ (decode cL_law 626 = .ok (.iconst 3, 1)) ∧ (decode cL_law 627 = .ok (.iadd, 1)) ∧ (decode cL_law 628 = .ok (.iaload, 1)) ∧ (decode cL_law 629 = .ok (.invokevirtual 158, 3)) ∧ (decode cL_law 632 = .ok (.pop, 1)) ∧ (decode cL_law 633 = .ok (.aload_n 2, 1)) ∧ (decode cL_law 634 = .ok (.aload_n 0, 1)) ∧ (decode cL_law 635 = .ok (.iload 4, 2)) ∧ (decode cL_law 637 = .ok (.iconst 1, 1)) ∧ (decode cL_law 638 = .ok (.iadd, 1)) ∧ (decode cL_law 639 = .ok (.iaload, 1)) ∧ (decode cL_law 640 = .ok (.aload_n 0, 1)) := by decide +kernel
theorem dL_law_621 : decode cL_law 621 = .ok (.iadd, 1) := dC_law_621.1
theorem dL_law_622 : decode cL_law 622 = .ok (.iaload, 1) := dC_law_621.2.1
theorem dL_law_623 : decode cL_law 623 = .ok (.aload_n 0, 1) := dC_law_621.2.2.1
theorem dL_law_624 : decode cL_law 624 = .ok (.iload 4, 2) := dC_law_621.2.2.2.1
theorem dL_law_626 : decode cL_law 626 = .ok (.iconst 3, 1) := dC_law_621.2.2.2.2.1
theorem dL_law_627 : decode cL_law 627 = .ok (.iadd, 1) := dC_law_621.2.2.2.2.2.1
theorem dL_law_628 : decode cL_law 628 = .ok (.iaload, 1) := dC_law_621.2.2.2.2.2.2.1
theorem dL_law_629 : decode cL_law 629 = .ok (.invokevirtual 158, 3) := dC_law_621.2.2.2.2.2.2.2.1
theorem dL_law_632 : decode cL_law 632 = .ok (.pop, 1) := dC_law_621.2.2.2.2.2.2.2.2.1
theorem dL_law_633 : decode cL_law 633 = .ok (.aload_n 2, 1) := dC_law_621.2.2.2.2.2.2.2.2.2.1
theorem dL_law_634 : decode cL_law 634 = .ok (.aload_n 0, 1) := dC_law_621.2.2.2.2.2.2.2.2.2.2.1
theorem dL_law_635 : decode cL_law 635 = .ok (.iload 4, 2) := dC_law_621.2.2.2.2.2.2.2.2.2.2.2.1
theorem dL_law_637 : decode cL_law 637 = .ok (.iconst 1, 1) := dC_law_621.2.2.2.2.2.2.2.2.2.2.2.2.1
theorem dL_law_638 : decode cL_law 638 = .ok (.iadd, 1) := dC_law_621.2.2.2.2.2.2.2.2.2.2.2.2.2.1
theorem dL_law_639 : decode cL_law 639 = .ok (.iaload, 1) := dC_law_621.2.2.2.2.2.2.2.2.2.2.2.2.2.2.1
theorem dL_law_640 : decode cL_law 640 = .ok (.aload_n 0, 1) := dC_law_621.2.2.2.2.2.2.2.2.2.2.2.2.2.2.2
theorem dC_law_641 : (decode cL_law 641 = .ok (.iload 4, 2)) ∧ (decode cL_law 643 = .ok (.iconst 2, 1)) ∧ (decode cL_law 644 = .ok (.iadd, 1)) ∧ (decode cL_law 645 = .ok (.iaload, 1)) ∧ (decode cL_law 646 = .ok (.aload_n 0, 1)) ∧ (decode cL_law 647 = .ok (.iload 4, 2)) ∧ (decode cL_law 649 = .ok (.iconst 3, 1)) ∧ (decode cL_law 650 = .ok (.iadd, 1)) ∧ (decode cL_law 651 = .ok (.iaload, 1)) ∧ (decode cL_law 652 = .ok (.invokevirtual 161, 3)) ∧ (decode cL_law 655 = .ok (.pop, 1)) ∧ (decode cL_law 656 = .ok (.goto 1018, 3)) ∧ (decode cL_law 659 = .ok (.aload_n 1, 1)) ∧ (decode cL_law 660 = .ok (.aload_n 0, 1)) ∧ (decode cL_law 661 = .ok (.iload 4, 2)) ∧ (decode cL_law 663 = .ok (.iconst 1, 1)) := by decide +kernel
theorem dL_law_641 : decode cL_law 641 = .ok (.iload 4, 2) := dC_law_641.1
theorem dL_law_643 : decode cL_law 643 = .ok (.iconst 2, 1) := dC_law_641.2.1
theorem dL_law_644 : decode cL_law 644 = .ok (.iadd, 1) := dC_law_641.2.2.1
theorem dL_law_645 : decode cL_law 645 = .ok (.iaload, 1) := dC_law_641.2.2.2.1
theorem dL_law_646 : decode cL_law 646 = .ok (.aload_n 0, 1) := dC_law_641.2.2.2.2.1
theorem dL_law_647 : decode cL_law 647 = .ok (.iload 4, 2) := dC_law_641.2.2.2.2.2.1
theorem dL_law_649 : decode cL_law 649 = .ok (.iconst 3, 1) := dC_law_641.2.2.2.2.2.2.1
theorem dL_law_650 : decode cL_law 650 = .ok (.iadd, 1) := dC_law_641.2.2.2.2.2.2.2.1
theorem dL_law_651 : decode cL_law 651 = .ok (.iaload, 1) := dC_law_641.2.2.2.2.2.2.2.2.1
theorem dL_law_652 : decode cL_law 652 = .ok (.invokevirtual 161, 3) := dC_law_641.2.2.2.2.2.2.2.2.2.1
theorem dL_law_655 : decode cL_law 655 = .ok (.pop, 1) := dC_law_641.2.2.2.2.2.2.2.2.2.2.1
theorem dL_law_656 : decode cL_law 656 = .ok (.goto 1018, 3) := dC_law_641.2.2.2.2.2.2.2.2.2.2.2.1
theorem dL_law_659 : decode cL_law 659 = .ok (.aload_n 1, 1) := dC_law_641.2.2.2.2.2.2.2.2.2.2.2.2.1
theorem dL_law_660 : decode cL_law 660 = .ok (.aload_n 0, 1) := dC_law_641.2.2.2.2.2.2.2.2.2.2.2.2.2.1
theorem dL_law_661 : decode cL_law 661 = .ok (.iload 4, 2) := dC_law_641.2.2.2.2.2.2.2.2.2.2.2.2.2.2.1
theorem dL_law_663 : decode cL_law 663 = .ok (.iconst 1, 1) := dC_law_641.2.2.2.2.2.2.2.2.2.2.2.2.2.2.2
theorem dC_law_664 : (decode cL_law 664 = .ok (.iadd, 1)) ∧ (decode cL_law 665 = .ok (.iaload, 1)) ∧ (decode cL_law 666 = .ok (.aload_n 0, 1)) ∧ (decode cL_law 667 = .ok (.iload 4, 2)) ∧ (decode cL_law 669 = .ok (.iconst 2, 1)) ∧ (decode cL_law 670 = .ok (.iadd, 1)) ∧ (decode cL_law 671 = .ok (.iaload, 1)) ∧ (decode cL_law 672 = .ok (.aload_n 0, 1)) ∧ (decode cL_law 673 = .ok (.iload 4, 2)) ∧ (decode cL_law 675 = .ok (.iconst 3, 1)) ∧ (decode cL_law 676 = .ok (.iadd, 1)) ∧ (decode cL_law 677 = .ok (.iaload, 1)) ∧ (decode cL_law 678 = .ok (.invokevirtual 162, 3)) ∧ (decode cL_law 681 = .ok (.pop, 1)) ∧ (decode cL_law 682 = .ok (.aload_n 2, 1)) ∧ (decode cL_law 683 = .ok (.aload_n 0, 1)) := by decide +kernel
theorem dL_law_664 : decode cL_law 664 = .ok (.iadd, 1) := dC_law_664.1
theorem dL_law_665 : decode cL_law 665 = .ok (.iaload, 1) := dC_law_664.2.1
theorem dL_law_666 : decode cL_law 666 = .ok (.aload_n 0, 1) := dC_law_664.2.2.1
theorem dL_law_667 : decode cL_law 667 = .ok (.iload 4, 2) := dC_law_664.2.2.2.1
theorem dL_law_669 : decode cL_law 669 = .ok (.iconst 2, 1) := dC_law_664.2.2.2.2.1
theorem dL_law_670 : decode cL_law 670 = .ok (.iadd, 1) := dC_law_664.2.2.2.2.2.1
theorem dL_law_671 : decode cL_law 671 = .ok (.iaload, 1) := dC_law_664.2.2.2.2.2.2.1
theorem dL_law_672 : decode cL_law 672 = .ok (.aload_n 0, 1) := dC_law_664.2.2.2.2.2.2.2.1
theorem dL_law_673 : decode cL_law 673 = .ok (.iload 4, 2) := dC_law_664.2.2.2.2.2.2.2.2.1
theorem dL_law_675 : decode cL_law 675 = .ok (.iconst 3, 1) := dC_law_664.2.2.2.2.2.2.2.2.2.1
theorem dL_law_676 : decode cL_law 676 = .ok (.iadd, 1) := dC_law_664.2.2.2.2.2.2.2.2.2.2.1
theorem dL_law_677 : decode cL_law 677 = .ok (.iaload, 1) := dC_law_664.2.2.2.2.2.2.2.2.2.2.2.1
theorem dL_law_678 : decode cL_law 678 = .ok (.invokevirtual 162, 3) := dC_law_664.2.2.2.2.2.2.2.2.2.2.2.2.1
theorem dL_law_681 : decode cL_law 681 = .ok (.pop, 1) := dC_law_664.2.2.2.2.2.2.2.2.2.2.2.2.2.1
theorem dL_law_682 : decode cL_law 682 = .ok (.aload_n 2, 1) := dC_law_664.2.2.2.2.2.2.2.2.2.2.2.2.2.2.1
theorem dL_law_683 : decode cL_law 683 = .ok (.aload_n 0, 1) := dC_law_664.2.2.2.2.2.2.2.2.2.2.2.2.2.2.2
theorem dC_law_684 : (decode cL_law 684 = .ok (.iload 4, 2)) ∧ (decode cL_law 686 = .ok (.iconst 1, 1)) ∧ (decode cL_law 687 = .ok (.iadd, 1)) ∧ (decode cL_law 688 = .ok (.iaload, 1)) ∧ (decode cL_law 689 = .ok (.aload_n 0, 1)) ∧ (decode cL_law 690 = .ok (.iload 4, 2)) ∧ (decode cL_law 692 = .ok (.iconst 2, 1)) ∧ (decode cL_law 693 = .ok (.iadd, 1)) ∧ (decode cL_law 694 = .ok (.iaload, 1)) ∧ (decode cL_law 695 = .ok (.aload_n 0, 1)) ∧ (decode cL_law 696 = .ok (.iload 4, 2)) ∧ (decode cL_law 698 = .ok (.iconst 3, 1)) ∧ (decode cL_law 699 = .ok (.iadd, 1)) ∧ (decode cL_law 700 = .ok (.iaload, 1)) ∧ (decode cL_law 701 = .ok (.invokevirtual 165, 3)) ∧ (decode cL_law 704 = .ok (.pop, 1)) := by decide +kernel
theorem dL_law_684 : decode cL_law 684 = .ok (.iload 4, 2) := dC_law_684.1
theorem dL_law_686 : decode cL_law 686 = .ok (.iconst 1, 1) := dC_law_684.2.1
theorem dL_law_687 : decode cL_law 687 = .ok (.iadd, 1) := dC_law_684.2.2.1
theorem dL_law_688 : decode cL_law 688 = .ok (.iaload, 1) := dC_law_684.2.2.2.1
theorem dL_law_689 : decode cL_law 689 = .ok (.aload_n 0, 1) := dC_law_684.2.2.2.2.1
theorem dL_law_690 : decode cL_law 690 = .ok (.iload 4, 2) := dC_law_684.2.2.2.2.2.1
theorem dL_law_692 : decode cL_law 692 = .ok (.iconst 2, 1) := dC_law_684.2.2.2.2.2.2.1
theorem dL_law_693 : decode cL_law 693 = .ok (.iadd, 1) := dC_law_684.2.2.2.2.2.2.2.1
theorem dL_law_694 : decode cL_law 694 = .ok (.iaload, 1) := dC_law_684.2.2.2.2.2.2.2.2.1
theorem dL_law_695 : decode cL_law 695 = .ok (.aload_n 0, 1) := dC_law_684.2.2.2.2.2.2.2.2.2.1
theorem dL_law_696 : decode cL_law 696 = .ok (.iload 4, 2) := dC_law_684.2.2.2.2.2.2.2.2.2.2.1
theorem dL_law_698 : decode cL_law 698 = .ok (.iconst 3, 1) := dC_law_684.2.2.2.2.2.2.2.2.2.2.2.1
theorem dL_law_699 : decode cL_law 699 = .ok (.iadd, 1) := dC_law_684.2.2.2.2.2.2.2.2.2.2.2.2.1
theorem dL_law_700 : decode cL_law 700 = .ok (.iaload, 1) := dC_law_684.2.2.2.2.2.2.2.2.2.2.2.2.2.1
theorem dL_law_701 : decode cL_law 701 = .ok (.invokevirtual 165, 3) := dC_law_684.2.2.2.2.2.2.2.2.2.2.2.2.2.2.1
theorem dL_law_704 : decode cL_law 704 = .ok (.pop, 1) := dC_law_684.2.2.2.2.2.2.2.2.2.2.2.2.2.2.2
theorem dC_law_705 : (decode cL_law 705 = .ok (.goto 969, 3)) ∧ (decode cL_law 708 = .ok (.aload_n 1, 1)) ∧ (decode cL_law 709 = .ok (.aload_n 0, 1)) ∧ (decode cL_law 710 = .ok (.iload 4, 2)) ∧ (decode cL_law 712 = .ok (.iconst 1, 1)) ∧ (decode cL_law 713 = .ok (.iadd, 1)) ∧ (decode cL_law 714 = .ok (.iaload, 1)) ∧ (decode cL_law 715 = .ok (.aload_n 0, 1)) ∧ (decode cL_law 716 = .ok (.iload 4, 2)) ∧ (decode cL_law 718 = .ok (.iconst 2, 1)) ∧ (decode cL_law 719 = .ok (.iadd, 1)) ∧ (decode cL_law 720 = .ok (.iaload, 1)) ∧ (decode cL_law 721 = .ok (.invokevirtual 166, 3)) ∧ (decode cL_law 724 = .ok (.pop, 1)) ∧ (decode cL_law 725 = .ok (.aload_n 2, 1)) ∧ (decode cL_law 726 = .ok (.aload_n 0, 1)) := by decide +kernel
theorem dL_law_705 : decode cL_law 705 = .ok (.goto 969, 3) := dC_law_705.1
theorem dL_law_708 : decode cL_law 708 = .ok (.aload_n 1, 1) := dC_law_705.2.1
theorem dL_law_709 : decode cL_law 709 = .ok (.aload_n 0, 1) := dC_law_705.2.2.1
theorem dL_law_710 : decode cL_law 710 = .ok (.iload 4, 2) := dC_law_705.2.2.2.1
theorem dL_law_712 : decode cL_law 712 = .ok (.iconst 1, 1) := dC_law_705.2.2.2.2.1
theorem dL_law_713 : decode cL_law 713 = .ok (.iadd, 1) := dC_law_705.2.2.2.2.2.1
theorem dL_law_714 : decode cL_law 714 = .ok (.iaload, 1) := dC_law_705.2.2.2.2.2.2.1
theorem dL_law_715 : decode cL_law 715 = .ok (.aload_n 0, 1) := dC_law_705.2.2.2.2.2.2.2.1
theorem dL_law_716 : decode cL_law 716 = .ok (.iload 4, 2) := dC_law_705.2.2.2.2.2.2.2.2.1
theorem dL_law_718 : decode cL_law 718 = .ok (.iconst 2, 1) := dC_law_705.2.2.2.2.2.2.2.2.2.1
theorem dL_law_719 : decode cL_law 719 = .ok (.iadd, 1) := dC_law_705.2.2.2.2.2.2.2.2.2.2.1
theorem dL_law_720 : decode cL_law 720 = .ok (.iaload, 1) := dC_law_705.2.2.2.2.2.2.2.2.2.2.2.1
theorem dL_law_721 : decode cL_law 721 = .ok (.invokevirtual 166, 3) := dC_law_705.2.2.2.2.2.2.2.2.2.2.2.2.1
theorem dL_law_724 : decode cL_law 724 = .ok (.pop, 1) := dC_law_705.2.2.2.2.2.2.2.2.2.2.2.2.2.1
theorem dL_law_725 : decode cL_law 725 = .ok (.aload_n 2, 1) := dC_law_705.2.2.2.2.2.2.2.2.2.2.2.2.2.2.1
theorem dL_law_726 : decode cL_law 726 = .ok (.aload_n 0, 1) := dC_law_705.2.2.2.2.2.2.2.2.2.2.2.2.2.2.2
theorem dC_law_727 : (decode cL_law 727 = .ok (.iload 4, 2)) ∧ (decode cL_law 729 = .ok (.iconst 1, 1)) ∧ (decode cL_law 730 = .ok (.iadd, 1)) ∧ (decode cL_law 731 = .ok (.iaload, 1)) ∧ (decode cL_law 732 = .ok (.aload_n 0, 1)) ∧ (decode cL_law 733 = .ok (.iload 4, 2)) ∧ (decode cL_law 735 = .ok (.iconst 2, 1)) ∧ (decode cL_law 736 = .ok (.iadd, 1)) ∧ (decode cL_law 737 = .ok (.iaload, 1)) ∧ (decode cL_law 738 = .ok (.invokevirtual 169, 3)) ∧ (decode cL_law 741 = .ok (.pop, 1)) ∧ (decode cL_law 742 = .ok (.goto 932, 3)) ∧ (decode cL_law 745 = .ok (.aload_n 1, 1)) ∧ (decode cL_law 746 = .ok (.aload_n 0, 1)) ∧ (decode cL_law 747 = .ok (.iload 4, 2)) ∧ (decode cL_law 749 = .ok (.iconst 1, 1)) := by decide +kernel
theorem dL_law_727 : decode cL_law 727 = .ok (.iload 4, 2) := dC_law_727.1
theorem dL_law_729 : decode cL_law 729 = .ok (.iconst 1, 1) := dC_law_727.2.1
theorem dL_law_730 : decode cL_law 730 = .ok (.iadd, 1) := dC_law_727.2.2.1
theorem dL_law_731 : decode cL_law 731 = .ok (.iaload, 1) := dC_law_727.2.2.2.1
theorem dL_law_732 : decode cL_law 732 = .ok (.aload_n 0, 1) := dC_law_727.2.2.2.2.1
theorem dL_law_733 : decode cL_law 733 = .ok (.iload 4, 2) := dC_law_727.2.2.2.2.2.1
theorem dL_law_735 : decode cL_law 735 = .ok (.iconst 2, 1) := dC_law_727.2.2.2.2.2.2.1
theorem dL_law_736 : decode cL_law 736 = .ok (.iadd, 1) := dC_law_727.2.2.2.2.2.2.2.1
theorem dL_law_737 : decode cL_law 737 = .ok (.iaload, 1) := dC_law_727.2.2.2.2.2.2.2.2.1
theorem dL_law_738 : decode cL_law 738 = .ok (.invokevirtual 169, 3) := dC_law_727.2.2.2.2.2.2.2.2.2.1
theorem dL_law_741 : decode cL_law 741 = .ok (.pop, 1) := dC_law_727.2.2.2.2.2.2.2.2.2.2.1
theorem dL_law_742 : decode cL_law 742 = .ok (.goto 932, 3) := dC_law_727.2.2.2.2.2.2.2.2.2.2.2.1
theorem dL_law_745 : decode cL_law 745 = .ok (.aload_n 1, 1) := dC_law_727.2.2.2.2.2.2.2.2.2.2.2.2.1
theorem dL_law_746 : decode cL_law 746 = .ok (.aload_n 0, 1) := dC_law_727.2.2.2.2.2.2.2.2.2.2.2.2.2.1
theorem dL_law_747 : decode cL_law 747 = .ok (.iload 4, 2) := dC_law_727.2.2.2.2.2.2.2.2.2.2.2.2.2.2.1
theorem dL_law_749 : decode cL_law 749 = .ok (.iconst 1, 1) := dC_law_727.2.2.2.2.2.2.2.2.2.2.2.2.2.2.2
theorem dC_law_750 : (decode cL_law 750 = .ok (.iadd, 1)) ∧ (decode cL_law 751 = .ok (.iaload, 1)) ∧ (decode cL_law 752 = .ok (.aload_n 0, 1)) ∧ (decode cL_law 753 = .ok (.iload 4, 2)) ∧ (decode cL_law 755 = .ok (.iconst 2, 1)) ∧ (decode cL_law 756 = .ok (.iadd, 1)) ∧ (decode cL_law 757 = .ok (.iaload, 1)) ∧ (decode cL_law 758 = .ok (.aload_n 0, 1)) ∧ (decode cL_law 759 = .ok (.iload 4, 2)) ∧ (decode cL_law 761 = .ok (.iconst 3, 1)) ∧ (decode cL_law 762 = .ok (.iadd, 1)) ∧ (decode cL_law 763 = .ok (.iaload, 1)) ∧ (decode cL_law 764 = .ok (.invokevirtual 170, 3)) ∧ (decode cL_law 767 = .ok (.pop, 1)) ∧ (decode cL_law 768 = .ok (.aload_n 2, 1)) ∧ (decode cL_law 769 = .ok (.aload_n 0, 1)) := by decide +kernel
theorem dL_law_750 : decode cL_law 750 = .ok (.iadd, 1) := dC_law_750.1
theorem dL_law_751 : decode cL_law 751 = .ok (.iaload, 1) := dC_law_750.2.1
theorem dL_law_752 : decode cL_law 752 = .ok (.aload_n 0, 1) := dC_law_750.2.2.1
theorem dL_law_753 : decode cL_law 753 = .ok (.iload 4, 2) := dC_law_750.2.2.2.1
theorem dL_law_755 : decode cL_law 755 = .ok (.iconst 2, 1) := dC_law_750.2.2.2.2.1
theorem dL_law_756 : decode cL_law 756 = .ok (.iadd, 1) := dC_law_750.2.2.2.2.2.1
theorem dL_law_757 : decode cL_law 757 = .ok (.iaload, 1) := dC_law_750.2.2.2.2.2.2.1
theorem dL_law_758 : decode cL_law 758 = .ok (.aload_n 0, 1) := dC_law_750.2.2.2.2.2.2.2.1
theorem dL_law_759 : decode cL_law 759 = .ok (.iload 4, 2) := dC_law_750.2.2.2.2.2.2.2.2.1
theorem dL_law_761 : decode cL_law 761 = .ok (.iconst 3, 1) := dC_law_750.2.2.2.2.2.2.2.2.2.1
theorem dL_law_762 : decode cL_law 762 = .ok (.iadd, 1) := dC_law_750.2.2.2.2.2.2.2.2.2.2.1
theorem dL_law_763 : decode cL_law 763 = .ok (.iaload, 1) := dC_law_750.2.2.2.2.2.2.2.2.2.2.2.1
theorem dL_law_764 : decode cL_law 764 = .ok (.invokevirtual 170, 3) := dC_law_750.2.2.2.2.2.2.2.2.2.2.2.2.1
theorem dL_law_767 : decode cL_law 767 = .ok (.pop, 1) := dC_law_750.2.2.2.2.2.2.2.2.2.2.2.2.2.1
theorem dL_law_768 : decode cL_law 768 = .ok (.aload_n 2, 1) := dC_law_750.2.2.2.2.2.2.2.2.2.2.2.2.2.2.1
theorem dL_law_769 : decode cL_law 769 = .ok (.aload_n 0, 1) := dC_law_750.2.2.2.2.2.2.2.2.2.2.2.2.2.2.2
theorem dC_law_770 : (decode cL_law 770 = .ok (.iload 4, 2)) ∧ (decode cL_law 772 = .ok (.iconst 1, 1)) ∧ (decode cL_law 773 = .ok (.iadd, 1)) ∧ (decode cL_law 774 = .ok (.iaload, 1)) ∧ (decode cL_law 775 = .ok (.aload_n 0, 1)) ∧ (decode cL_law 776 = .ok (.iload 4, 2)) ∧ (decode cL_law 778 = .ok (.iconst 2, 1)) ∧ (decode cL_law 779 = .ok (.iadd, 1)) ∧ (decode cL_law 780 = .ok (.iaload, 1)) ∧ (decode cL_law 781 = .ok (.aload_n 0, 1)) ∧ (decode cL_law 782 = .ok (.iload 4, 2)) ∧ (decode cL_law 784 = .ok (.iconst 3, 1)) ∧ (decode cL_law 785 = .ok (.iadd, 1)) ∧ (decode cL_law 786 = .ok (.iaload, 1)) ∧ (decode cL_law 787 = .ok (.invokevirtual 174, 3)) ∧ (decode cL_law 790 = .ok (.pop, 1)) := by decide +kernel
theorem dL_law_770 : decode cL_law 770 = .ok (.iload 4, 2) := dC_law_770.1
theorem dL_law_772 : decode cL_law 772 = .ok (.iconst 1, 1) := dC_law_770.2.1
theorem dL_law_773 : decode cL_law 773 = .ok (.iadd, 1) := dC_law_770.2.2.1
theorem dL_law_774 : decode cL_law 774 = .ok (.iaload, 1) := dC_law_770.2.2.2.1
theorem dL_law_775 : decode cL_law 775 = .ok (.aload_n 0, 1) := dC_law_770.2.2.2.2.1
theorem dL_law_776 : decode cL_law 776 = .ok (.iload 4, 2) := dC_law_770.2.2.2.2.2.1
theorem dL_law_778 : decode cL_law 778 = .ok (.iconst 2, 1) := dC_law_770.2.2.2.2.2.2.1
theorem dL_law_779 : decode cL_law 779 = .ok (.iadd, 1) := dC_law_770.2.2.2.2.2.2.2.1
theorem dL_law_780 : decode cL_law 780 = .ok (.iaload, 1) := dC_law_770.2.2.2.2.2.2.2.2.1
theorem dL_law_781 : decode cL_law 781 = .ok (.aload_n 0, 1) := dC_law_770.2.2.2.2.2.2.2.2.2.1
theorem dL_law_782 : decode cL_law 782 = .ok (.iload 4, 2) := dC_law_770.2.2.2.2.2.2.2.2.2.2.1
theorem dL_law_784 : decode cL_law 784 = .ok (.iconst 3, 1) := dC_law_770.2.2.2.2.2.2.2.2.2.2.2.1
theorem dL_law_785 : decode cL_law 785 = .ok (.iadd, 1) := dC_law_770.2.2.2.2.2.2.2.2.2.2.2.2.1
theorem dL_law_786 : decode cL_law 786 = .ok (.iaload, 1) := dC_law_770.2.2.2.2.2.2.2.2.2.2.2.2.2.1
theorem dL_law_787 : decode cL_law 787 = .ok (.invokevirtual 174, 3) := dC_law_770.2.2.2.2.2.2.2.2.2.2.2.2.2.2.1
theorem dL_law_790 : decode cL_law 790 = .ok (.pop, 1) := dC_law_770.2.2.2.2.2.2.2.2.2.2.2.2.2.2.2
theorem dC_law_791 : (decode cL_law 791 = .ok (.goto 883, 3)) ∧ (decode cL_law 794 = .ok (.aload_n 1, 1)) ∧ (decode cL_law 795 = .ok (.aload_n 0, 1)) ∧ (decode cL_law 796 = .ok (.iload 4, 2)) ∧ (decode cL_law 798 = .ok (.iconst 1, 1)) ∧ (decode cL_law 799 = .ok (.iadd, 1)) ∧ (decode cL_law 800 = .ok (.iaload, 1)) ∧ (decode cL_law 801 = .ok (.aload_n 0, 1)) ∧ (decode cL_law 802 = .ok (.iload 4, 2)) ∧ (decode cL_law 804 = .ok (.iconst 2, 1)) ∧ (decode cL_law 805 = .ok (.iadd, 1)) ∧ (decode cL_law 806 = .ok (.iaload, 1)) ∧ (decode cL_law 807 = .ok (.aload_n 0, 1)) ∧ (decode cL_law 808 = .ok (.iload 4, 2)) ∧ (decode cL_law 810 = .ok (.iconst 3, 1)) ∧ (decode cL_law 811 = .ok (.iadd, 1)) := by decide +kernel
theorem dL_law_791 : decode cL_law 791 = .ok (.goto 883, 3) := dC_law_791.1
theorem dL_law_794 : decode cL_law 794 = .ok (.aload_n 1, 1) := dC_law_791.2.1
theorem dL_law_795 : decode cL_law 795 = .ok (.aload_n 0, 1) := dC_law_791.2.2.1
theorem dL_law_796 : decode cL_law 796 = .ok (.iload 4, 2) := dC_law_791.2.2.2.1
theorem dL_law_798 : decode cL_law 798 = .ok (.iconst 1, 1) := dC_law_791.2.2.2.2.1
theorem dL_law_799 : decode cL_law 799 = .ok (.iadd, 1) := dC_law_791.2.2.2.2.2.1
theorem dL_law_800 : decode cL_law 800 = .ok (.iaload, 1) := dC_law_791.2.2.2.2.2.2.1
theorem dL_law_801 : decode cL_law 801 = .ok (.aload_n 0, 1) := dC_law_791.2.2.2.2.2.2.2.1
theorem dL_law_802 : decode cL_law 802 = .ok (.iload 4, 2) := dC_law_791.2.2.2.2.2.2.2.2.1
theorem dL_law_804 : decode cL_law 804 = .ok (.iconst 2, 1) := dC_law_791.2.2.2.2.2.2.2.2.2.1
theorem dL_law_805 : decode cL_law 805 = .ok (.iadd, 1) := dC_law_791.2.2.2.2.2.2.2.2.2.2.1
theorem dL_law_806 : decode cL_law 806 = .ok (.iaload, 1) := dC_law_791.2.2.2.2.2.2.2.2.2.2.2.1
theorem dL_law_807 : decode cL_law 807 = .ok (.aload_n 0, 1) := dC_law_791.2.2.2.2.2.2.2.2.2.2.2.2.1
theorem dL_law_808 : decode cL_law 808 = .ok (.iload 4, 2) := dC_law_791.2.2.2.2.2.2.2.2.2.2.2.2.2.1
theorem dL_law_810 : decode cL_law 810 = .ok (.iconst 3, 1) := dC_law_791.2.2.2.2.2.2.2.2.2.2.2.2.2.2.1
theorem dL_law_811 : decode cL_law 811 = .ok (.iadd, 1) := dC_law_791.2.2.2.2.2.2.2.2.2.2.2.2.2.2.2
theorem dC_law_812 : (decode cL_law 812 = .ok (.iaload, 1)) ∧ (decode cL_law 813 = .ok (.invokevirtual 175, 3)) ∧ (decode cL_law 816 = .ok (.pop, 1)) ∧ (decode cL_law 817 = .ok (.aload_n 2, 1)) ∧ (decode cL_law 818 = .ok (.aload_n 0, 1)) ∧ (decode cL_law 819 = .ok (.iload 4, 2)) ∧ (decode cL_law 821 = .ok (.iconst 1, 1)) ∧ (decode cL_law 822 = .ok (.iadd, 1)) ∧ (decode cL_law 823 = .ok (.iaload, 1)) ∧ (decode cL_law 824 = .ok (.aload_n 0, 1)) ∧ (decode cL_law 825 = .ok (.iload 4, 2)) ∧ (decode cL_law 827 = .ok (.iconst 2, 1)) ∧ (decode cL_law 828 = .ok (.iadd, 1)) ∧ (decode cL_law 829 = .ok (.iaload, 1)) ∧ (decode cL_law 830 = .ok (.aload_n 0, 1)) ∧ (decode cL_law 831 = .ok (.iload 4, 2)) := by decide +kernel
theorem dL_law_812 : decode cL_law 812 = .ok (.iaload, 1) := dC_law_812.1
theorem dL_law_813 : decode cL_law 813 = .ok (.invokevirtual 175, 3) := dC_law_812.2.1
theorem dL_law_816 : decode cL_law 816 = .ok (.pop, 1) := dC_law_812.2.2.1
theorem dL_law_817 : decode cL_law 817 = .ok (.aload_n 2, 1) := dC_law_812.2.2.2.1
theorem dL_law_818 : decode cL_law 818 = .ok (.aload_n 0, 1) := dC_law_812.2.2.2.2.1
theorem dL_law_819 : decode cL_law 819 = .ok (.iload 4, 2) := dC_law_812.2.2.2.2.2.1
theorem dL_law_821 : decode cL_law 821 = .ok (.iconst 1, 1) := dC_law_812.2.2.2.2.2.2.1
theorem dL_law_822 : decode cL_law 822 = .ok (.iadd, 1) := dC_law_812.2.2.2.2.2.2.2.1
theorem dL_law_823 : decode cL_law 823 = .ok (.iaload, 1) := dC_law_812.2.2.2.2.2.2.2.2.1
theorem dL_law_824 : decode cL_law 824 = .ok (.aload_n 0, 1) := dC_law_812.2.2.2.2.2.2.2.2.2.1
theorem dL_law_825 : decode cL_law 825 = .ok (.iload 4, 2) := dC_law_812.2.2.2.2.2.2.2.2.2.2.1
theorem dL_law_827 : decode cL_law 827 = .ok (.iconst 2, 1) := dC_law_812.2.2.2.2.2.2.2.2.2.2.2.1
theorem dL_law_828 : decode cL_law 828 = .ok (.iadd, 1) := dC_law_812.2.2.2.2.2.2.2.2.2.2.2.2.1
theorem dL_law_829 : decode cL_law 829 = .ok (.iaload, 1) := dC_law_812.2.2.2.2.2.2.2.2.2.2.2.2.2.1
theorem dL_law_830 : decode cL_law 830 = .ok (.aload_n 0, 1) := dC_law_812.2.2.2.2.2.2.2.2.2.2.2.2.2.2.1
theorem dL_law_831 : decode cL_law 831 = .ok (.iload 4, 2) := dC_law_812.2.2.2.2.2.2.2.2.2.2.2.2.2.2.2
theorem dC_law_833 : (decode cL_law 833 = .ok (.iconst 3, 1)) ∧ (decode cL_law 834 = .ok (.iadd, 1)) ∧ (decode cL_law 835 = .ok (.iaload, 1)) ∧ (decode cL_law 836 = .ok (.invokevirtual 178, 3)) ∧ (decode cL_law 839 = .ok (.pop, 1)) ∧ (decode cL_law 840 = .ok (.goto 834, 3)) ∧ (decode cL_law 843 = .ok (.aload_n 1, 1)) ∧ (decode cL_law 844 = .ok (.aload_n 0, 1)) ∧ (decode cL_law 845 = .ok (.iload 4, 2)) ∧ (decode cL_law 847 = .ok (.iconst 1, 1)) ∧ (decode cL_law 848 = .ok (.iadd, 1)) ∧ (decode cL_law 849 = .ok (.iaload, 1)) ∧ (decode cL_law 850 = .ok (.aload_n 0, 1)) ∧ (decode cL_law 851 = .ok (.iload 4, 2)) ∧ (decode cL_law 853 = .ok (.iconst 2, 1)) ∧ (decode cL_law 854 = .ok (.iadd, 1)) := by decide +kernel
theorem dL_law_833 : decode cL_law 833 = .ok (.iconst 3, 1) := dC_law_833.1
theorem dL_law_834 : decode cL_law 834 = .ok (.iadd, 1) := dC_law_833.2.1
theorem dL_law_835 : decode cL_law 835 = .ok (.iaload, 1) := dC_law_833.2.2.1
theorem dL_law_836 : decode cL_law 836 = .ok (.invokevirtual 178, 3) := dC_law_833.2.2.2.1
theorem dL_law_839 : decode cL_law 839 = .ok (.pop, 1) := dC_law_833.2.2.2.2.1
theorem dL_law_840 : decode cL_law 840 = .ok (.goto 834, 3) := dC_law_833.2.2.2.2.2.1
theorem dL_law_843 : decode cL_law 843 = .ok (.aload_n 1, 1) := dC_law_833.2.2.2.2.2.2.1
theorem dL_law_844 : decode cL_law 844 = .ok (.aload_n 0, 1) := dC_law_833.2.2.2.2.2.2.2.1
theorem dL_law_845 : decode cL_law 845 = .ok (.iload 4, 2) := dC_law_833.2.2.2.2.2.2.2.2.1
theorem dL_law_847 : decode cL_law 847 = .ok (.iconst 1, 1) := dC_law_833.2.2.2.2.2.2.2.2.2.1
theorem dL_law_848 : decode cL_law 848 = .ok (.iadd, 1) := dC_law_833.2.2.2.2.2.2.2.2.2.2.1
theorem dL_law_849 : decode cL_law 849 = .ok (.iaload, 1) := dC_law_833.2.2.2.2.2.2.2.2.2.2.2.1
theorem dL_law_850 : decode cL_law 850 = .ok (.aload_n 0, 1) := dC_law_833.2.2.2.2.2.2.2.2.2.2.2.2.1
theorem dL_law_851 : decode cL_law 851 = .ok (.iload 4, 2) := dC_law_833.2.2.2.2.2.2.2.2.2.2.2.2.2.1
theorem dL_law_853 : decode cL_law 853 = .ok (.iconst 2, 1) := dC_law_833.2.2.2.2.2.2.2.2.2.2.2.2.2.2.1
theorem dL_law_854 : decode cL_law 854 = .ok (.iadd, 1) := dC_law_833.2.2.2.2.2.2.2.2.2.2.2.2.2.2.2
theorem dC_law_855 : (decode cL_law 855 = .ok (.iaload, 1)) ∧ (decode cL_law 856 = .ok (.aload_n 3, 1)) ∧ (decode cL_law 857 = .ok (.invokestatic 179, 3)) ∧ (decode cL_law 860 = .ok (.istore 5, 2)) ∧ (decode cL_law 862 = .ok (.aload_n 2, 1)) ∧ (decode cL_law 863 = .ok (.aload_n 0, 1)) ∧ (decode cL_law 864 = .ok (.iload 4, 2)) ∧ (decode cL_law 866 = .ok (.iconst 1, 1)) ∧ (decode cL_law 867 = .ok (.iadd, 1)) ∧ (decode cL_law 868 = .ok (.iaload, 1)) ∧ (decode cL_law 869 = .ok (.aload_n 0, 1)) ∧ (decode cL_law 870 = .ok (.iload 4, 2)) ∧ (decode cL_law 872 = .ok (.iconst 2, 1)) ∧ (decode cL_law 873 = .ok (.iadd, 1)) ∧ (decode cL_law 874 = .ok (.iaload, 1)) ∧ (decode cL_law 875 = .ok (.invokevirtual 181, 3)) := by decide +kernel
theorem dL_law_855 : decode cL_law 855 = .ok (.iaload, 1) := dC_law_855.1
theorem dL_law_856 : decode cL_law 856 = .ok (.aload_n 3, 1) := dC_law_855.2.1
theorem dL_law_857 : decode cL_law 857 = .ok (.invokestatic 179, 3) := dC_law_855.2.2.1
theorem dL_law_860 : decode cL_law 860 = .ok (.istore 5, 2) := dC_law_855.2.2.2.1
theorem dL_law_862 : decode cL_law 862 = .ok (.aload_n 2, 1) := dC_law_855.2.2.2.2.1
theorem dL_law_863 : decode cL_law 863 = .ok (.aload_n 0, 1) := dC_law_855.2.2.2.2.2.1
theorem dL_law_864 : decode cL_law 864 = .ok (.iload 4, 2) := dC_law_855.2.2.2.2.2.2.1
theorem dL_law_866 : decode cL_law 866 = .ok (.iconst 1, 1) := dC_law_855.2.2.2.2.2.2.2.1
theorem dL_law_867 : decode cL_law 867 = .ok (.iadd, 1) := dC_law_855.2.2.2.2.2.2.2.2.1
theorem dL_law_868 : decode cL_law 868 = .ok (.iaload, 1) := dC_law_855.2.2.2.2.2.2.2.2.2.1
theorem dL_law_869 : decode cL_law 869 = .ok (.aload_n 0, 1) := dC_law_855.2.2.2.2.2.2.2.2.2.2.1
theorem dL_law_870 : decode cL_law 870 = .ok (.iload 4, 2) := dC_law_855.2.2.2.2.2.2.2.2.2.2.2.1
theorem dL_law_872 : decode cL_law 872 = .ok (.iconst 2, 1) := dC_law_855.2.2.2.2.2.2.2.2.2.2.2.2.1
theorem dL_law_873 : decode cL_law 873 = .ok (.iadd, 1) := dC_law_855.2.2.2.2.2.2.2.2.2.2.2.2.2.1
theorem dL_law_874 : decode cL_law 874 = .ok (.iaload, 1) := dC_law_855.2.2.2.2.2.2.2.2.2.2.2.2.2.2.1
theorem dL_law_875 : decode cL_law 875 = .ok (.invokevirtual 181, 3) := dC_law_855.2.2.2.2.2.2.2.2.2.2.2.2.2.2.2
theorem dC_law_878 : (decode cL_law 878 = .ok (.istore 6, 2)) ∧ (decode cL_law 880 = .ok (.goto 794, 3)) ∧ (decode cL_law 883 = .ok (.aload_n 1, 1)) ∧ (decode cL_law 884 = .ok (.aload_n 0, 1)) ∧ (decode cL_law 885 = .ok (.iload 4, 2)) ∧ (decode cL_law 887 = .ok (.iconst 1, 1)) ∧ (decode cL_law 888 = .ok (.iadd, 1)) ∧ (decode cL_law 889 = .ok (.iaload, 1)) ∧ (decode cL_law 890 = .ok (.aload_n 3, 1)) ∧ (decode cL_law 891 = .ok (.invokestatic 182, 3)) ∧ (decode cL_law 894 = .ok (.istore 5, 2)) ∧ (decode cL_law 896 = .ok (.aload_n 2, 1)) ∧ (decode cL_law 897 = .ok (.aload_n 0, 1)) ∧ (decode cL_law 898 = .ok (.iload 4, 2)) ∧ (decode cL_law 900 = .ok (.iconst 1, 1)) ∧ (decode cL_law 901 = .ok (.iadd, 1)) := by decide +kernel
theorem dL_law_878 : decode cL_law 878 = .ok (.istore 6, 2) := dC_law_878.1
theorem dL_law_880 : decode cL_law 880 = .ok (.goto 794, 3) := dC_law_878.2.1
theorem dL_law_883 : decode cL_law 883 = .ok (.aload_n 1, 1) := dC_law_878.2.2.1
theorem dL_law_884 : decode cL_law 884 = .ok (.aload_n 0, 1) := dC_law_878.2.2.2.1
theorem dL_law_885 : decode cL_law 885 = .ok (.iload 4, 2) := dC_law_878.2.2.2.2.1
theorem dL_law_887 : decode cL_law 887 = .ok (.iconst 1, 1) := dC_law_878.2.2.2.2.2.1
theorem dL_law_888 : decode cL_law 888 = .ok (.iadd, 1) := dC_law_878.2.2.2.2.2.2.1
theorem dL_law_889 : decode cL_law 889 = .ok (.iaload, 1) := dC_law_878.2.2.2.2.2.2.2.1
theorem dL_law_890 : decode cL_law 890 = .ok (.aload_n 3, 1) := dC_law_878.2.2.2.2.2.2.2.2.1
theorem dL_law_891 : decode cL_law 891 = .ok (.invokestatic 182, 3) := dC_law_878.2.2.2.2.2.2.2.2.2.1
theorem dL_law_894 : decode cL_law 894 = .ok (.istore 5, 2) := dC_law_878.2.2.2.2.2.2.2.2.2.2.1
theorem dL_law_896 : decode cL_law 896 = .ok (.aload_n 2, 1) := dC_law_878.2.2.2.2.2.2.2.2.2.2.2.1
theorem dL_law_897 : decode cL_law 897 = .ok (.aload_n 0, 1) := dC_law_878.2.2.2.2.2.2.2.2.2.2.2.2.1
theorem dL_law_898 : decode cL_law 898 = .ok (.iload 4, 2) := dC_law_878.2.2.2.2.2.2.2.2.2.2.2.2.2.1
theorem dL_law_900 : decode cL_law 900 = .ok (.iconst 1, 1) := dC_law_878.2.2.2.2.2.2.2.2.2.2.2.2.2.2.1
theorem dL_law_901 : decode cL_law 901 = .ok (.iadd, 1) := dC_law_878.2.2.2.2.2.2.2.2.2.2.2.2.2.2.2
theorem dC_law_902 : (decode cL_law 902 = .ok (.iaload, 1)) ∧ (decode cL_law 903 = .ok (.invokevirtual 184, 3)) ∧ (decode cL_law 906 = .ok (.astore 6, 2)) ∧ (decode cL_law 908 = .ok (.goto 766, 3)) ∧ (decode cL_law 911 = .ok (.aload_n 1, 1)) ∧ (decode cL_law 912 = .ok (.aload_n 0, 1)) ∧ (decode cL_law 913 = .ok (.iload 4, 2)) ∧ (decode cL_law 915 = .ok (.iconst 1, 1)) ∧ (decode cL_law 916 = .ok (.iadd, 1)) ∧ (decode cL_law 917 = .ok (.iaload, 1)) ∧ (decode cL_law 918 = .ok (.aload_n 3, 1)) ∧ (decode cL_law 919 = .ok (.invokestatic 185, 3)) ∧ (decode cL_law 922 = .ok (.istore 5, 2)) ∧ (decode cL_law 924 = .ok (.aload_n 2, 1)) ∧ (decode cL_law 925 = .ok (.aload_n 0, 1)) ∧ (decode cL_law 926 = .ok (.iload 4, 2)) := by decide +kernel
theorem dL_law_902 : decode cL_law 902 = .ok (.iaload, 1) := dC_law_902.1
theorem dL_law_903 : decode cL_law 903 = .ok (.invokevirtual 184, 3) := dC_law_902.2.1
theorem dL_law_906 : decode cL_law 906 = .ok (.astore 6, 2) := dC_law_902.2.2.1
theorem dL_law_908 : decode cL_law 908 = .ok (.goto 766, 3) := dC_law_902.2.2.2.1
theorem dL_law_911 : decode cL_law 911 = .ok (.aload_n 1, 1) := dC_law_902.2.2.2.2.1
theorem dL_law_912 : decode cL_law 912 = .ok (.aload_n 0, 1) := dC_law_902.2.2.2.2.2.1
theorem dL_law_913 : decode cL_law 913 = .ok (.iload 4, 2) := dC_law_902.2.2.2.2.2.2.1
theorem dL_law_915 : decode cL_law 915 = .ok (.iconst 1, 1) := dC_law_902.2.2.2.2.2.2.2.1
theorem dL_law_916 : decode cL_law 916 = .ok (.iadd, 1) := dC_law_902.2.2.2.2.2.2.2.2.1
theorem dL_law_917 : decode cL_law 917 = .ok (.iaload, 1) := dC_law_902.2.2.2.2.2.2.2.2.2.1
theorem dL_law_918 : decode cL_law 918 = .ok (.aload_n 3, 1) := dC_law_902.2.2.2.2.2.2.2.2.2.2.1
theorem dL_law_919 : decode cL_law 919 = .ok (.invokestatic 185, 3) := dC_law_902.2.2.2.2.2.2.2.2.2.2.2.1
theorem dL_law_922 : decode cL_law 922 = .ok (.istore 5, 2) := dC_law_902.2.2.2.2.2.2.2.2.2.2.2.2.1
theorem dL_law_924 : decode cL_law 924 = .ok (.aload_n 2, 1) := dC_law_902.2.2.2.2.2.2.2.2.2.2.2.2.2.1
theorem dL_law_925 : decode cL_law 925 = .ok (.aload_n 0, 1) := dC_law_902.2.2.2.2.2.2.2.2.2.2.2.2.2.2.1
theorem dL_law_926 : decode cL_law 926 = .ok (.iload 4, 2) := dC_law_902.2.2.2.2.2.2.2.2.2.2.2.2.2.2.2
theorem dC_law_928 : (decode cL_law 928 = .ok (.iconst 1, 1)) ∧ (decode cL_law 929 = .ok (.iadd, 1)) ∧ (decode cL_law 930 = .ok (.iaload, 1)) ∧ (decode cL_law 931 = .ok (.invokevirtual 187, 3)) ∧ (decode cL_law 934 = .ok (.istore 6, 2)) ∧ (decode cL_law 936 = .ok (.goto 738, 3)) ∧ (decode cL_law 939 = .ok (.aload_n 1, 1)) ∧ (decode cL_law 940 = .ok (.aload_n 0, 1)) ∧ (decode cL_law 941 = .ok (.iload 4, 2)) ∧ (decode cL_law 943 = .ok (.iconst 1, 1)) ∧ (decode cL_law 944 = .ok (.iadd, 1)) ∧ (decode cL_law 945 = .ok (.iaload, 1)) ∧ (decode cL_law 946 = .ok (.aload_n 0, 1)) ∧ (decode cL_law 947 = .ok (.iload 4, 2)) ∧ (decode cL_law 949 = .ok (.iconst 2, 1)) ∧ (decode cL_law 950 = .ok (.iadd, 1)) := by decide +kernel
theorem dL_law_928 : decode cL_law 928 = .ok (.iconst 1, 1) := dC_law_928.1
theorem dL_law_929 : decode cL_law 929 = .ok (.iadd, 1) := dC_law_928.2.1
theorem dL_law_930 : decode cL_law 930 = .ok (.iaload, 1) := dC_law_928.2.2.1
theorem dL_law_931 : decode cL_law 931 = .ok (.invokevirtual 187, 3) := dC_law_928.2.2.2.1
theorem dL_law_934 : decode cL_law 934 = .ok (.istore 6, 2) := dC_law_928.2.2.2.2.1
theorem dL_law_936 : decode cL_law 936 = .ok (.goto 738, 3) := dC_law_928.2.2.2.2.2.1
theorem dL_law_939 : decode cL_law 939 = .ok (.aload_n 1, 1) := dC_law_928.2.2.2.2.2.2.1
theorem dL_law_940 : decode cL_law 940 = .ok (.aload_n 0, 1) := dC_law_928.2.2.2.2.2.2.2.1
theorem dL_law_941 : decode cL_law 941 = .ok (.iload 4, 2) := dC_law_928.2.2.2.2.2.2.2.2.1
theorem dL_law_943 : decode cL_law 943 = .ok (.iconst 1, 1) := dC_law_928.2.2.2.2.2.2.2.2.2.1
theorem dL_law_944 : decode cL_law 944 = .ok (.iadd, 1) := dC_law_928.2.2.2.2.2.2.2.2.2.2.1
theorem dL_law_945 : decode cL_law 945 = .ok (.iaload, 1) := dC_law_928.2.2.2.2.2.2.2.2.2.2.2.1
theorem dL_law_946 : decode cL_law 946 = .ok (.aload_n 0, 1) := dC_law_928.2.2.2.2.2.2.2.2.2.2.2.2.1
theorem dL_law_947 : decode cL_law 947 = .ok (.iload 4, 2) := dC_law_928.2.2.2.2.2.2.2.2.2.2.2.2.2.1
theorem dL_law_949 : decode cL_law 949 = .ok (.iconst 2, 1) := dC_law_928.2.2.2.2.2.2.2.2.2.2.2.2.2.2.1
theorem dL_law_950 : decode cL_law 950 = .ok (.iadd, 1) := dC_law_928.2.2.2.2.2.2.2.2.2.2.2.2.2.2.2
theorem dC_law_951 : (decode cL_law 951 = .ok (.iaload, 1)) ∧ (decode cL_law 952 = .ok (.aload_n 3, 1)) ∧ (decode cL_law 953 = .ok (.invokestatic 188, 3)) ∧ (decode cL_law 956 = .ok (.istore 5, 2)) ∧ (decode cL_law 958 = .ok (.aload_n 2, 1)) ∧ (decode cL_law 959 = .ok (.aload_n 0, 1)) ∧ (decode cL_law 960 = .ok (.iload 4, 2)) ∧ (decode cL_law 962 = .ok (.iconst 1, 1)) ∧ (decode cL_law 963 = .ok (.iadd, 1)) ∧ (decode cL_law 964 = .ok (.iaload, 1)) ∧ (decode cL_law 965 = .ok (.aload_n 0, 1)) ∧ (decode cL_law 966 = .ok (.iload 4, 2)) ∧ (decode cL_law 968 = .ok (.iconst 2, 1)) ∧ (decode cL_law 969 = .ok (.iadd, 1)) ∧ (decode cL_law 970 = .ok (.iaload, 1)) ∧ (decode cL_law 971 = .ok (.invokevirtual 190, 3)) := by decide +kernel
theorem dL_law_951 : decode cL_law 951 = .ok (.iaload, 1) := dC_law_951.1
theorem dL_law_952 : decode cL_law 952 = .ok (.aload_n 3, 1) := dC_law_951.2.1
theorem dL_law_953 : decode cL_law 953 = .ok (.invokestatic 188, 3) := dC_law_951.2.2.1
theorem dL_law_956 : decode cL_law 956 = .ok (.istore 5, 2) := dC_law_951.2.2.2.1
theorem dL_law_958 : decode cL_law 958 = .ok (.aload_n 2, 1) := dC_law_951.2.2.2.2.1
theorem dL_law_959 : decode cL_law 959 = .ok (.aload_n 0, 1) := dC_law_951.2.2.2.2.2.1
theorem dL_law_960 : decode cL_law 960 = .ok (.iload 4, 2) := dC_law_951.2.2.2.2.2.2.1
theorem dL_law_962 : decode cL_law 962 = .ok (.iconst 1, 1) := dC_law_951.2.2.2.2.2.2.2.1
theorem dL_law_963 : decode cL_law 963 = .ok (.iadd, 1) := dC_law_951.2.2.2.2.2.2.2.2.1
theorem dL_law_964 : decode cL_law 964 = .ok (.iaload, 1) := dC_law_951.2.2.2.2.2.2.2.2.2.1
theorem dL_law_965 : decode cL_law 965 = .ok (.aload_n 0, 1) := dC_law_951.2.2.2.2.2.2.2.2.2.2.1
theorem dL_law_966 : decode cL_law 966 = .ok (.iload 4, 2) := dC_law_951.2.2.2.2.2.2.2.2.2.2.2.1
theorem dL_law_968 : decode cL_law 968 = .ok (.iconst 2, 1) := dC_law_951.2.2.2.2.2.2.2.2.2.2.2.2.1
theorem dL_law_969 : decode cL_law 969 = .ok (.iadd, 1) := dC_law_951.2.2.2.2.2.2.2.2.2.2.2.2.2.1
theorem dL_law_970 : decode cL_law 970 = .ok (.iaload, 1) := dC_law_951.2.2.2.2.2.2.2.2.2.2.2.2.2.2.1
theorem dL_law_971 : decode cL_law 971 = .ok (.invokevirtual 190, 3) := dC_law_951.2.2.2.2.2.2.2.2.2.2.2.2.2.2.2
theorem dC_law_974 : (decode cL_law 974 = .ok (.istore 6, 2)) ∧ (decode cL_law 976 = .ok (.goto 698, 3)) ∧ (decode cL_law 979 = .ok (.aload_n 1, 1)) ∧ (decode cL_law 980 = .ok (.aload_n 0, 1)) ∧ (decode cL_law 981 = .ok (.iload 4, 2)) ∧ (decode cL_law 983 = .ok (.iconst 1, 1)) ∧ (decode cL_law 984 = .ok (.iadd, 1)) ∧ (decode cL_law 985 = .ok (.iaload, 1)) ∧ (decode cL_law 986 = .ok (.aload_n 0, 1)) ∧ (decode cL_law 987 = .ok (.iload 4, 2)) ∧ (decode cL_law 989 = .ok (.iconst 2, 1)) ∧ (decode cL_law 990 = .ok (.iadd, 1)) ∧ (decode cL_law 991 = .ok (.iaload, 1)) ∧ (decode cL_law 992 = .ok (.aload_n 0, 1)) ∧ (decode cL_law 993 = .ok (.iload 4, 2)) ∧ (decode cL_law 995 = .ok (.iconst 3, 1)) := by decide +kernel
theorem dL_law_974 : decode cL_law 974 = .ok (.istore 6, 2) := dC_law_974.1
theorem dL_law_976 : decode cL_law 976 = .ok (.goto 698, 3) := dC_law_974.2.1
theorem dL_law_979 : decode cL_law 979 = .ok (.aload_n 1, 1) := dC_law_974.2.2.1
theorem dL_law_980 : decode cL_law 980 = .ok (.aload_n 0, 1) := dC_law_974.2.2.2.1
theorem dL_law_981 : decode cL_law 981 = .ok (.iload 4, 2) := dC_law_974.2.2.2.2.1
theorem dL_law_983 : decode cL_law 983 = .ok (.iconst 1, 1) := dC_law_974.2.2.2.2.2.1
theorem dL_law_984 : decode cL_law 984 = .ok (.iadd, 1) := dC_law_974.2.2.2.2.2.2.1
theorem dL_law_985 : decode cL_law 985 = .ok (.iaload, 1) := dC_law_974.2.2.2.2.2.2.2.1
theorem dL_law_986 : decode cL_law 986 = .ok (.aload_n 0, 1) := dC_law_974.2.2.2.2.2.2.2.2.1
theorem dL_law_987 : decode cL_law 987 = .ok (.iload 4, 2) := dC_law_974.2.2.2.2.2.2.2.2.2.1
theorem dL_law_989 : decode cL_law 989 = .ok (.iconst 2, 1) := dC_law_974.2.2.2.2.2.2.2.2.2.2.1
theorem dL_law_990 : decode cL_law 990 = .ok (.iadd, 1) := dC_law_974.2.2.2.2.2.2.2.2.2.2.2.1
theorem dL_law_991 : decode cL_law 991 = .ok (.iaload, 1) := dC_law_974.2.2.2.2.2.2.2.2.2.2.2.2.1
theorem dL_law_992 : decode cL_law 992 = .ok (.aload_n 0, 1) := dC_law_974.2.2.2.2.2.2.2.2.2.2.2.2.2.1
theorem dL_law_993 : decode cL_law 993 = .ok (.iload 4, 2) := dC_law_974.2.2.2.2.2.2.2.2.2.2.2.2.2.2.1
theorem dL_law_995 : decode cL_law 995 = .ok (.iconst 3, 1) := dC_law_974.2.2.2.2.2.2.2.2.2.2.2.2.2.2.2
theorem dC_law_996 : (decode cL_law 996 = .ok (.iadd, 1)) ∧ (decode cL_law 997 = .ok (.iaload, 1)) ∧ (decode cL_law 998 = .ok (.aload_n 3, 1)) ∧ (decode cL_law 999 = .ok (.invokestatic 191, 3)) ∧ (decode cL_law 1002 = .ok (.istore 5, 2)) ∧ (decode cL_law 1004 = .ok (.aload_n 2, 1)) ∧ (decode cL_law 1005 = .ok (.aload_n 0, 1)) ∧ (decode cL_law 1006 = .ok (.iload 4, 2)) ∧ (decode cL_law 1008 = .ok (.iconst 1, 1)) ∧ (decode cL_law 1009 = .ok (.iadd, 1)) ∧ (decode cL_law 1010 = .ok (.iaload, 1)) ∧ (decode cL_law 1011 = .ok (.aload_n 0, 1)) ∧ (decode cL_law 1012 = .ok (.iload 4, 2)) ∧ (decode cL_law 1014 = .ok (.iconst 2, 1)) ∧ (decode cL_law 1015 = .ok (.iadd, 1)) ∧ (decode cL_law 1016 = .ok (.iaload, 1)) := by decide +kernel
theorem dL_law_996 : decode cL_law 996 = .ok (.iadd, 1) := dC_law_996.1
theorem dL_law_997 : decode cL_law 997 = .ok (.iaload, 1) := dC_law_996.2.1
theorem dL_law_998 : decode cL_law 998 = .ok (.aload_n 3, 1) := dC_law_996.2.2.1
theorem dL_law_999 : decode cL_law 999 = .ok (.invokestatic 191, 3) := dC_law_996.2.2.2.1
theorem dL_law_1002 : decode cL_law 1002 = .ok (.istore 5, 2) := dC_law_996.2.2.2.2.1
theorem dL_law_1004 : decode cL_law 1004 = .ok (.aload_n 2, 1) := dC_law_996.2.2.2.2.2.1
theorem dL_law_1005 : decode cL_law 1005 = .ok (.aload_n 0, 1) := dC_law_996.2.2.2.2.2.2.1
theorem dL_law_1006 : decode cL_law 1006 = .ok (.iload 4, 2) := dC_law_996.2.2.2.2.2.2.2.1
theorem dL_law_1008 : decode cL_law 1008 = .ok (.iconst 1, 1) := dC_law_996.2.2.2.2.2.2.2.2.1
theorem dL_law_1009 : decode cL_law 1009 = .ok (.iadd, 1) := dC_law_996.2.2.2.2.2.2.2.2.2.1
theorem dL_law_1010 : decode cL_law 1010 = .ok (.iaload, 1) := dC_law_996.2.2.2.2.2.2.2.2.2.2.1
theorem dL_law_1011 : decode cL_law 1011 = .ok (.aload_n 0, 1) := dC_law_996.2.2.2.2.2.2.2.2.2.2.2.1
theorem dL_law_1012 : decode cL_law 1012 = .ok (.iload 4, 2) := dC_law_996.2.2.2.2.2.2.2.2.2.2.2.2.1
theorem dL_law_1014 : decode cL_law 1014 = .ok (.iconst 2, 1) := dC_law_996.2.2.2.2.2.2.2.2.2.2.2.2.2.1
theorem dL_law_1015 : decode cL_law 1015 = .ok (.iadd, 1) := dC_law_996.2.2.2.2.2.2.2.2.2.2.2.2.2.2.1
theorem dL_law_1016 : decode cL_law 1016 = .ok (.iaload, 1) := dC_law_996.2.2.2.2.2.2.2.2.2.2.2.2.2.2.2
theorem dC_law_1017 : (decode cL_law 1017 = .ok (.aload_n 0, 1)) ∧ (decode cL_law 1018 = .ok (.iload 4, 2)) ∧ (decode cL_law 1020 = .ok (.iconst 3, 1)) ∧ (decode cL_law 1021 = .ok (.iadd, 1)) ∧ (decode cL_law 1022 = .ok (.iaload, 1)) ∧ (decode cL_law 1023 = .ok (.invokevirtual 193, 3)) ∧ (decode cL_law 1026 = .ok (.astore 6, 2)) ∧ (decode cL_law 1028 = .ok (.goto 646, 3)) ∧ (decode cL_law 1031 = .ok (.aload_n 1, 1)) ∧ (decode cL_law 1032 = .ok (.aload_n 0, 1)) ∧ (decode cL_law 1033 = .ok (.iload 4, 2)) ∧ (decode cL_law 1035 = .ok (.iconst 1, 1)) ∧ (decode cL_law 1036 = .ok (.iadd, 1)) ∧ (decode cL_law 1037 = .ok (.iaload, 1)) ∧ (decode cL_law 1038 = .ok (.aload_n 3, 1)) ∧ (decode cL_law 1039 = .ok (.invokestatic 194, 3)) := by decide +kernel
theorem dL_law_1017 : decode cL_law 1017 = .ok (.aload_n 0, 1) := dC_law_1017.1
theorem dL_law_1018 : decode cL_law 1018 = .ok (.iload 4, 2) := dC_law_1017.2.1
theorem dL_law_1020 : decode cL_law 1020 = .ok (.iconst 3, 1) := dC_law_1017.2.2.1
theorem dL_law_1021 : decode cL_law 1021 = .ok (.iadd, 1) := dC_law_1017.2.2.2.1
theorem dL_law_1022 : decode cL_law 1022 = .ok (.iaload, 1) := dC_law_1017.2.2.2.2.1
theorem dL_law_1023 : decode cL_law 1023 = .ok (.invokevirtual 193, 3) := dC_law_1017.2.2.2.2.2.1
theorem dL_law_1026 : decode cL_law 1026 = .ok (.astore 6, 2) := dC_law_1017.2.2.2.2.2.2.1
theorem dL_law_1028 : decode cL_law 1028 = .ok (.goto 646, 3) := dC_law_1017.2.2.2.2.2.2.2.1
theorem dL_law_1031 : decode cL_law 1031 = .ok (.aload_n 1, 1) := dC_law_1017.2.2.2.2.2.2.2.2.1
theorem dL_law_1032 : decode cL_law 1032 = .ok (.aload_n 0, 1) := dC_law_1017.2.2.2.2.2.2.2.2.2.1
theorem dL_law_1033 : decode cL_law 1033 = .ok (.iload 4, 2) := dC_law_1017.2.2.2.2.2.2.2.2.2.2.1
theorem dL_law_1035 : decode cL_law 1035 = .ok (.iconst 1, 1) := dC_law_1017.2.2.2.2.2.2.2.2.2.2.2.1
theorem dL_law_1036 : decode cL_law 1036 = .ok (.iadd, 1) := dC_law_1017.2.2.2.2.2.2.2.2.2.2.2.2.1
theorem dL_law_1037 : decode cL_law 1037 = .ok (.iaload, 1) := dC_law_1017.2.2.2.2.2.2.2.2.2.2.2.2.2.1
theorem dL_law_1038 : decode cL_law 1038 = .ok (.aload_n 3, 1) := dC_law_1017.2.2.2.2.2.2.2.2.2.2.2.2.2.2.1
theorem dL_law_1039 : decode cL_law 1039 = .ok (.invokestatic 194, 3) := dC_law_1017.2.2.2.2.2.2.2.2.2.2.2.2.2.2.2
theorem dC_law_1042 : (decode cL_law 1042 = .ok (.istore 5, 2)) ∧ (decode cL_law 1044 = .ok (.aload_n 2, 1)) ∧ (decode cL_law 1045 = .ok (.aload_n 0, 1)) ∧ (decode cL_law 1046 = .ok (.iload 4, 2)) ∧ (decode cL_law 1048 = .ok (.iconst 1, 1)) ∧ (decode cL_law 1049 = .ok (.iadd, 1)) ∧ (decode cL_law 1050 = .ok (.iaload, 1)) ∧ (decode cL_law 1051 = .ok (.invokevirtual 196, 3)) ∧ (decode cL_law 1054 = .ok (.istore 6, 2)) ∧ (decode cL_law 1056 = .ok (.goto 618, 3)) ∧ (decode cL_law 1059 = .ok (.aload_n 1, 1)) ∧ (decode cL_law 1060 = .ok (.aload_n 0, 1)) ∧ (decode cL_law 1061 = .ok (.iload 4, 2)) ∧ (decode cL_law 1063 = .ok (.iconst 1, 1)) ∧ (decode cL_law 1064 = .ok (.iadd, 1)) ∧ (decode cL_law 1065 = .ok (.iaload, 1)) := by decide +kernel
theorem dL_law_1042 : decode cL_law 1042 = .ok (.istore 5, 2) := dC_law_1042.1
theorem dL_law_1044 : decode cL_law 1044 = .ok (.aload_n 2, 1) := dC_law_1042.2.1
theorem dL_law_1045 : decode cL_law 1045 = .ok (.aload_n 0, 1) := dC_law_1042.2.2.1
theorem dL_law_1046 : decode cL_law 1046 = .ok (.iload 4, 2) := dC_law_1042.2.2.2.1
theorem dL_law_1048 : decode cL_law 1048 = .ok (.iconst 1, 1) := dC_law_1042.2.2.2.2.1
theorem dL_law_1049 : decode cL_law 1049 = .ok (.iadd, 1) := dC_law_1042.2.2.2.2.2.1
theorem dL_law_1050 : decode cL_law 1050 = .ok (.iaload, 1) := dC_law_1042.2.2.2.2.2.2.1
theorem dL_law_1051 : decode cL_law 1051 = .ok (.invokevirtual 196, 3) := dC_law_1042.2.2.2.2.2.2.2.1
theorem dL_law_1054 : decode cL_law 1054 = .ok (.istore 6, 2) := dC_law_1042.2.2.2.2.2.2.2.2.1
theorem dL_law_1056 : decode cL_law 1056 = .ok (.goto 618, 3) := dC_law_1042.2.2.2.2.2.2.2.2.2.1
theorem dL_law_1059 : decode cL_law 1059 = .ok (.aload_n 1, 1) := dC_law_1042.2.2.2.2.2.2.2.2.2.2.1
theorem dL_law_1060 : decode cL_law 1060 = .ok (.aload_n 0, 1) := dC_law_1042.2.2.2.2.2.2.2.2.2.2.2.1
theorem dL_law_1061 : decode cL_law 1061 = .ok (.iload 4, 2) := dC_law_1042.2.2.2.2.2.2.2.2.2.2.2.2.1
theorem dL_law_1063 : decode cL_law 1063 = .ok (.iconst 1, 1) := dC_law_1042.2.2.2.2.2.2.2.2.2.2.2.2.2.1
theorem dL_law_1064 : decode cL_law 1064 = .ok (.iadd, 1) := dC_law_1042.2.2.2.2.2.2.2.2.2.2.2.2.2.2.1
theorem dL_law_1065 : decode cL_law 1065 = .ok (.iaload, 1) := dC_law_1042.2.2.2.2.2.2.2.2.2.2.2.2.2.2.2
theorem dC_law_1066 : (decode cL_law 1066 = .ok (.aload_n 0, 1)) ∧ (decode cL_law 1067 = .ok (.iload 4, 2)) ∧ (decode cL_law 1069 = .ok (.iconst 2, 1)) ∧ (decode cL_law 1070 = .ok (.iadd, 1)) ∧ (decode cL_law 1071 = .ok (.iaload, 1)) ∧ (decode cL_law 1072 = .ok (.aload_n 3, 1)) ∧ (decode cL_law 1073 = .ok (.invokestatic 197, 3)) ∧ (decode cL_law 1076 = .ok (.istore 5, 2)) ∧ (decode cL_law 1078 = .ok (.aload_n 2, 1)) ∧ (decode cL_law 1079 = .ok (.aload_n 0, 1)) ∧ (decode cL_law 1080 = .ok (.iload 4, 2)) ∧ (decode cL_law 1082 = .ok (.iconst 1, 1)) ∧ (decode cL_law 1083 = .ok (.iadd, 1)) ∧ (decode cL_law 1084 = .ok (.iaload, 1)) ∧ (decode cL_law 1085 = .ok (.aload_n 0, 1)) ∧ (decode cL_law 1086 = .ok (.iload 4, 2)) := by decide +kernel
theorem dL_law_1066 : decode cL_law 1066 = .ok (.aload_n 0, 1) := dC_law_1066.1
theorem dL_law_1067 : decode cL_law 1067 = .ok (.iload 4, 2) := dC_law_1066.2.1
theorem dL_law_1069 : decode cL_law 1069 = .ok (.iconst 2, 1) := dC_law_1066.2.2.1
theorem dL_law_1070 : decode cL_law 1070 = .ok (.iadd, 1) := dC_law_1066.2.2.2.1
theorem dL_law_1071 : decode cL_law 1071 = .ok (.iaload, 1) := dC_law_1066.2.2.2.2.1
theorem dL_law_1072 : decode cL_law 1072 = .ok (.aload_n 3, 1) := dC_law_1066.2.2.2.2.2.1
theorem dL_law_1073 : decode cL_law 1073 = .ok (.invokestatic 197, 3) := dC_law_1066.2.2.2.2.2.2.1
theorem dL_law_1076 : decode cL_law 1076 = .ok (.istore 5, 2) := dC_law_1066.2.2.2.2.2.2.2.1
theorem dL_law_1078 : decode cL_law 1078 = .ok (.aload_n 2, 1) := dC_law_1066.2.2.2.2.2.2.2.2.1
theorem dL_law_1079 : decode cL_law 1079 = .ok (.aload_n 0, 1) := dC_law_1066.2.2.2.2.2.2.2.2.2.1
theorem dL_law_1080 : decode cL_law 1080 = .ok (.iload 4, 2) := dC_law_1066.2.2.2.2.2.2.2.2.2.2.1
theorem dL_law_1082 : decode cL_law 1082 = .ok (.iconst 1, 1) := dC_law_1066.2.2.2.2.2.2.2.2.2.2.2.1
theorem dL_law_1083 : decode cL_law 1083 = .ok (.iadd, 1) := dC_law_1066.2.2.2.2.2.2.2.2.2.2.2.2.1
theorem dL_law_1084 : decode cL_law 1084 = .ok (.iaload, 1) := dC_law_1066.2.2.2.2.2.2.2.2.2.2.2.2.2.1
theorem dL_law_1085 : decode cL_law 1085 = .ok (.aload_n 0, 1) := dC_law_1066.2.2.2.2.2.2.2.2.2.2.2.2.2.2.1
theorem dL_law_1086 : decode cL_law 1086 = .ok (.iload 4, 2) := dC_law_1066.2.2.2.2.2.2.2.2.2.2.2.2.2.2.2
theorem dC_law_1088 : (decode cL_law 1088 = .ok (.iconst 2, 1)) ∧ (decode cL_law 1089 = .ok (.iadd, 1)) ∧ (decode cL_law 1090 = .ok (.iaload, 1)) ∧ (decode cL_law 1091 = .ok (.invokevirtual 199, 3)) ∧ (decode cL_law 1094 = .ok (.istore 6, 2)) ∧ (decode cL_law 1096 = .ok (.goto 578, 3)) ∧ (decode cL_law 1099 = .ok (.aload_n 1, 1)) ∧ (decode cL_law 1100 = .ok (.aload_n 0, 1)) ∧ (decode cL_law 1101 = .ok (.iload 4, 2)) ∧ (decode cL_law 1103 = .ok (.iconst 1, 1)) ∧ (decode cL_law 1104 = .ok (.iadd, 1)) ∧ (decode cL_law 1105 = .ok (.iaload, 1)) ∧ (decode cL_law 1106 = .ok (.aload_n 0, 1)) ∧ (decode cL_law 1107 = .ok (.iload 4, 2)) ∧ (decode cL_law 1109 = .ok (.iconst 2, 1)) ∧ (decode cL_law 1110 = .ok (.iadd, 1)) := by decide +kernel
theorem dL_law_1088 : decode cL_law 1088 = .ok (.iconst 2, 1) := dC_law_1088.1
theorem dL_law_1089 : decode cL_law 1089 = .ok (.iadd, 1) := dC_law_1088.2.1
theorem dL_law_1090 : decode cL_law 1090 = .ok (.iaload, 1) := dC_law_1088.2.2.1
theorem dL_law_1091 : decode cL_law 1091 = .ok (.invokevirtual 199, 3) := dC_law_1088.2.2.2.1
theorem dL_law_1094 : decode cL_law 1094 = .ok (.istore 6, 2) := dC_law_1088.2.2.2.2.1
theorem dL_law_1096 : decode cL_law 1096 = .ok (.goto 578, 3) := dC_law_1088.2.2.2.2.2.1
theorem dL_law_1099 : decode cL_law 1099 = .ok (.aload_n 1, 1) := dC_law_1088.2.2.2.2.2.2.1
theorem dL_law_1100 : decode cL_law 1100 = .ok (.aload_n 0, 1) := dC_law_1088.2.2.2.2.2.2.2.1
theorem dL_law_1101 : decode cL_law 1101 = .ok (.iload 4, 2) := dC_law_1088.2.2.2.2.2.2.2.2.1
theorem dL_law_1103 : decode cL_law 1103 = .ok (.iconst 1, 1) := dC_law_1088.2.2.2.2.2.2.2.2.2.1
theorem dL_law_1104 : decode cL_law 1104 = .ok (.iadd, 1) := dC_law_1088.2.2.2.2.2.2.2.2.2.2.1
theorem dL_law_1105 : decode cL_law 1105 = .ok (.iaload, 1) := dC_law_1088.2.2.2.2.2.2.2.2.2.2.2.1
theorem dL_law_1106 : decode cL_law 1106 = .ok (.aload_n 0, 1) := dC_law_1088.2.2.2.2.2.2.2.2.2.2.2.2.1
theorem dL_law_1107 : decode cL_law 1107 = .ok (.iload 4, 2) := dC_law_1088.2.2.2.2.2.2.2.2.2.2.2.2.2.1
theorem dL_law_1109 : decode cL_law 1109 = .ok (.iconst 2, 1) := dC_law_1088.2.2.2.2.2.2.2.2.2.2.2.2.2.2.1
theorem dL_law_1110 : decode cL_law 1110 = .ok (.iadd, 1) := dC_law_1088.2.2.2.2.2.2.2.2.2.2.2.2.2.2.2
theorem dC_law_1111 : (decode cL_law 1111 = .ok (.iaload, 1)) ∧ (decode cL_law 1112 = .ok (.aload_n 0, 1)) ∧ (decode cL_law 1113 = .ok (.iload 4, 2)) ∧ (decode cL_law 1115 = .ok (.iconst 3, 1)) ∧ (decode cL_law 1116 = .ok (.iadd, 1)) ∧ (decode cL_law 1117 = .ok (.iaload, 1)) ∧ (decode cL_law 1118 = .ok (.aload_n 0, 1)) ∧ (decode cL_law 1119 = .ok (.iload 4, 2)) ∧ (decode cL_law 1121 = .ok (.iconst 4, 1)) ∧ (decode cL_law 1122 = .ok (.iadd, 1)) ∧ (decode cL_law 1123 = .ok (.iaload, 1)) ∧ (decode cL_law 1124 = .ok (.aload_n 3, 1)) ∧ (decode cL_law 1125 = .ok (.invokestatic 200, 3)) ∧ (decode cL_law 1128 = .ok (.istore 5, 2)) ∧ (decode cL_law 1130 = .ok (.aload_n 2, 1)) ∧ (decode cL_law 1131 = .ok (.aload_n 0, 1)) := by decide +kernel
theorem dL_law_1111 : decode cL_law 1111 = .ok (.iaload, 1) := dC_law_1111.1
theorem dL_law_1112 : decode cL_law 1112 = .ok (.aload_n 0, 1) := dC_law_1111.2.1
theorem dL_law_1113 : decode cL_law 1113 = .ok (.iload 4, 2) := dC_law_1111.2.2.1
theorem dL_law_1115 : decode cL_law 1115 = .ok (.iconst 3, 1) := dC_law_1111.2.2.2.1
theorem dL_law_1116 : decode cL_law 1116 = .ok (.iadd, 1) := dC_law_1111.2.2.2.2.1
theorem dL_law_1117 : decode cL_law 1117 = .ok (.iaload, 1) := dC_law_1111.2.2.2.2.2.1
theorem dL_law_1118 : decode cL_law 1118 = .ok (.aload_n 0, 1) := dC_law_1111.2.2.2.2.2.2.1
theorem dL_law_1119 : decode cL_law 1119 = .ok (.iload 4, 2) := dC_law_1111.2.2.2.2.2.2.2.1
theorem dL_law_1121 : decode cL_law 1121 = .ok (.iconst 4, 1) := dC_law_1111.2.2.2.2.2.2.2.2.1
theorem dL_law_1122 : decode cL_law 1122 = .ok (.iadd, 1) := dC_law_1111.2.2.2.2.2.2.2.2.2.1
theorem dL_law_1123 : decode cL_law 1123 = .ok (.iaload, 1) := dC_law_1111.2.2.2.2.2.2.2.2.2.2.1
theorem dL_law_1124 : decode cL_law 1124 = .ok (.aload_n 3, 1) := dC_law_1111.2.2.2.2.2.2.2.2.2.2.2.1
theorem dL_law_1125 : decode cL_law 1125 = .ok (.invokestatic 200, 3) := dC_law_1111.2.2.2.2.2.2.2.2.2.2.2.2.1
theorem dL_law_1128 : decode cL_law 1128 = .ok (.istore 5, 2) := dC_law_1111.2.2.2.2.2.2.2.2.2.2.2.2.2.1
theorem dL_law_1130 : decode cL_law 1130 = .ok (.aload_n 2, 1) := dC_law_1111.2.2.2.2.2.2.2.2.2.2.2.2.2.2.1
theorem dL_law_1131 : decode cL_law 1131 = .ok (.aload_n 0, 1) := dC_law_1111.2.2.2.2.2.2.2.2.2.2.2.2.2.2.2
theorem dC_law_1132 : (decode cL_law 1132 = .ok (.iload 4, 2)) ∧ (decode cL_law 1134 = .ok (.iconst 1, 1)) ∧ (decode cL_law 1135 = .ok (.iadd, 1)) ∧ (decode cL_law 1136 = .ok (.iaload, 1)) ∧ (decode cL_law 1137 = .ok (.aload_n 0, 1)) ∧ (decode cL_law 1138 = .ok (.iload 4, 2)) ∧ (decode cL_law 1140 = .ok (.iconst 2, 1)) ∧ (decode cL_law 1141 = .ok (.iadd, 1)) ∧ (decode cL_law 1142 = .ok (.iaload, 1)) ∧ (decode cL_law 1143 = .ok (.aload_n 0, 1)) ∧ (decode cL_law 1144 = .ok (.iload 4, 2)) ∧ (decode cL_law 1146 = .ok (.iconst 3, 1)) ∧ (decode cL_law 1147 = .ok (.iadd, 1)) ∧ (decode cL_law 1148 = .ok (.iaload, 1)) ∧ (decode cL_law 1149 = .ok (.aload_n 0, 1)) ∧ (decode cL_law 1150 = .ok (.iload 4, 2)) := by decide +kernel
theorem dL_law_1132 : decode cL_law 1132 = .ok (.iload 4, 2) := dC_law_1132.1
theorem dL_law_1134 : decode cL_law 1134 = .ok (.iconst 1, 1) := dC_law_1132.2.1
theorem dL_law_1135 : decode cL_law 1135 = .ok (.iadd, 1) := dC_law_1132.2.2.1
theorem dL_law_1136 : decode cL_law 1136 = .ok (.iaload, 1) := dC_law_1132.2.2.2.1
theorem dL_law_1137 : decode cL_law 1137 = .ok (.aload_n 0, 1) := dC_law_1132.2.2.2.2.1
theorem dL_law_1138 : decode cL_law 1138 = .ok (.iload 4, 2) := dC_law_1132.2.2.2.2.2.1
theorem dL_law_1140 : decode cL_law 1140 = .ok (.iconst 2, 1) := dC_law_1132.2.2.2.2.2.2.1
theorem dL_law_1141 : decode cL_law 1141 = .ok (.iadd, 1) := dC_law_1132.2.2.2.2.2.2.2.1
theorem dL_law_1142 : decode cL_law 1142 = .ok (.iaload, 1) := dC_law_1132.2.2.2.2.2.2.2.2.1
theorem dL_law_1143 : decode cL_law 1143 = .ok (.aload_n 0, 1) := dC_law_1132.2.2.2.2.2.2.2.2.2.1
theorem dL_law_1144 : decode cL_law 1144 = .ok (.iload 4, 2) := dC_law_1132.2.2.2.2.2.2.2.2.2.2.1
theorem dL_law_1146 : decode cL_law 1146 = .ok (.iconst 3, 1) := dC_law_1132.2.2.2.2.2.2.2.2.2.2.2.1
theorem dL_law_1147 : decode cL_law 1147 = .ok (.iadd, 1) := dC_law_1132.2.2.2.2.2.2.2.2.2.2.2.2.1
theorem dL_law_1148 : decode cL_law 1148 = .ok (.iaload, 1) := dC_law_1132.2.2.2.2.2.2.2.2.2.2.2.2.2.1
theorem dL_law_1149 : decode cL_law 1149 = .ok (.aload_n 0, 1) := dC_law_1132.2.2.2.2.2.2.2.2.2.2.2.2.2.2.1
theorem dL_law_1150 : decode cL_law 1150 = .ok (.iload 4, 2) := dC_law_1132.2.2.2.2.2.2.2.2.2.2.2.2.2.2.2
theorem dC_law_1152 : (decode cL_law 1152 = .ok (.iconst 4, 1)) ∧ (decode cL_law 1153 = .ok (.iadd, 1)) ∧ (decode cL_law 1154 = .ok (.iaload, 1)) ∧ (decode cL_law 1155 = .ok (.invokevirtual 202, 3)) ∧ (decode cL_law 1158 = .ok (.istore 6, 2)) ∧ (decode cL_law 1160 = .ok (.goto 514, 3)) ∧ (decode cL_law 1163 = .ok (.aload_n 1, 1)) ∧ (decode cL_law 1164 = .ok (.aload_n 0, 1)) ∧ (decode cL_law 1165 = .ok (.iload 4, 2)) ∧ (decode cL_law 1167 = .ok (.iconst 1, 1)) ∧ (decode cL_law 1168 = .ok (.iadd, 1)) ∧ (decode cL_law 1169 = .ok (.iaload, 1)) ∧ (decode cL_law 1170 = .ok (.aload_n 0, 1)) ∧ (decode cL_law 1171 = .ok (.iload 4, 2)) ∧ (decode cL_law 1173 = .ok (.iconst 2, 1)) ∧ (decode cL_law 1174 = .ok (.iadd, 1)) := by decide +kernel
theorem dL_law_1152 : decode cL_law 1152 = .ok (.iconst 4, 1) := dC_law_1152.1
theorem dL_law_1153 : decode cL_law 1153 = .ok (.iadd, 1) := dC_law_1152.2.1
theorem dL_law_1154 : decode cL_law 1154 = .ok (.iaload, 1) := dC_law_1152.2.2.1
theorem dL_law_1155 : decode cL_law 1155 = .ok (.invokevirtual 202, 3) := dC_law_1152.2.2.2.1
theorem dL_law_1158 : decode cL_law 1158 = .ok (.istore 6, 2) := dC_law_1152.2.2.2.2.1
theorem dL_law_1160 : decode cL_law 1160 = .ok (.goto 514, 3) := dC_law_1152.2.2.2.2.2.1
theorem dL_law_1163 : decode cL_law 1163 = .ok (.aload_n 1, 1) := dC_law_1152.2.2.2.2.2.2.1
theorem dL_law_1164 : decode cL_law 1164 = .ok (.aload_n 0, 1) := dC_law_1152.2.2.2.2.2.2.2.1
theorem dL_law_1165 : decode cL_law 1165 = .ok (.iload 4, 2) := dC_law_1152.2.2.2.2.2.2.2.2.1
theorem dL_law_1167 : decode cL_law 1167 = .ok (.iconst 1, 1) := dC_law_1152.2.2.2.2.2.2.2.2.2.1
theorem dL_law_1168 : decode cL_law 1168 = .ok (.iadd, 1) := dC_law_1152.2.2.2.2.2.2.2.2.2.2.1
theorem dL_law_1169 : decode cL_law 1169 = .ok (.iaload, 1) := dC_law_1152.2.2.2.2.2.2.2.2.2.2.2.1
theorem dL_law_1170 : decode cL_law 1170 = .ok (.aload_n 0, 1) := dC_law_1152.2.2.2.2.2.2.2.2.2.2.2.2.1
theorem dL_law_1171 : decode cL_law 1171 = .ok (.iload 4, 2) := dC_law_1152.2.2.2.2.2.2.2.2.2.2.2.2.2.1
theorem dL_law_1173 : decode cL_law 1173 = .ok (.iconst 2, 1) := dC_law_1152.2.2.2.2.2.2.2.2.2.2.2.2.2.2.1
theorem dL_law_1174 : decode cL_law 1174 = .ok (.iadd, 1) := dC_law_1152.2.2.2.2.2.2.2.2.2.2.2.2.2.2.2
theorem dC_law_1175 : (decode cL_law 1175 = .ok (.iaload, 1)) ∧ (decode cL_law 1176 = .ok (.aload_n 3, 1)) ∧ (decode cL_law 1177 = .ok (.invokestatic 203, 3)) ∧ (decode cL_law 1180 = .ok (.istore 5, 2)) ∧ (decode cL_law 1182 = .ok (.aload_n 2, 1)) ∧ (decode cL_law 1183 = .ok (.aload_n 0, 1)) ∧ (decode cL_law 1184 = .ok (.iload 4, 2)) ∧ (decode cL_law 1186 = .ok (.iconst 1, 1)) ∧ (decode cL_law 1187 = .ok (.iadd, 1)) ∧ (decode cL_law 1188 = .ok (.iaload, 1)) ∧ (decode cL_law 1189 = .ok (.aload_n 0, 1)) ∧ (decode cL_law 1190 = .ok (.iload 4, 2)) ∧ (decode cL_law 1192 = .ok (.iconst 2, 1)) ∧ (decode cL_law 1193 = .ok (.iadd, 1)) ∧ (decode cL_law 1194 = .ok (.iaload, 1)) ∧ (decode cL_law 1195 = .ok (.invokevirtual 205, 3)) := by decide +kernel
theorem dL_law_1175 : decode cL_law 1175 = .ok (.iaload, 1) := dC_law_1175.1
theorem dL_law_1176 : decode cL_law 1176 = .ok (.aload_n 3, 1) := dC_law_1175.2.1
theorem dL_law_1177 : decode cL_law 1177 = .ok (.invokestatic 203, 3) := dC_law_1175.2.2.1
theorem dL_law_1180 : decode cL_law 1180 = .ok (.istore 5, 2) := dC_law_1175.2.2.2.1
theorem dL_law_1182 : decode cL_law 1182 = .ok (.aload_n 2, 1) := dC_law_1175.2.2.2.2.1
theorem dL_law_1183 : decode cL_law 1183 = .ok (.aload_n 0, 1) := dC_law_1175.2.2.2.2.2.1
theorem dL_law_1184 : decode cL_law 1184 = .ok (.iload 4, 2) := dC_law_1175.2.2.2.2.2.2.1
theorem dL_law_1186 : decode cL_law 1186 = .ok (.iconst 1, 1) := dC_law_1175.2.2.2.2.2.2.2.1
theorem dL_law_1187 : decode cL_law 1187 = .ok (.iadd, 1) := dC_law_1175.2.2.2.2.2.2.2.2.1
theorem dL_law_1188 : decode cL_law 1188 = .ok (.iaload, 1) := dC_law_1175.2.2.2.2.2.2.2.2.2.1
theorem dL_law_1189 : decode cL_law 1189 = .ok (.aload_n 0, 1) := dC_law_1175.2.2.2.2.2.2.2.2.2.2.1
theorem dL_law_1190 : decode cL_law 1190 = .ok (.iload 4, 2) := dC_law_1175.2.2.2.2.2.2.2.2.2.2.2.1
theorem dL_law_1192 : decode cL_law 1192 = .ok (.iconst 2, 1) := dC_law_1175.2.2.2.2.2.2.2.2.2.2.2.2.1
theorem dL_law_1193 : decode cL_law 1193 = .ok (.iadd, 1) := dC_law_1175.2.2.2.2.2.2.2.2.2.2.2.2.2.1
theorem dL_law_1194 : decode cL_law 1194 = .ok (.iaload, 1) := dC_law_1175.2.2.2.2.2.2.2.2.2.2.2.2.2.2.1
theorem dL_law_1195 : decode cL_law 1195 = .ok (.invokevirtual 205, 3) := dC_law_1175.2.2.2.2.2.2.2.2.2.2.2.2.2.2.2
theorem dC_law_1198 : (decode cL_law 1198 = .ok (.istore 6, 2)) ∧ (decode cL_law 1200 = .ok (.goto 474, 3)) ∧ (decode cL_law 1203 = .ok (.aload_n 1, 1)) ∧ (decode cL_law 1204 = .ok (.aload_n 0, 1)) ∧ (decode cL_law 1205 = .ok (.iload 4, 2)) ∧ (decode cL_law 1207 = .ok (.iconst 1, 1)) ∧ (decode cL_law 1208 = .ok (.iadd, 1)) ∧ (decode cL_law 1209 = .ok (.iaload, 1)) ∧ (decode cL_law 1210 = .ok (.aload_n 0, 1)) ∧ (decode cL_law 1211 = .ok (.iload 4, 2)) ∧ (decode cL_law 1213 = .ok (.iconst 2, 1)) ∧ (decode cL_law 1214 = .ok (.iadd, 1)) ∧ (decode cL_law 1215 = .ok (.iaload, 1)) ∧ (decode cL_law 1216 = .ok (.aload_n 0, 1)) ∧ (decode cL_law 1217 = .ok (.iload 4, 2)) ∧ (decode cL_law 1219 = .ok (.iconst 3, 1)) := by decide +kernel
theorem dL_law_1198 : decode cL_law 1198 = .ok (.istore 6, 2) := dC_law_1198.1
theorem dL_law_1200 : decode cL_law 1200 = .ok (.goto 474, 3) := dC_law_1198.2.1
theorem dL_law_1203 : decode cL_law 1203 = .ok (.aload_n 1, 1) := dC_law_1198.2.2.1
theorem dL_law_1204 : decode cL_law 1204 = .ok (.aload_n 0, 1) := dC_law_1198.2.2.2.1
theorem dL_law_1205 : decode cL_law 1205 = .ok (.iload 4, 2) := dC_law_1198.2.2.2.2.1
theorem dL_law_1207 : decode cL_law 1207 = .ok (.iconst 1, 1) := dC_law_1198.2.2.2.2.2.1
theorem dL_law_1208 : decode cL_law 1208 = .ok (.iadd, 1) := dC_law_1198.2.2.2.2.2.2.1
theorem dL_law_1209 : decode cL_law 1209 = .ok (.iaload, 1) := dC_law_1198.2.2.2.2.2.2.2.1
theorem dL_law_1210 : decode cL_law 1210 = .ok (.aload_n 0, 1) := dC_law_1198.2.2.2.2.2.2.2.2.1
theorem dL_law_1211 : decode cL_law 1211 = .ok (.iload 4, 2) := dC_law_1198.2.2.2.2.2.2.2.2.2.1
theorem dL_law_1213 : decode cL_law 1213 = .ok (.iconst 2, 1) := dC_law_1198.2.2.2.2.2.2.2.2.2.2.1
theorem dL_law_1214 : decode cL_law 1214 = .ok (.iadd, 1) := dC_law_1198.2.2.2.2.2.2.2.2.2.2.2.1
theorem dL_law_1215 : decode cL_law 1215 = .ok (.iaload, 1) := dC_law_1198.2.2.2.2.2.2.2.2.2.2.2.2.1
theorem dL_law_1216 : decode cL_law 1216 = .ok (.aload_n 0, 1) := dC_law_1198.2.2.2.2.2.2.2.2.2.2.2.2.2.1
theorem dL_law_1217 : decode cL_law 1217 = .ok (.iload 4, 2) := dC_law_1198.2.2.2.2.2.2.2.2.2.2.2.2.2.2.1
theorem dL_law_1219 : decode cL_law 1219 = .ok (.iconst 3, 1) := dC_law_1198.2.2.2.2.2.2.2.2.2.2.2.2.2.2.2
theorem dC_law_1220 : (decode cL_law 1220 = .ok (.iadd, 1)) ∧ (decode cL_law 1221 = .ok (.iaload, 1)) ∧ (decode cL_law 1222 = .ok (.aload_n 3, 1)) ∧ (decode cL_law 1223 = .ok (.invokestatic 206, 3)) ∧ (decode cL_law 1226 = .ok (.istore 5, 2)) ∧ (decode cL_law 1228 = .ok (.aload_n 2, 1)) ∧ (decode cL_law 1229 = .ok (.aload_n 0, 1)) ∧ (decode cL_law 1230 = .ok (.iload 4, 2)) ∧ (decode cL_law 1232 = .ok (.iconst 1, 1)) ∧ (decode cL_law 1233 = .ok (.iadd, 1)) ∧ (decode cL_law 1234 = .ok (.iaload, 1)) ∧ (decode cL_law 1235 = .ok (.aload_n 0, 1)) ∧ (decode cL_law 1236 = .ok (.iload 4, 2)) ∧ (decode cL_law 1238 = .ok (.iconst 2, 1)) ∧ (decode cL_law 1239 = .ok (.iadd, 1)) ∧ (decode cL_law 1240 = .ok (.iaload, 1)) := by decide +kernel
theorem dL_law_1220 : decode cL_law 1220 = .ok (.iadd, 1) := dC_law_1220.1
theorem dL_law_1221 : decode cL_law 1221 = .ok (.iaload, 1) := dC_law_1220.2.1
theorem dL_law_1222 : decode cL_law 1222 = .ok (.aload_n 3, 1) := dC_law_1220.2.2.1
theorem dL_law_1223 : decode cL_law 1223 = .ok (.invokestatic 206, 3) := dC_law_1220.2.2.2.1
theorem dL_law_1226 : decode cL_law 1226 = .ok (.istore 5, 2) := dC_law_1220.2.2.2.2.1
theorem dL_law_1228 : decode cL_law 1228 = .ok (.aload_n 2, 1) := dC_law_1220.2.2.2.2.2.1
theorem dL_law_1229 : decode cL_law 1229 = .ok (.aload_n 0, 1) := dC_law_1220.2.2.2.2.2.2.1
theorem dL_law_1230 : decode cL_law 1230 = .ok (.iload 4, 2) := dC_law_1220.2.2.2.2.2.2.2.1
theorem dL_law_1232 : decode cL_law 1232 = .ok (.iconst 1, 1) := dC_law_1220.2.2.2.2.2.2.2.2.1
theorem dL_law_1233 : decode cL_law 1233 = .ok (.iadd, 1) := dC_law_1220.2.2.2.2.2.2.2.2.2.1
theorem dL_law_1234 : decode cL_law 1234 = .ok (.iaload, 1) := dC_law_1220.2.2.2.2.2.2.2.2.2.2.1
theorem dL_law_1235 : decode cL_law 1235 = .ok (.aload_n 0, 1) := dC_law_1220.2.2.2.2.2.2.2.2.2.2.2.1
theorem dL_law_1236 : decode cL_law 1236 = .ok (.iload 4, 2) := dC_law_1220.2.2.2.2.2.2.2.2.2.2.2.2.1
theorem dL_law_1238 : decode cL_law 1238 = .ok (.iconst 2, 1) := dC_law_1220.2.2.2.2.2.2.2.2.2.2.2.2.2.1
theorem dL_law_1239 : decode cL_law 1239 = .ok (.iadd, 1) := dC_law_1220.2.2.2.2.2.2.2.2.2.2.2.2.2.2.1
theorem dL_law_1240 : decode cL_law 1240 = .ok (.iaload, 1) := dC_law_1220.2.2.2.2.2.2.2.2.2.2.2.2.2.2.2
theorem dC_law_1241 : (decode cL_law 1241 = .ok (.aload_n 0, 1)) ∧ (decode cL_law 1242 = .ok (.iload 4, 2)) ∧ (decode cL_law 1244 = .ok (.iconst 3, 1)) ∧ (decode cL_law 1245 = .ok (.iadd, 1)) ∧ (decode cL_law 1246 = .ok (.iaload, 1)) ∧ (decode cL_law 1247 = .ok (.invokevirtual 208, 3)) ∧ (decode cL_law 1250 = .ok (.istore 6, 2)) ∧ (decode cL_law 1252 = .ok (.goto 422, 3)) ∧ (decode cL_law 1255 = .ok (.aload_n 1, 1)) ∧ (decode cL_law 1256 = .ok (.aload_n 0, 1)) ∧ (decode cL_law 1257 = .ok (.iload 4, 2)) ∧ (decode cL_law 1259 = .ok (.iconst 1, 1)) ∧ (decode cL_law 1260 = .ok (.iadd, 1)) ∧ (decode cL_law 1261 = .ok (.iaload, 1)) ∧ (decode cL_law 1262 = .ok (.aload_n 0, 1)) ∧ (decode cL_law 1263 = .ok (.iload 4, 2)) := by decide +kernel
theorem dL_law_1241 : decode cL_law 1241 = .ok (.aload_n 0, 1) := dC_law_1241.1
theorem dL_law_1242 : decode cL_law 1242 = .ok (.iload 4, 2) := dC_law_1241.2.1
theorem dL_law_1244 : decode cL_law 1244 = .ok (.iconst 3, 1) := dC_law_1241.2.2.1
theorem dL_law_1245 : decode cL_law 1245 = .ok (.iadd, 1) := dC_law_1241.2.2.2.1
theorem dL_law_1246 : decode cL_law 1246 = .ok (.iaload, 1) := dC_law_1241.2.2.2.2.1
theorem dL_law_1247 : decode cL_law 1247 = .ok (.invokevirtual 208, 3) := dC_law_1241.2.2.2.2.2.1
theorem dL_law_1250 : decode cL_law 1250 = .ok (.istore 6, 2) := dC_law_1241.2.2.2.2.2.2.1
theorem dL_law_1252 : decode cL_law 1252 = .ok (.goto 422, 3) := dC_law_1241.2.2.2.2.2.2.2.1
theorem dL_law_1255 : decode cL_law 1255 = .ok (.aload_n 1, 1) := dC_law_1241.2.2.2.2.2.2.2.2.1
theorem dL_law_1256 : decode cL_law 1256 = .ok (.aload_n 0, 1) := dC_law_1241.2.2.2.2.2.2.2.2.2.1
theorem dL_law_1257 : decode cL_law 1257 = .ok (.iload 4, 2) := dC_law_1241.2.2.2.2.2.2.2.2.2.2.1
theorem dL_law_1259 : decode cL_law 1259 = .ok (.iconst 1, 1) := dC_law_1241.2.2.2.2.2.2.2.2.2.2.2.1
theorem dL_law_1260 : decode cL_law 1260 = .ok (.iadd, 1) := dC_law_1241.2.2.2.2.2.2.2.2.2.2.2.2.1
theorem dL_law_1261 : decode cL_law 1261 = .ok (.iaload, 1) := dC_law_1241.2.2.2.2.2.2.2.2.2.2.2.2.2.1
theorem dL_law_1262 : decode cL_law 1262 = .ok (.aload_n 0, 1) := dC_law_1241.2.2.2.2.2.2.2.2.2.2.2.2.2.2.1
theorem dL_law_1263 : decode cL_law 1263 = .ok (.iload 4, 2) := dC_law_1241.2.2.2.2.2.2.2.2.2.2.2.2.2.2.2
theorem dC_law_1265 : (decode cL_law 1265 = .ok (.iconst 2, 1)) ∧ (decode cL_law 1266 = .ok (.iadd, 1)) ∧ (decode cL_law 1267 = .ok (.iaload, 1)) ∧ (decode cL_law 1268 = .ok (.aload_n 3, 1)) ∧ (decode cL_law 1269 = .ok (.invokestatic 209, 3)) ∧ (decode cL_law 1272 = .ok (.istore 5, 2)) ∧ (decode cL_law 1274 = .ok (.aload_n 2, 1)) ∧ (decode cL_law 1275 = .ok (.aload_n 0, 1)) ∧ (decode cL_law 1276 = .ok (.iload 4, 2)) ∧ (decode cL_law 1278 = .ok (.iconst 1, 1)) ∧ (decode cL_law 1279 = .ok (.iadd, 1)) ∧ (decode cL_law 1280 = .ok (.iaload, 1)) ∧ (decode cL_law 1281 = .ok (.aload_n 0, 1)) ∧ (decode cL_law 1282 = .ok (.iload 4, 2)) ∧ (decode cL_law 1284 = .ok (.iconst 2, 1)) ∧ (decode cL_law 1285 = .ok (.iadd, 1)) := by decide +kernel
theorem dL_law_1265 : decode cL_law 1265 = .ok (.iconst 2, 1) := dC_law_1265.1
theorem dL_law_1266 : decode cL_law 1266 = .ok (.iadd, 1) := dC_law_1265.2.1
theorem dL_law_1267 : decode cL_law 1267 = .ok (.iaload, 1) := dC_law_1265.2.2.1
theorem dL_law_1268 : decode cL_law 1268 = .ok (.aload_n 3, 1) := dC_law_1265.2.2.2.1
theorem dL_law_1269 : decode cL_law 1269 = .ok (.invokestatic 209, 3) := dC_law_1265.2.2.2.2.1
theorem dL_law_1272 : decode cL_law 1272 = .ok (.istore 5, 2) := dC_law_1265.2.2.2.2.2.1
theorem dL_law_1274 : decode cL_law 1274 = .ok (.aload_n 2, 1) := dC_law_1265.2.2.2.2.2.2.1
theorem dL_law_1275 : decode cL_law 1275 = .ok (.aload_n 0, 1) := dC_law_1265.2.2.2.2.2.2.2.1
theorem dL_law_1276 : decode cL_law 1276 = .ok (.iload 4, 2) := dC_law_1265.2.2.2.2.2.2.2.2.1
theorem dL_law_1278 : decode cL_law 1278 = .ok (.iconst 1, 1) := dC_law_1265.2.2.2.2.2.2.2.2.2.1
theorem dL_law_1279 : decode cL_law 1279 = .ok (.iadd, 1) := dC_law_1265.2.2.2.2.2.2.2.2.2.2.1
theorem dL_law_1280 : decode cL_law 1280 = .ok (.iaload, 1) := dC_law_1265.2.2.2.2.2.2.2.2.2.2.2.1
theorem dL_law_1281 : decode cL_law 1281 = .ok (.aload_n 0, 1) := dC_law_1265.2.2.2.2.2.2.2.2.2.2.2.2.1
theorem dL_law_1282 : decode cL_law 1282 = .ok (.iload 4, 2) := dC_law_1265.2.2.2.2.2.2.2.2.2.2.2.2.2.1
theorem dL_law_1284 : decode cL_law 1284 = .ok (.iconst 2, 1) := dC_law_1265.2.2.2.2.2.2.2.2.2.2.2.2.2.2.1
theorem dL_law_1285 : decode cL_law 1285 = .ok (.iadd, 1) := dC_law_1265.2.2.2.2.2.2.2.2.2.2.2.2.2.2.2
theorem dC_law_1286 : (decode cL_law 1286 = .ok (.iaload, 1)) ∧ (decode cL_law 1287 = .ok (.invokevirtual 211, 3)) ∧ (decode cL_law 1290 = .ok (.istore 6, 2)) ∧ (decode cL_law 1292 = .ok (.goto 382, 3)) ∧ (decode cL_law 1295 = .ok (.aload_n 1, 1)) ∧ (decode cL_law 1296 = .ok (.aload_n 0, 1)) ∧ (decode cL_law 1297 = .ok (.iload 4, 2)) ∧ (decode cL_law 1299 = .ok (.iconst 1, 1)) ∧ (decode cL_law 1300 = .ok (.iadd, 1)) ∧ (decode cL_law 1301 = .ok (.iaload, 1)) ∧ (decode cL_law 1302 = .ok (.aload_n 3, 1)) ∧ (decode cL_law 1303 = .ok (.invokestatic 212, 3)) ∧ (decode cL_law 1306 = .ok (.istore 5, 2)) ∧ (decode cL_law 1308 = .ok (.aload_n 2, 1)) ∧ (decode cL_law 1309 = .ok (.aload_n 0, 1)) ∧ (decode cL_law 1310 = .ok (.iload 4, 2)) := by decide +kernel
theorem dL_law_1286 : decode cL_law 1286 = .ok (.iaload, 1) := dC_law_1286.1
theorem dL_law_1287 : decode cL_law 1287 = .ok (.invokevirtual 211, 3) := dC_law_1286.2.1
theorem dL_law_1290 : decode cL_law 1290 = .ok (.istore 6, 2) := dC_law_1286.2.2.1
theorem dL_law_1292 : decode cL_law 1292 = .ok (.goto 382, 3) := dC_law_1286.2.2.2.1
theorem dL_law_1295 : decode cL_law 1295 = .ok (.aload_n 1, 1) := dC_law_1286.2.2.2.2.1
theorem dL_law_1296 : decode cL_law 1296 = .ok (.aload_n 0, 1) := dC_law_1286.2.2.2.2.2.1
theorem dL_law_1297 : decode cL_law 1297 = .ok (.iload 4, 2) := dC_law_1286.2.2.2.2.2.2.1
theorem dL_law_1299 : decode cL_law 1299 = .ok (.iconst 1, 1) := dC_law_1286.2.2.2.2.2.2.2.1
theorem dL_law_1300 : decode cL_law 1300 = .ok (.iadd, 1) := dC_law_1286.2.2.2.2.2.2.2.2.1
theorem dL_law_1301 : decode cL_law 1301 = .ok (.iaload, 1) := dC_law_1286.2.2.2.2.2.2.2.2.2.1
theorem dL_law_1302 : decode cL_law 1302 = .ok (.aload_n 3, 1) := dC_law_1286.2.2.2.2.2.2.2.2.2.2.1
theorem dL_law_1303 : decode cL_law 1303 = .ok (.invokestatic 212, 3) := dC_law_1286.2.2.2.2.2.2.2.2.2.2.2.1
theorem dL_law_1306 : decode cL_law 1306 = .ok (.istore 5, 2) := dC_law_1286.2.2.2.2.2.2.2.2.2.2.2.2.1
theorem dL_law_1308 : decode cL_law 1308 = .ok (.aload_n 2, 1) := dC_law_1286.2.2.2.2.2.2.2.2.2.2.2.2.2.1
theorem dL_law_1309 : decode cL_law 1309 = .ok (.aload_n 0, 1) := dC_law_1286.2.2.2.2.2.2.2.2.2.2.2.2.2.2.1
theorem dL_law_1310 : decode cL_law 1310 = .ok (.iload 4, 2) := dC_law_1286.2.2.2.2.2.2.2.2.2.2.2.2.2.2.2
theorem dC_law_1312 : (decode cL_law 1312 = .ok (.iconst 1, 1)) ∧ (decode cL_law 1313 = .ok (.iadd, 1)) ∧ (decode cL_law 1314 = .ok (.iaload, 1)) ∧ (decode cL_law 1315 = .ok (.invokevirtual 214, 3)) ∧ (decode cL_law 1318 = .ok (.istore 6, 2)) ∧ (decode cL_law 1320 = .ok (.goto 354, 3)) ∧ (decode cL_law 1323 = .ok (.aload_n 1, 1)) ∧ (decode cL_law 1324 = .ok (.aload_n 0, 1)) ∧ (decode cL_law 1325 = .ok (.iload 4, 2)) ∧ (decode cL_law 1327 = .ok (.iconst 1, 1)) ∧ (decode cL_law 1328 = .ok (.iadd, 1)) ∧ (decode cL_law 1329 = .ok (.iaload, 1)) ∧ (decode cL_law 1330 = .ok (.aload_n 3, 1)) ∧ (decode cL_law 1331 = .ok (.invokestatic 215, 3)) ∧ (decode cL_law 1334 = .ok (.istore 5, 2)) ∧ (decode cL_law 1336 = .ok (.aload_n 2, 1)) := by decide +kernel
theorem dL_law_1312 : decode cL_law 1312 = .ok (.iconst 1, 1) := dC_law_1312.1
theorem dL_law_1313 : decode cL_law 1313 = .ok (.iadd, 1) := dC_law_1312.2.1
theorem dL_law_1314 : decode cL_law 1314 = .ok (.iaload, 1) := dC_law_1312.2.2.1
theorem dL_law_1315 : decode cL_law 1315 = .ok (.invokevirtual 214, 3) := dC_law_1312.2.2.2.1
theorem dL_law_1318 : decode cL_law 1318 = .ok (.istore 6, 2) := dC_law_1312.2.2.2.2.1
theorem dL_law_1320 : decode cL_law 1320 = .ok (.goto 354, 3) := dC_law_1312.2.2.2.2.2.1
theorem dL_law_1323 : decode cL_law 1323 = .ok (.aload_n 1, 1) := dC_law_1312.2.2.2.2.2.2.1
theorem dL_law_1324 : decode cL_law 1324 = .ok (.aload_n 0, 1) := dC_law_1312.2.2.2.2.2.2.2.1
theorem dL_law_1325 : decode cL_law 1325 = .ok (.iload 4, 2) := dC_law_1312.2.2.2.2.2.2.2.2.1
theorem dL_law_1327 : decode cL_law 1327 = .ok (.iconst 1, 1) := dC_law_1312.2.2.2.2.2.2.2.2.2.1
theorem dL_law_1328 : decode cL_law 1328 = .ok (.iadd, 1) := dC_law_1312.2.2.2.2.2.2.2.2.2.2.1
theorem dL_law_1329 : decode cL_law 1329 = .ok (.iaload, 1) := dC_law_1312.2.2.2.2.2.2.2.2.2.2.2.1
theorem dL_law_1330 : decode cL_law 1330 = .ok (.aload_n 3, 1) := dC_law_1312.2.2.2.2.2.2.2.2.2.2.2.2.1
theorem dL_law_1331 : decode cL_law 1331 = .ok (.invokestatic 215, 3) := dC_law_1312.2.2.2.2.2.2.2.2.2.2.2.2.2.1
theorem dL_law_1334 : decode cL_law 1334 = .ok (.istore 5, 2) := dC_law_1312.2.2.2.2.2.2.2.2.2.2.2.2.2.2.1
theorem dL_law_1336 : decode cL_law 1336 = .ok (.aload_n 2, 1) := dC_law_1312.2.2.2.2.2.2.2.2.2.2.2.2.2.2.2
theorem dC_law_1337 : (decode cL_law 1337 = .ok (.aload_n 0, 1)) ∧ (decode cL_law 1338 = .ok (.iload 4, 2)) ∧ (decode cL_law 1340 = .ok (.iconst 1, 1)) ∧ (decode cL_law 1341 = .ok (.iadd, 1)) ∧ (decode cL_law 1342 = .ok (.iaload, 1)) ∧ (decode cL_law 1343 = .ok (.invokevirtual 217, 3)) ∧ (decode cL_law 1346 = .ok (.istore 6, 2)) ∧ (decode cL_law 1348 = .ok (.goto 326, 3)) ∧ (decode cL_law 1351 = .ok (.aload_n 1, 1)) ∧ (decode cL_law 1352 = .ok (.aload_n 0, 1)) ∧ (decode cL_law 1353 = .ok (.iload 4, 2)) ∧ (decode cL_law 1355 = .ok (.iconst 1, 1)) ∧ (decode cL_law 1356 = .ok (.iadd, 1)) ∧ (decode cL_law 1357 = .ok (.iaload, 1)) ∧ (decode cL_law 1358 = .ok (.aload_n 0, 1)) ∧ (decode cL_law 1359 = .ok (.iload 4, 2)) := by decide +kernel
theorem dL_law_1337 : decode cL_law 1337 = .ok (.aload_n 0, 1) := dC_law_1337.1
theorem dL_law_1338 : decode cL_law 1338 = .ok (.iload 4, 2) := dC_law_1337.2.1
theorem dL_law_1340 : decode cL_law 1340 = .ok (.iconst 1, 1) := dC_law_1337.2.2.1
theorem dL_law_1341 : decode cL_law 1341 = .ok (.iadd, 1) := dC_law_1337.2.2.2.1
theorem dL_law_1342 : decode cL_law 1342 = .ok (.iaload, 1) := dC_law_1337.2.2.2.2.1
theorem dL_law_1343 : decode cL_law 1343 = .ok (.invokevirtual 217, 3) := dC_law_1337.2.2.2.2.2.1
theorem dL_law_1346 : decode cL_law 1346 = .ok (.istore 6, 2) := dC_law_1337.2.2.2.2.2.2.1
theorem dL_law_1348 : decode cL_law 1348 = .ok (.goto 326, 3) := dC_law_1337.2.2.2.2.2.2.2.1
theorem dL_law_1351 : decode cL_law 1351 = .ok (.aload_n 1, 1) := dC_law_1337.2.2.2.2.2.2.2.2.1
theorem dL_law_1352 : decode cL_law 1352 = .ok (.aload_n 0, 1) := dC_law_1337.2.2.2.2.2.2.2.2.2.1
theorem dL_law_1353 : decode cL_law 1353 = .ok (.iload 4, 2) := dC_law_1337.2.2.2.2.2.2.2.2.2.2.1
theorem dL_law_1355 : decode cL_law 1355 = .ok (.iconst 1, 1) := dC_law_1337.2.2.2.2.2.2.2.2.2.2.2.1
theorem dL_law_1356 : decode cL_law 1356 = .ok (.iadd, 1) := dC_law_1337.2.2.2.2.2.2.2.2.2.2.2.2.1
theorem dL_law_1357 : decode cL_law 1357 = .ok (.iaload, 1) := dC_law_1337.2.2.2.2.2.2.2.2.2.2.2.2.2.1
theorem dL_law_1358 : decode cL_law 1358 = .ok (.aload_n 0, 1) := dC_law_1337.2.2.2.2.2.2.2.2.2.2.2.2.2.2.1
theorem dL_law_1359 : decode cL_law 1359 = .ok (.iload 4, 2) := dC_law_1337.2.2.2.2.2.2.2.2.2.2.2.2.2.2.2
theorem dC_law_1361 : (decode cL_law 1361 = .ok (.iconst 2, 1)) ∧ (decode cL_law 1362 = .ok (.iadd, 1)) ∧ (decode cL_law 1363 = .ok (.iaload, 1)) ∧ (decode cL_law 1364 = .ok (.aload_n 3, 1)) ∧ (decode cL_law 1365 = .ok (.invokestatic 218, 3)) ∧ (decode cL_law 1368 = .ok (.istore 5, 2)) ∧ (decode cL_law 1370 = .ok (.aload_n 2, 1)) ∧ (decode cL_law 1371 = .ok (.aload_n 0, 1)) ∧ (decode cL_law 1372 = .ok (.iload 4, 2)) ∧ (decode cL_law 1374 = .ok (.iconst 1, 1)) ∧ (decode cL_law 1375 = .ok (.iadd, 1)) ∧ (decode cL_law 1376 = .ok (.iaload, 1)) ∧ (decode cL_law 1377 = .ok (.aload_n 0, 1)) ∧ (decode cL_law 1378 = .ok (.iload 4, 2)) ∧ (decode cL_law 1380 = .ok (.iconst 2, 1)) ∧ (decode cL_law 1381 = .ok (.iadd, 1)) := by decide +kernel
theorem dL_law_1361 : decode cL_law 1361 = .ok (.iconst 2, 1) := dC_law_1361.1
theorem dL_law_1362 : decode cL_law 1362 = .ok (.iadd, 1) := dC_law_1361.2.1
theorem dL_law_1363 : decode cL_law 1363 = .ok (.iaload, 1) := dC_law_1361.2.2.1
theorem dL_law_1364 : decode cL_law 1364 = .ok (.aload_n 3, 1) := dC_law_1361.2.2.2.1
theorem dL_law_1365 : decode cL_law 1365 = .ok (.invokestatic 218, 3) := dC_law_1361.2.2.2.2.1
theorem dL_law_1368 : decode cL_law 1368 = .ok (.istore 5, 2) := dC_law_1361.2.2.2.2.2.1
theorem dL_law_1370 : decode cL_law 1370 = .ok (.aload_n 2, 1) := dC_law_1361.2.2.2.2.2.2.1
theorem dL_law_1371 : decode cL_law 1371 = .ok (.aload_n 0, 1) := dC_law_1361.2.2.2.2.2.2.2.1
theorem dL_law_1372 : decode cL_law 1372 = .ok (.iload 4, 2) := dC_law_1361.2.2.2.2.2.2.2.2.1
theorem dL_law_1374 : decode cL_law 1374 = .ok (.iconst 1, 1) := dC_law_1361.2.2.2.2.2.2.2.2.2.1
theorem dL_law_1375 : decode cL_law 1375 = .ok (.iadd, 1) := dC_law_1361.2.2.2.2.2.2.2.2.2.2.1
theorem dL_law_1376 : decode cL_law 1376 = .ok (.iaload, 1) := dC_law_1361.2.2.2.2.2.2.2.2.2.2.2.1
theorem dL_law_1377 : decode cL_law 1377 = .ok (.aload_n 0, 1) := dC_law_1361.2.2.2.2.2.2.2.2.2.2.2.2.1
theorem dL_law_1378 : decode cL_law 1378 = .ok (.iload 4, 2) := dC_law_1361.2.2.2.2.2.2.2.2.2.2.2.2.2.1
theorem dL_law_1380 : decode cL_law 1380 = .ok (.iconst 2, 1) := dC_law_1361.2.2.2.2.2.2.2.2.2.2.2.2.2.2.1
theorem dL_law_1381 : decode cL_law 1381 = .ok (.iadd, 1) := dC_law_1361.2.2.2.2.2.2.2.2.2.2.2.2.2.2.2
theorem dC_law_1382 : (decode cL_law 1382 = .ok (.iaload, 1)) ∧ (decode cL_law 1383 = .ok (.invokevirtual 220, 3)) ∧ (decode cL_law 1386 = .ok (.astore 6, 2)) ∧ (decode cL_law 1388 = .ok (.goto 286, 3)) ∧ (decode cL_law 1391 = .ok (.aload_n 1, 1)) ∧ (decode cL_law 1392 = .ok (.aload_n 0, 1)) ∧ (decode cL_law 1393 = .ok (.iload 4, 2)) ∧ (decode cL_law 1395 = .ok (.iconst 1, 1)) ∧ (decode cL_law 1396 = .ok (.iadd, 1)) ∧ (decode cL_law 1397 = .ok (.iaload, 1)) ∧ (decode cL_law 1398 = .ok (.aload_n 0, 1)) ∧ (decode cL_law 1399 = .ok (.iload 4, 2)) ∧ (decode cL_law 1401 = .ok (.iconst 2, 1)) ∧ (decode cL_law 1402 = .ok (.iadd, 1)) ∧ (decode cL_law 1403 = .ok (.iaload, 1)) ∧ (decode cL_law 1404 = .ok (.aload_n 3, 1)) := by decide +kernel
theorem dL_law_1382 : decode cL_law 1382 = .ok (.iaload, 1) := dC_law_1382.1
theorem dL_law_1383 : decode cL_law 1383 = .ok (.invokevirtual 220, 3) := dC_law_1382.2.1
theorem dL_law_1386 : decode cL_law 1386 = .ok (.astore 6, 2) := dC_law_1382.2.2.1
theorem dL_law_1388 : decode cL_law 1388 = .ok (.goto 286, 3) := dC_law_1382.2.2.2.1
theorem dL_law_1391 : decode cL_law 1391 = .ok (.aload_n 1, 1) := dC_law_1382.2.2.2.2.1
theorem dL_law_1392 : decode cL_law 1392 = .ok (.aload_n 0, 1) := dC_law_1382.2.2.2.2.2.1
theorem dL_law_1393 : decode cL_law 1393 = .ok (.iload 4, 2) := dC_law_1382.2.2.2.2.2.2.1
theorem dL_law_1395 : decode cL_law 1395 = .ok (.iconst 1, 1) := dC_law_1382.2.2.2.2.2.2.2.1
theorem dL_law_1396 : decode cL_law 1396 = .ok (.iadd, 1) := dC_law_1382.2.2.2.2.2.2.2.2.1
theorem dL_law_1397 : decode cL_law 1397 = .ok (.iaload, 1) := dC_law_1382.2.2.2.2.2.2.2.2.2.1
theorem dL_law_1398 : decode cL_law 1398 = .ok (.aload_n 0, 1) := dC_law_1382.2.2.2.2.2.2.2.2.2.2.1
theorem dL_law_1399 : decode cL_law 1399 = .ok (.iload 4, 2) := dC_law_1382.2.2.2.2.2.2.2.2.2.2.2.1
theorem dL_law_1401 : decode cL_law 1401 = .ok (.iconst 2, 1) := dC_law_1382.2.2.2.2.2.2.2.2.2.2.2.2.1
theorem dL_law_1402 : decode cL_law 1402 = .ok (.iadd, 1) := dC_law_1382.2.2.2.2.2.2.2.2.2.2.2.2.2.1
theorem dL_law_1403 : decode cL_law 1403 = .ok (.iaload, 1) := dC_law_1382.2.2.2.2.2.2.2.2.2.2.2.2.2.2.1
theorem dL_law_1404 : decode cL_law 1404 = .ok (.aload_n 3, 1) := dC_law_1382.2.2.2.2.2.2.2.2.2.2.2.2.2.2.2
theorem dC_law_1405 : (decode cL_law 1405 = .ok (.invokestatic 221, 3)) ∧ (decode cL_law 1408 = .ok (.istore 5, 2)) ∧ (decode cL_law 1410 = .ok (.aload_n 2, 1)) ∧ (decode cL_law 1411 = .ok (.aload_n 0, 1)) ∧ (decode cL_law 1412 = .ok (.iload 4, 2)) ∧ (decode cL_law 1414 = .ok (.iconst 1, 1)) ∧ (decode cL_law 1415 = .ok (.iadd, 1)) ∧ (decode cL_law 1416 = .ok (.iaload, 1)) ∧ (decode cL_law 1417 = .ok (.aload_n 0, 1)) ∧ (decode cL_law 1418 = .ok (.iload 4, 2)) ∧ (decode cL_law 1420 = .ok (.iconst 2, 1)) ∧ (decode cL_law 1421 = .ok (.iadd, 1)) ∧ (decode cL_law 1422 = .ok (.iaload, 1)) ∧ (decode cL_law 1423 = .ok (.invokevirtual 223, 3)) ∧ (decode cL_law 1426 = .ok (.astore 6, 2)) ∧ (decode cL_law 1428 = .ok (.goto 246, 3)) := by decide +kernel
theorem dL_law_1405 : decode cL_law 1405 = .ok (.invokestatic 221, 3) := dC_law_1405.1
theorem dL_law_1408 : decode cL_law 1408 = .ok (.istore 5, 2) := dC_law_1405.2.1
theorem dL_law_1410 : decode cL_law 1410 = .ok (.aload_n 2, 1) := dC_law_1405.2.2.1
theorem dL_law_1411 : decode cL_law 1411 = .ok (.aload_n 0, 1) := dC_law_1405.2.2.2.1
theorem dL_law_1412 : decode cL_law 1412 = .ok (.iload 4, 2) := dC_law_1405.2.2.2.2.1
theorem dL_law_1414 : decode cL_law 1414 = .ok (.iconst 1, 1) := dC_law_1405.2.2.2.2.2.1
theorem dL_law_1415 : decode cL_law 1415 = .ok (.iadd, 1) := dC_law_1405.2.2.2.2.2.2.1
theorem dL_law_1416 : decode cL_law 1416 = .ok (.iaload, 1) := dC_law_1405.2.2.2.2.2.2.2.1
theorem dL_law_1417 : decode cL_law 1417 = .ok (.aload_n 0, 1) := dC_law_1405.2.2.2.2.2.2.2.2.1
theorem dL_law_1418 : decode cL_law 1418 = .ok (.iload 4, 2) := dC_law_1405.2.2.2.2.2.2.2.2.2.1
theorem dL_law_1420 : decode cL_law 1420 = .ok (.iconst 2, 1) := dC_law_1405.2.2.2.2.2.2.2.2.2.2.1
theorem dL_law_1421 : decode cL_law 1421 = .ok (.iadd, 1) := dC_law_1405.2.2.2.2.2.2.2.2.2.2.2.1
theorem dL_law_1422 : decode cL_law 1422 = .ok (.iaload, 1) := dC_law_1405.2.2.2.2.2.2.2.2.2.2.2.2.1
theorem dL_law_1423 : decode cL_law 1423 = .ok (.invokevirtual 223, 3) := dC_law_1405.2.2.2.2.2.2.2.2.2.2.2.2.2.1
theorem dL_law_1426 : decode cL_law 1426 = .ok (.astore 6, 2) := dC_law_1405.2.2.2.2.2.2.2.2.2.2.2.2.2.2.1
theorem dL_law_1428 : decode cL_law 1428 = .ok (.goto 246, 3) := dC_law_1405.2.2.2.2.2.2.2.2.2.2.2.2.2.2.2
theorem dC_law_1431 : (decode cL_law 1431 = .ok (.aload_n 1, 1)) ∧ (decode cL_law 1432 = .ok (.aload_n 0, 1)) ∧ (decode cL_law 1433 = .ok (.iload 4, 2)) ∧ (decode cL_law 1435 = .ok (.iconst 1, 1)) ∧ (decode cL_law 1436 = .ok (.iadd, 1)) ∧ (decode cL_law 1437 = .ok (.iaload, 1)) ∧ (decode cL_law 1438 = .ok (.aload_n 3, 1)) ∧ (decode cL_law 1439 = .ok (.invokestatic 224, 3)) ∧ (decode cL_law 1442 = .ok (.istore 5, 2)) ∧ (decode cL_law 1444 = .ok (.aload_n 2, 1)) ∧ (decode cL_law 1445 = .ok (.aload_n 0, 1)) ∧ (decode cL_law 1446 = .ok (.iload 4, 2)) ∧ (decode cL_law 1448 = .ok (.iconst 1, 1)) ∧ (decode cL_law 1449 = .ok (.iadd, 1)) ∧ (decode cL_law 1450 = .ok (.iaload, 1)) ∧ (decode cL_law 1451 = .ok (.invokevirtual 226, 3)) := by decide +kernel
theorem dL_law_1431 : decode cL_law 1431 = .ok (.aload_n 1, 1) := dC_law_1431.1
theorem dL_law_1432 : decode cL_law 1432 = .ok (.aload_n 0, 1) := dC_law_1431.2.1
theorem dL_law_1433 : decode cL_law 1433 = .ok (.iload 4, 2) := dC_law_1431.2.2.1
theorem dL_law_1435 : decode cL_law 1435 = .ok (.iconst 1, 1) := dC_law_1431.2.2.2.1
theorem dL_law_1436 : decode cL_law 1436 = .ok (.iadd, 1) := dC_law_1431.2.2.2.2.1
theorem dL_law_1437 : decode cL_law 1437 = .ok (.iaload, 1) := dC_law_1431.2.2.2.2.2.1
theorem dL_law_1438 : decode cL_law 1438 = .ok (.aload_n 3, 1) := dC_law_1431.2.2.2.2.2.2.1
theorem dL_law_1439 : decode cL_law 1439 = .ok (.invokestatic 224, 3) := dC_law_1431.2.2.2.2.2.2.2.1
theorem dL_law_1442 : decode cL_law 1442 = .ok (.istore 5, 2) := dC_law_1431.2.2.2.2.2.2.2.2.1
theorem dL_law_1444 : decode cL_law 1444 = .ok (.aload_n 2, 1) := dC_law_1431.2.2.2.2.2.2.2.2.2.1
theorem dL_law_1445 : decode cL_law 1445 = .ok (.aload_n 0, 1) := dC_law_1431.2.2.2.2.2.2.2.2.2.2.1
theorem dL_law_1446 : decode cL_law 1446 = .ok (.iload 4, 2) := dC_law_1431.2.2.2.2.2.2.2.2.2.2.2.1
theorem dL_law_1448 : decode cL_law 1448 = .ok (.iconst 1, 1) := dC_law_1431.2.2.2.2.2.2.2.2.2.2.2.2.1
theorem dL_law_1449 : decode cL_law 1449 = .ok (.iadd, 1) := dC_law_1431.2.2.2.2.2.2.2.2.2.2.2.2.2.1
theorem dL_law_1450 : decode cL_law 1450 = .ok (.iaload, 1) := dC_law_1431.2.2.2.2.2.2.2.2.2.2.2.2.2.2.1
theorem dL_law_1451 : decode cL_law 1451 = .ok (.invokevirtual 226, 3) := dC_law_1431.2.2.2.2.2.2.2.2.2.2.2.2.2.2.2
theorem dC_law_1454 : (decode cL_law 1454 = .ok (.istore 6, 2)) ∧ (decode cL_law 1456 = .ok (.goto 218, 3)) ∧ (decode cL_law 1459 = .ok (.aload_n 1, 1)) ∧ (decode cL_law 1460 = .ok (.aload_n 0, 1)) ∧ (decode cL_law 1461 = .ok (.iload 4, 2)) ∧ (decode cL_law 1463 = .ok (.iconst 1, 1)) ∧ (decode cL_law 1464 = .ok (.iadd, 1)) ∧ (decode cL_law 1465 = .ok (.iaload, 1)) ∧ (decode cL_law 1466 = .ok (.aload_n 3, 1)) ∧ (decode cL_law 1467 = .ok (.invokestatic 227, 3)) ∧ (decode cL_law 1470 = .ok (.istore 5, 2)) ∧ (decode cL_law 1472 = .ok (.aload_n 2, 1)) ∧ (decode cL_law 1473 = .ok (.aload_n 0, 1)) ∧ (decode cL_law 1474 = .ok (.iload 4, 2)) ∧ (decode cL_law 1476 = .ok (.iconst 1, 1)) ∧ (decode cL_law 1477 = .ok (.iadd, 1)) := by decide +kernel
theorem dL_law_1454 : decode cL_law 1454 = .ok (.istore 6, 2) := dC_law_1454.1
theorem dL_law_1456 : decode cL_law 1456 = .ok (.goto 218, 3) := dC_law_1454.2.1
theorem dL_law_1459 : decode cL_law 1459 = .ok (.aload_n 1, 1) := dC_law_1454.2.2.1
theorem dL_law_1460 : decode cL_law 1460 = .ok (.aload_n 0, 1) := dC_law_1454.2.2.2.1
theorem dL_law_1461 : decode cL_law 1461 = .ok (.iload 4, 2) := dC_law_1454.2.2.2.2.1
theorem dL_law_1463 : decode cL_law 1463 = .ok (.iconst 1, 1) := dC_law_1454.2.2.2.2.2.1
theorem dL_law_1464 : decode cL_law 1464 = .ok (.iadd, 1) := dC_law_1454.2.2.2.2.2.2.1
theorem dL_law_1465 : decode cL_law 1465 = .ok (.iaload, 1) := dC_law_1454.2.2.2.2.2.2.2.1
theorem dL_law_1466 : decode cL_law 1466 = .ok (.aload_n 3, 1) := dC_law_1454.2.2.2.2.2.2.2.2.1
theorem dL_law_1467 : decode cL_law 1467 = .ok (.invokestatic 227, 3) := dC_law_1454.2.2.2.2.2.2.2.2.2.1
theorem dL_law_1470 : decode cL_law 1470 = .ok (.istore 5, 2) := dC_law_1454.2.2.2.2.2.2.2.2.2.2.1
theorem dL_law_1472 : decode cL_law 1472 = .ok (.aload_n 2, 1) := dC_law_1454.2.2.2.2.2.2.2.2.2.2.2.1
theorem dL_law_1473 : decode cL_law 1473 = .ok (.aload_n 0, 1) := dC_law_1454.2.2.2.2.2.2.2.2.2.2.2.2.1
theorem dL_law_1474 : decode cL_law 1474 = .ok (.iload 4, 2) := dC_law_1454.2.2.2.2.2.2.2.2.2.2.2.2.2.1
theorem dL_law_1476 : decode cL_law 1476 = .ok (.iconst 1, 1) := dC_law_1454.2.2.2.2.2.2.2.2.2.2.2.2.2.2.1
theorem dL_law_1477 : decode cL_law 1477 = .ok (.iadd, 1) := dC_law_1454.2.2.2.2.2.2.2.2.2.2.2.2.2.2.2
theorem dC_law_1478 : (decode cL_law 1478 = .ok (.iaload, 1)) ∧ (decode cL_law 1479 = .ok (.invokevirtual 229, 3)) ∧ (decode cL_law 1482 = .ok (.istore 6, 2)) ∧ (decode cL_law 1484 = .ok (.goto 190, 3)) ∧ (decode cL_law 1487 = .ok (.aload_n 1, 1)) ∧ (decode cL_law 1488 = .ok (.aload_n 0, 1)) ∧ (decode cL_law 1489 = .ok (.iload 4, 2)) ∧ (decode cL_law 1491 = .ok (.iconst 1, 1)) ∧ (decode cL_law 1492 = .ok (.iadd, 1)) ∧ (decode cL_law 1493 = .ok (.iaload, 1)) ∧ (decode cL_law 1494 = .ok (.aload_n 0, 1)) ∧ (decode cL_law 1495 = .ok (.iload 4, 2)) ∧ (decode cL_law 1497 = .ok (.iconst 2, 1)) ∧ (decode cL_law 1498 = .ok (.iadd, 1)) ∧ (decode cL_law 1499 = .ok (.iaload, 1)) ∧ (decode cL_law 1500 = .ok (.aload_n 3, 1)) := by decide +kernel
theorem dL_law_1478 : decode cL_law 1478 = .ok (.iaload, 1) := dC_law_1478.1
theorem dL_law_1479 : decode cL_law 1479 = .ok (.invokevirtual 229, 3) := dC_law_1478.2.1
theorem dL_law_1482 : decode cL_law 1482 = .ok (.istore 6, 2) := dC_law_1478.2.2.1
theorem dL_law_1484 : decode cL_law 1484 = .ok (.goto 190, 3) := dC_law_1478.2.2.2.1
theorem dL_law_1487 : decode cL_law 1487 = .ok (.aload_n 1, 1) := dC_law_1478.2.2.2.2.1
theorem dL_law_1488 : decode cL_law 1488 = .ok (.aload_n 0, 1) := dC_law_1478.2.2.2.2.2.1
theorem dL_law_1489 : decode cL_law 1489 = .ok (.iload 4, 2) := dC_law_1478.2.2.2.2.2.2.1
theorem dL_law_1491 : decode cL_law 1491 = .ok (.iconst 1, 1) := dC_law_1478.2.2.2.2.2.2.2.1
theorem dL_law_1492 : decode cL_law 1492 = .ok (.iadd, 1) := dC_law_1478.2.2.2.2.2.2.2.2.1
theorem dL_law_1493 : decode cL_law 1493 = .ok (.iaload, 1) := dC_law_1478.2.2.2.2.2.2.2.2.2.1
theorem dL_law_1494 : decode cL_law 1494 = .ok (.aload_n 0, 1) := dC_law_1478.2.2.2.2.2.2.2.2.2.2.1
theorem dL_law_1495 : decode cL_law 1495 = .ok (.iload 4, 2) := dC_law_1478.2.2.2.2.2.2.2.2.2.2.2.1
theorem dL_law_1497 : decode cL_law 1497 = .ok (.iconst 2, 1) := dC_law_1478.2.2.2.2.2.2.2.2.2.2.2.2.1
theorem dL_law_1498 : decode cL_law 1498 = .ok (.iadd, 1) := dC_law_1478.2.2.2.2.2.2.2.2.2.2.2.2.2.1
theorem dL_law_1499 : decode cL_law 1499 = .ok (.iaload, 1) := dC_law_1478.2.2.2.2.2.2.2.2.2.2.2.2.2.2.1
theorem dL_law_1500 : decode cL_law 1500 = .ok (.aload_n 3, 1) := dC_law_1478.2.2.2.2.2.2.2.2.2.2.2.2.2.2.2
theorem dC_law_1501 : (decode cL_law 1501 = .ok (.invokestatic 230, 3)) ∧ (decode cL_law 1504 = .ok (.istore 5, 2)) ∧ (decode cL_law 1506 = .ok (.aload_n 2, 1)) ∧ (decode cL_law 1507 = .ok (.aload_n 0, 1)) ∧ (decode cL_law 1508 = .ok (.iload 4, 2)) ∧ (decode cL_law 1510 = .ok (.iconst 1, 1)) ∧ (decode cL_law 1511 = .ok (.iadd, 1)) ∧ (decode cL_law 1512 = .ok (.iaload, 1)) ∧ (decode cL_law 1513 = .ok (.aload_n 0, 1)) ∧ (decode cL_law 1514 = .ok (.iload 4, 2)) ∧ (decode cL_law 1516 = .ok (.iconst 2, 1)) ∧ (decode cL_law 1517 = .ok (.iadd, 1)) ∧ (decode cL_law 1518 = .ok (.iaload, 1)) ∧ (decode cL_law 1519 = .ok (.invokevirtual 232, 3)) ∧ (decode cL_law 1522 = .ok (.istore 6, 2)) ∧ (decode cL_law 1524 = .ok (.goto 150, 3)) := by decide +kernel
theorem dL_law_1501 : decode cL_law 1501 = .ok (.invokestatic 230, 3) := dC_law_1501.1
theorem dL_law_1504 : decode cL_law 1504 = .ok (.istore 5, 2) := dC_law_1501.2.1
theorem dL_law_1506 : decode cL_law 1506 = .ok (.aload_n 2, 1) := dC_law_1501.2.2.1
theorem dL_law_1507 : decode cL_law 1507 = .ok (.aload_n 0, 1) := dC_law_1501.2.2.2.1
theorem dL_law_1508 : decode cL_law 1508 = .ok (.iload 4, 2) := dC_law_1501.2.2.2.2.1
theorem dL_law_1510 : decode cL_law 1510 = .ok (.iconst 1, 1) := dC_law_1501.2.2.2.2.2.1
theorem dL_law_1511 : decode cL_law 1511 = .ok (.iadd, 1) := dC_law_1501.2.2.2.2.2.2.1
theorem dL_law_1512 : decode cL_law 1512 = .ok (.iaload, 1) := dC_law_1501.2.2.2.2.2.2.2.1
theorem dL_law_1513 : decode cL_law 1513 = .ok (.aload_n 0, 1) := dC_law_1501.2.2.2.2.2.2.2.2.1
theorem dL_law_1514 : decode cL_law 1514 = .ok (.iload 4, 2) := dC_law_1501.2.2.2.2.2.2.2.2.2.1
theorem dL_law_1516 : decode cL_law 1516 = .ok (.iconst 2, 1) := dC_law_1501.2.2.2.2.2.2.2.2.2.2.1
theorem dL_law_1517 : decode cL_law 1517 = .ok (.iadd, 1) := dC_law_1501.2.2.2.2.2.2.2.2.2.2.2.1
theorem dL_law_1518 : decode cL_law 1518 = .ok (.iaload, 1) := dC_law_1501.2.2.2.2.2.2.2.2.2.2.2.2.1
theorem dL_law_1519 : decode cL_law 1519 = .ok (.invokevirtual 232, 3) := dC_law_1501.2.2.2.2.2.2.2.2.2.2.2.2.2.1
theorem dL_law_1522 : decode cL_law 1522 = .ok (.istore 6, 2) := dC_law_1501.2.2.2.2.2.2.2.2.2.2.2.2.2.2.1
theorem dL_law_1524 : decode cL_law 1524 = .ok (.goto 150, 3) := dC_law_1501.2.2.2.2.2.2.2.2.2.2.2.2.2.2.2
theorem dC_law_1527 : (decode cL_law 1527 = .ok (.aload_n 1, 1)) ∧ (decode cL_law 1528 = .ok (.aload_n 0, 1)) ∧ (decode cL_law 1529 = .ok (.iload 4, 2)) ∧ (decode cL_law 1531 = .ok (.iconst 1, 1)) ∧ (decode cL_law 1532 = .ok (.iadd, 1)) ∧ (decode cL_law 1533 = .ok (.iaload, 1)) ∧ (decode cL_law 1534 = .ok (.aload_n 3, 1)) ∧ (decode cL_law 1535 = .ok (.invokestatic 233, 3)) ∧ (decode cL_law 1538 = .ok (.istore 5, 2)) ∧ (decode cL_law 1540 = .ok (.aload_n 2, 1)) ∧ (decode cL_law 1541 = .ok (.aload_n 0, 1)) ∧ (decode cL_law 1542 = .ok (.iload 4, 2)) ∧ (decode cL_law 1544 = .ok (.iconst 1, 1)) ∧ (decode cL_law 1545 = .ok (.iadd, 1)) ∧ (decode cL_law 1546 = .ok (.iaload, 1)) ∧ (decode cL_law 1547 = .ok (.invokevirtual 235, 3)) := by decide +kernel
theorem dL_law_1527 : decode cL_law 1527 = .ok (.aload_n 1, 1) := dC_law_1527.1
theorem dL_law_1528 : decode cL_law 1528 = .ok (.aload_n 0, 1) := dC_law_1527.2.1
theorem dL_law_1529 : decode cL_law 1529 = .ok (.iload 4, 2) := dC_law_1527.2.2.1
theorem dL_law_1531 : decode cL_law 1531 = .ok (.iconst 1, 1) := dC_law_1527.2.2.2.1
theorem dL_law_1532 : decode cL_law 1532 = .ok (.iadd, 1) := dC_law_1527.2.2.2.2.1
theorem dL_law_1533 : decode cL_law 1533 = .ok (.iaload, 1) := dC_law_1527.2.2.2.2.2.1
theorem dL_law_1534 : decode cL_law 1534 = .ok (.aload_n 3, 1) := dC_law_1527.2.2.2.2.2.2.1
theorem dL_law_1535 : decode cL_law 1535 = .ok (.invokestatic 233, 3) := dC_law_1527.2.2.2.2.2.2.2.1
theorem dL_law_1538 : decode cL_law 1538 = .ok (.istore 5, 2) := dC_law_1527.2.2.2.2.2.2.2.2.1
theorem dL_law_1540 : decode cL_law 1540 = .ok (.aload_n 2, 1) := dC_law_1527.2.2.2.2.2.2.2.2.2.1
theorem dL_law_1541 : decode cL_law 1541 = .ok (.aload_n 0, 1) := dC_law_1527.2.2.2.2.2.2.2.2.2.2.1
theorem dL_law_1542 : decode cL_law 1542 = .ok (.iload 4, 2) := dC_law_1527.2.2.2.2.2.2.2.2.2.2.2.1
theorem dL_law_1544 : decode cL_law 1544 = .ok (.iconst 1, 1) := dC_law_1527.2.2.2.2.2.2.2.2.2.2.2.2.1
theorem dL_law_1545 : decode cL_law 1545 = .ok (.iadd, 1) := dC_law_1527.2.2.2.2.2.2.2.2.2.2.2.2.2.1
theorem dL_law_1546 : decode cL_law 1546 = .ok (.iaload, 1) := dC_law_1527.2.2.2.2.2.2.2.2.2.2.2.2.2.2.1
theorem dL_law_1547 : decode cL_law 1547 = .ok (.invokevirtual 235, 3) := dC_law_1527.2.2.2.2.2.2.2.2.2.2.2.2.2.2.2
theorem dC_law_1550 : (decode cL_law 1550 = .ok (.istore 6, 2)) ∧ (decode cL_law 1552 = .ok (.goto 122, 3)) ∧ (decode cL_law 1555 = .ok (.aload_n 1, 1)) ∧ (decode cL_law 1556 = .ok (.aload_n 0, 1)) ∧ (decode cL_law 1557 = .ok (.iload 4, 2)) ∧ (decode cL_law 1559 = .ok (.iconst 1, 1)) ∧ (decode cL_law 1560 = .ok (.iadd, 1)) ∧ (decode cL_law 1561 = .ok (.iaload, 1)) ∧ (decode cL_law 1562 = .ok (.aload_n 0, 1)) ∧ (decode cL_law 1563 = .ok (.iload 4, 2)) ∧ (decode cL_law 1565 = .ok (.iconst 2, 1)) ∧ (decode cL_law 1566 = .ok (.iadd, 1)) ∧ (decode cL_law 1567 = .ok (.iaload, 1)) ∧ (decode cL_law 1568 = .ok (.aload_n 0, 1)) ∧ (decode cL_law 1569 = .ok (.iload 4, 2)) ∧ (decode cL_law 1571 = .ok (.iconst 3, 1)) := by decide +kernel
theorem dL_law_1550 : decode cL_law 1550 = .ok (.istore 6, 2) := dC_law_1550.1
theorem dL_law_1552 : decode cL_law 1552 = .ok (.goto 122, 3) := dC_law_1550.2.1
theorem dL_law_1555 : decode cL_law 1555 = .ok (.aload_n 1, 1) := dC_law_1550.2.2.1
theorem dL_law_1556 : decode cL_law 1556 = .ok (.aload_n 0, 1) := dC_law_1550.2.2.2.1
theorem dL_law_1557 : decode cL_law 1557 = .ok (.iload 4, 2) := dC_law_1550.2.2.2.2.1
theorem dL_law_1559 : decode cL_law 1559 = .ok (.iconst 1, 1) := dC_law_1550.2.2.2.2.2.1
theorem dL_law_1560 : decode cL_law 1560 = .ok (.iadd, 1) := dC_law_1550.2.2.2.2.2.2.1
theorem dL_law_1561 : decode cL_law 1561 = .ok (.iaload, 1) := dC_law_1550.2.2.2.2.2.2.2.1
theorem dL_law_1562 : decode cL_law 1562 = .ok (.aload_n 0, 1) := dC_law_1550.2.2.2.2.2.2.2.2.1
theorem dL_law_1563 : decode cL_law 1563 = .ok (.iload 4, 2) := dC_law_1550.2.2.2.2.2.2.2.2.2.1
theorem dL_law_1565 : decode cL_law 1565 = .ok (.iconst 2, 1) := dC_law_1550.2.2.2.2.2.2.2.2.2.2.1
theorem dL_law_1566 : decode cL_law 1566 = .ok (.iadd, 1) := dC_law_1550.2.2.2.2.2.2.2.2.2.2.2.1
theorem dL_law_1567 : decode cL_law 1567 = .ok (.iaload, 1) := dC_law_1550.2.2.2.2.2.2.2.2.2.2.2.2.1
theorem dL_law_1568 : decode cL_law 1568 = .ok (.aload_n 0, 1) := dC_law_1550.2.2.2.2.2.2.2.2.2.2.2.2.2.1
theorem dL_law_1569 : decode cL_law 1569 = .ok (.iload 4, 2) := dC_law_1550.2.2.2.2.2.2.2.2.2.2.2.2.2.2.1
theorem dL_law_1571 : decode cL_law 1571 = .ok (.iconst 3, 1) := dC_law_1550.2.2.2.2.2.2.2.2.2.2.2.2.2.2.2
theorem dC_law_1572 : (decode cL_law 1572 = .ok (.iadd, 1)) ∧ (decode cL_law 1573 = .ok (.iaload, 1)) ∧ (decode cL_law 1574 = .ok (.aload_n 3, 1)) ∧ (decode cL_law 1575 = .ok (.invokestatic 236, 3)) ∧ (decode cL_law 1578 = .ok (.istore 5, 2)) ∧ (decode cL_law 1580 = .ok (.aload_n 2, 1)) ∧ (decode cL_law 1581 = .ok (.aload_n 0, 1)) ∧ (decode cL_law 1582 = .ok (.iload 4, 2)) ∧ (decode cL_law 1584 = .ok (.iconst 1, 1)) ∧ (decode cL_law 1585 = .ok (.iadd, 1)) ∧ (decode cL_law 1586 = .ok (.iaload, 1)) ∧ (decode cL_law 1587 = .ok (.aload_n 0, 1)) ∧ (decode cL_law 1588 = .ok (.iload 4, 2)) ∧ (decode cL_law 1590 = .ok (.iconst 2, 1)) ∧ (decode cL_law 1591 = .ok (.iadd, 1)) ∧ (decode cL_law 1592 = .ok (.iaload, 1)) := by decide +kernel
theorem dL_law_1572 : decode cL_law 1572 = .ok (.iadd, 1) := dC_law_1572.1
theorem dL_law_1573 : decode cL_law 1573 = .ok (.iaload, 1) := dC_law_1572.2.1
theorem dL_law_1574 : decode cL_law 1574 = .ok (.aload_n 3, 1) := dC_law_1572.2.2.1
theorem dL_law_1575 : decode cL_law 1575 = .ok (.invokestatic 236, 3) := dC_law_1572.2.2.2.1
theorem dL_law_1578 : decode cL_law 1578 = .ok (.istore 5, 2) := dC_law_1572.2.2.2.2.1
theorem dL_law_1580 : decode cL_law 1580 = .ok (.aload_n 2, 1) := dC_law_1572.2.2.2.2.2.1
theorem dL_law_1581 : decode cL_law 1581 = .ok (.aload_n 0, 1) := dC_law_1572.2.2.2.2.2.2.1
theorem dL_law_1582 : decode cL_law 1582 = .ok (.iload 4, 2) := dC_law_1572.2.2.2.2.2.2.2.1
theorem dL_law_1584 : decode cL_law 1584 = .ok (.iconst 1, 1) := dC_law_1572.2.2.2.2.2.2.2.2.1
theorem dL_law_1585 : decode cL_law 1585 = .ok (.iadd, 1) := dC_law_1572.2.2.2.2.2.2.2.2.2.1
theorem dL_law_1586 : decode cL_law 1586 = .ok (.iaload, 1) := dC_law_1572.2.2.2.2.2.2.2.2.2.2.1
theorem dL_law_1587 : decode cL_law 1587 = .ok (.aload_n 0, 1) := dC_law_1572.2.2.2.2.2.2.2.2.2.2.2.1
theorem dL_law_1588 : decode cL_law 1588 = .ok (.iload 4, 2) := dC_law_1572.2.2.2.2.2.2.2.2.2.2.2.2.1
theorem dL_law_1590 : decode cL_law 1590 = .ok (.iconst 2, 1) := dC_law_1572.2.2.2.2.2.2.2.2.2.2.2.2.2.1
theorem dL_law_1591 : decode cL_law 1591 = .ok (.iadd, 1) := dC_law_1572.2.2.2.2.2.2.2.2.2.2.2.2.2.2.1
theorem dL_law_1592 : decode cL_law 1592 = .ok (.iaload, 1) := dC_law_1572.2.2.2.2.2.2.2.2.2.2.2.2.2.2.2
theorem dC_law_1593 : (decode cL_law 1593 = .ok (.aload_n 0, 1)) ∧ (decode cL_law 1594 = .ok (.iload 4, 2)) ∧ (decode cL_law 1596 = .ok (.iconst 3, 1)) ∧ (decode cL_law 1597 = .ok (.iadd, 1)) ∧ (decode cL_law 1598 = .ok (.iaload, 1)) ∧ (decode cL_law 1599 = .ok (.invokevirtual 238, 3)) ∧ (decode cL_law 1602 = .ok (.istore 6, 2)) ∧ (decode cL_law 1604 = .ok (.goto 70, 3)) ∧ (decode cL_law 1607 = .ok (.aload_n 1, 1)) ∧ (decode cL_law 1608 = .ok (.invokevirtual 239, 3)) ∧ (decode cL_law 1611 = .ok (.pop, 1)) ∧ (decode cL_law 1612 = .ok (.aload_n 2, 1)) ∧ (decode cL_law 1613 = .ok (.invokevirtual 242, 3)) ∧ (decode cL_law 1616 = .ok (.pop, 1)) ∧ (decode cL_law 1617 = .ok (.goto 57, 3)) ∧ (decode cL_law 1620 = .ok (.aload_n 1, 1)) := by decide +kernel
theorem dL_law_1593 : decode cL_law 1593 = .ok (.aload_n 0, 1) := dC_law_1593.1
theorem dL_law_1594 : decode cL_law 1594 = .ok (.iload 4, 2) := dC_law_1593.2.1
theorem dL_law_1596 : decode cL_law 1596 = .ok (.iconst 3, 1) := dC_law_1593.2.2.1
theorem dL_law_1597 : decode cL_law 1597 = .ok (.iadd, 1) := dC_law_1593.2.2.2.1
theorem dL_law_1598 : decode cL_law 1598 = .ok (.iaload, 1) := dC_law_1593.2.2.2.2.1
theorem dL_law_1599 : decode cL_law 1599 = .ok (.invokevirtual 238, 3) := dC_law_1593.2.2.2.2.2.1
theorem dL_law_1602 : decode cL_law 1602 = .ok (.istore 6, 2) := dC_law_1593.2.2.2.2.2.2.1
theorem dL_law_1604 : decode cL_law 1604 = .ok (.goto 70, 3) := dC_law_1593.2.2.2.2.2.2.2.1
theorem dL_law_1607 : decode cL_law 1607 = .ok (.aload_n 1, 1) := dC_law_1593.2.2.2.2.2.2.2.2.1
theorem dL_law_1608 : decode cL_law 1608 = .ok (.invokevirtual 239, 3) := dC_law_1593.2.2.2.2.2.2.2.2.2.1
theorem dL_law_1611 : decode cL_law 1611 = .ok (.pop, 1) := dC_law_1593.2.2.2.2.2.2.2.2.2.2.1
theorem dL_law_1612 : decode cL_law 1612 = .ok (.aload_n 2, 1) := dC_law_1593.2.2.2.2.2.2.2.2.2.2.2.1
theorem dL_law_1613 : decode cL_law 1613 = .ok (.invokevirtual 242, 3) := dC_law_1593.2.2.2.2.2.2.2.2.2.2.2.2.1
theorem dL_law_1616 : decode cL_law 1616 = .ok (.pop, 1) := dC_law_1593.2.2.2.2.2.2.2.2.2.2.2.2.2.1
theorem dL_law_1617 : decode cL_law 1617 = .ok (.goto 57, 3) := dC_law_1593.2.2.2.2.2.2.2.2.2.2.2.2.2.2.1
theorem dL_law_1620 : decode cL_law 1620 = .ok (.aload_n 1, 1) := dC_law_1593.2.2.2.2.2.2.2.2.2.2.2.2.2.2.2
theorem dC_law_1621 : (decode cL_law 1621 = .ok (.aload_n 0, 1)) ∧ (decode cL_law 1622 = .ok (.iload 4, 2)) ∧ (decode cL_law 1624 = .ok (.iconst 1, 1)) ∧ (decode cL_law 1625 = .ok (.iadd, 1)) ∧ (decode cL_law 1626 = .ok (.iaload, 1)) ∧ (decode cL_law 1627 = .ok (.aload_n 3, 1)) ∧ (decode cL_law 1628 = .ok (.invokestatic 243, 3)) ∧ (decode cL_law 1631 = .ok (.istore 5, 2)) ∧ (decode cL_law 1633 = .ok (.aload_n 2, 1)) ∧ (decode cL_law 1634 = .ok (.aload_n 0, 1)) ∧ (decode cL_law 1635 = .ok (.iload 4, 2)) ∧ (decode cL_law 1637 = .ok (.iconst 1, 1)) ∧ (decode cL_law 1638 = .ok (.iadd, 1)) ∧ (decode cL_law 1639 = .ok (.iaload, 1)) ∧ (decode cL_law 1640 = .ok (.invokevirtual 245, 3)) ∧ (decode cL_law 1643 = .ok (.istore 6, 2)) := by decide +kernel
theorem dL_law_1621 : decode cL_law 1621 = .ok (.aload_n 0, 1) := dC_law_1621.1
theorem dL_law_1622 : decode cL_law 1622 = .ok (.iload 4, 2) := dC_law_1621.2.1
theorem dL_law_1624 : decode cL_law 1624 = .ok (.iconst 1, 1) := dC_law_1621.2.2.1
theorem dL_law_1625 : decode cL_law 1625 = .ok (.iadd, 1) := dC_law_1621.2.2.2.1
theorem dL_law_1626 : decode cL_law 1626 = .ok (.iaload, 1) := dC_law_1621.2.2.2.2.1
theorem dL_law_1627 : decode cL_law 1627 = .ok (.aload_n 3, 1) := dC_law_1621.2.2.2.2.2.1
theorem dL_law_1628 : decode cL_law 1628 = .ok (.invokestatic 243, 3) := dC_law_1621.2.2.2.2.2.2.1
theorem dL_law_1631 : decode cL_law 1631 = .ok (.istore 5, 2) := dC_law_1621.2.2.2.2.2.2.2.1
theorem dL_law_1633 : decode cL_law 1633 = .ok (.aload_n 2, 1) := dC_law_1621.2.2.2.2.2.2.2.2.1
theorem dL_law_1634 : decode cL_law 1634 = .ok (.aload_n 0, 1) := dC_law_1621.2.2.2.2.2.2.2.2.2.1
theorem dL_law_1635 : decode cL_law 1635 = .ok (.iload 4, 2) := dC_law_1621.2.2.2.2.2.2.2.2.2.2.1
theorem dL_law_1637 : decode cL_law 1637 = .ok (.iconst 1, 1) := dC_law_1621.2.2.2.2.2.2.2.2.2.2.2.1
theorem dL_law_1638 : decode cL_law 1638 = .ok (.iadd, 1) := dC_law_1621.2.2.2.2.2.2.2.2.2.2.2.2.1
theorem dL_law_1639 : decode cL_law 1639 = .ok (.iaload, 1) := dC_law_1621.2.2.2.2.2.2.2.2.2.2.2.2.2.1
theorem dL_law_1640 : decode cL_law 1640 = .ok (.invokevirtual 245, 3) := dC_law_1621.2.2.2.2.2.2.2.2.2.2.2.2.2.2.1
theorem dL_law_1643 : decode cL_law 1643 = .ok (.istore 6, 2) := dC_law_1621.2.2.2.2.2.2.2.2.2.2.2.2.2.2.2
theorem dC_law_1645 : (decode cL_law 1645 = .ok (.goto 29, 3)) ∧ (decode cL_law 1648 = .ok (.aload_n 1, 1)) ∧ (decode cL_law 1649 = .ok (.invokevirtual 246, 3)) ∧ (decode cL_law 1652 = .ok (.pop, 1)) ∧ (decode cL_law 1653 = .ok (.aload_n 2, 1)) ∧ (decode cL_law 1654 = .ok (.invokevirtual 250, 3)) ∧ (decode cL_law 1657 = .ok (.pop, 1)) ∧ (decode cL_law 1658 = .ok (.goto 16, 3)) ∧ (decode cL_law 1661 = .ok (.aload_n 1, 1)) ∧ (decode cL_law 1662 = .ok (.invokevirtual 251, 3)) ∧ (decode cL_law 1665 = .ok (.pop2, 1)) ∧ (decode cL_law 1666 = .ok (.aload_n 2, 1)) ∧ (decode cL_law 1667 = .ok (.invokevirtual 255, 3)) ∧ (decode cL_law 1670 = .ok (.pop2, 1)) ∧ (decode cL_law 1671 = .ok (.goto 3, 3)) ∧ (decode cL_law 1674 = .ok (.iinc 4 5, 3)) := by decide +kernel
theorem dL_law_1645 : decode cL_law 1645 = .ok (.goto 29, 3) := dC_law_1645.1
theorem dL_law_1648 : decode cL_law 1648 = .ok (.aload_n 1, 1) := dC_law_1645.2.1
theorem dL_law_1649 : decode cL_law 1649 = .ok (.invokevirtual 246, 3) := dC_law_1645.2.2.1
theorem dL_law_1652 : decode cL_law 1652 = .ok (.pop, 1) := dC_law_1645.2.2.2.1
theorem dL_law_1653 : decode cL_law 1653 = .ok (.aload_n 2, 1) := dC_law_1645.2.2.2.2.1
theorem dL_law_1654 : decode cL_law 1654 = .ok (.invokevirtual 250, 3) := dC_law_1645.2.2.2.2.2.1
theorem dL_law_1657 : decode cL_law 1657 = .ok (.pop, 1) := dC_law_1645.2.2.2.2.2.2.1
theorem dL_law_1658 : decode cL_law 1658 = .ok (.goto 16, 3) := dC_law_1645.2.2.2.2.2.2.2.1
theorem dL_law_1661 : decode cL_law 1661 = .ok (.aload_n 1, 1) := dC_law_1645.2.2.2.2.2.2.2.2.1
theorem dL_law_1662 : decode cL_law 1662 = .ok (.invokevirtual 251, 3) := dC_law_1645.2.2.2.2.2.2.2.2.2.1
theorem dL_law_1665 : decode cL_law 1665 = .ok (.pop2, 1) := dC_law_1645.2.2.2.2.2.2.2.2.2.2.1
theorem dL_law_1666 : decode cL_law 1666 = .ok (.aload_n 2, 1) := dC_law_1645.2.2.2.2.2.2.2.2.2.2.2.1
theorem dL_law_1667 : decode cL_law 1667 = .ok (.invokevirtual 255, 3) := dC_law_1645.2.2.2.2.2.2.2.2.2.2.2.2.1
theorem dL_law_1670 : decode cL_law 1670 = .ok (.pop2, 1) := dC_law_1645.2.2.2.2.2.2.2.2.2.2.2.2.2.1
theorem dL_law_1671 : decode cL_law 1671 = .ok (.goto 3, 3) := dC_law_1645.2.2.2.2.2.2.2.2.2.2.2.2.2.2.1
theorem dL_law_1674 : decode cL_law 1674 = .ok (.iinc 4 5, 3) := dC_law_1645.2.2.2.2.2.2.2.2.2.2.2.2.2.2.2
theorem dC_law_1677 : (decode cL_law 1677 = .ok (.goto (-1650), 3)) ∧ (decode cL_law 1680 = .ok (.iconst 1, 1)) ∧ (decode cL_law 1681 = .ok (.ireturn, 1)) := by decide +kernel
theorem dL_law_1677 : decode cL_law 1677 = .ok (.goto (-1650), 3) := dC_law_1677.1
theorem dL_law_1680 : decode cL_law 1680 = .ok (.iconst 1, 1) := dC_law_1677.2.1
theorem dL_law_1681 : decode cL_law 1681 = .ok (.ireturn, 1) := dC_law_1677.2.2
