theorem dX5_either_15 : decode cX5_either 15 = .ok (.goto 9, 3) := by decide +kernel
theorem dX5_either_18 : decode cX5_either 18 = .ok (.aload_n 0, 1) := by decide +kernel
theorem dX5_either_19 : decode cX5_either 19 = .ok (.getfield 11, 3) := by decide +kernel
theorem dX5_either_22 : decode cX5_either 22 = .ok (.iload_n 1, 1) := by decide +kernel
theorem dX5_either_23 : decode cX5_either 23 = .ok (.aaload, 1) := by decide +kernel
theorem dX5_either_24 : decode cX5_either 24 = .ok (.astore_n 3, 1) := by decide +kernel
theorem dX5_either_25 : decode cX5_either 25 = .ok (.aload_n 3, 1) := by decide +kernel
theorem dX5_either_26 : decode cX5_either 26 = .ok (.ifnonnull 10, 3) := by decide +kernel
theorem dX5_either_29 : decode cX5_either 29 = .ok (.aload_n 0, 1) := by decide +kernel
theorem dX5_either_30 : decode cX5_either 30 = .ok (.invokevirtual 121, 3) := by decide +kernel
theorem dX5_either_33 : decode cX5_either 33 = .ok (.goto 7, 3) := by decide +kernel
theorem dX5_either_36 : decode cX5_either 36 = .ok (.aload_n 3, 1) := by decide +kernel
theorem dX5_either_37 : decode cX5_either 37 = .ok (.invokestatic 115, 3) := by decide +kernel
theorem dX5_either_40 : decode cX5_either 40 = .ok (.areturn, 1) := by decide +kernel
theorem dX5_orElse_0 : decode cX5_orElse 0 = .ok (.aload_n 0, 1) := by decide +kernel
theorem dX5_orElse_1 : decode cX5_orElse 1 = .ok (.iload_n 1, 1) := by decide +kernel
theorem dX5_orElse_2 : decode cX5_orElse 2 = .ok (.iload_n 2, 1) := by decide +kernel
theorem dX5_orElse_3 : decode cX5_orElse 3 = .ok (.invokevirtual 101, 3) := by decide +kernel
theorem dX5_orElse_6 : decode cX5_orElse 6 = .ok (.ifCond .eq 8, 3) := by decide +kernel
theorem dX5_orElse_9 : decode cX5_orElse 9 = .ok (.ldc 33, 2) := by decide +kernel
theorem dX5_orElse_11 : decode cX5_orElse 11 = .ok (.goto 9, 3) := by decide +kernel
theorem dX5_orElse_14 : decode cX5_orElse 14 = .ok (.aload_n 0, 1) := by decide +kernel
theorem dX5_orElse_15 : decode cX5_orElse 15 = .ok (.iload_n 1, 1) := by decide +kernel
theorem dX5_orElse_16 : decode cX5_orElse 16 = .ok (.iload_n 2, 1) := by decide +kernel
theorem dX5_orElse_17 : decode cX5_orElse 17 = .ok (.invokevirtual 137, 3) := by decide +kernel
theorem dX5_orElse_20 : decode cX5_orElse 20 = .ok (.areturn, 1) := by decide +kernel
theorem dX5_orGiven_0 : decode cX5_orGiven 0 = .ok (.aload_n 0, 1) := by decide +kernel
theorem dX5_orGiven_1 : decode cX5_orGiven 1 = .ok (.iload_n 1, 1) := by decide +kernel
theorem dX5_orGiven_2 : decode cX5_orGiven 2 = .ok (.iload_n 2, 1) := by decide +kernel
theorem dX5_orGiven_3 : decode cX5_orGiven 3 = .ok (.invokevirtual 101, 3) := by decide +kernel
theorem dX5_orGiven_6 : decode cX5_orGiven 6 = .ok (.ifCond .eq 6, 3) := by decide +kernel
theorem dX5_orGiven_9 : decode cX5_orGiven 9 = .ok (.ldc 33, 2) := by decide +kernel
theorem dX5_orGiven_11 : decode cX5_orGiven 11 = .ok (.areturn, 1) := by decide +kernel
theorem dX5_orGiven_12 : decode cX5_orGiven 12 = .ok (.aload_n 0, 1) := by decide +kernel
theorem dX5_orGiven_13 : decode cX5_orGiven 13 = .ok (.dup, 1) := by decide +kernel
theorem dX5_orGiven_14 : decode cX5_orGiven 14 = .ok (.getfield 134, 3) := by decide +kernel
theorem dX5_orGiven_17 : decode cX5_orGiven 17 = .ok (.aload_n 0, 1) := by decide +kernel
theorem dX5_orGiven_18 : decode cX5_orGiven 18 = .ok (.getfield 11, 3) := by decide +kernel
theorem dX5_orGiven_21 : decode cX5_orGiven 21 = .ok (.iload_n 1, 1) := by decide +kernel
theorem dX5_orGiven_22 : decode cX5_orGiven 22 = .ok (.aaload, 1) := by decide +kernel
theorem dX5_orGiven_23 : decode cX5_orGiven 23 = .ok (.ifnonnull 7, 3) := by decide +kernel
theorem dX5_orGiven_26 : decode cX5_orGiven 26 = .ok (.iconst 1, 1) := by decide +kernel
theorem dX5_orGiven_27 : decode cX5_orGiven 27 = .ok (.goto 4, 3) := by decide +kernel
theorem dX5_orGiven_30 : decode cX5_orGiven 30 = .ok (.iconst 0, 1) := by decide +kernel
theorem dX5_orGiven_31 : decode cX5_orGiven 31 = .ok (.invokestatic 49, 3) := by decide +kernel
theorem dX5_orGiven_34 : decode cX5_orGiven 34 = .ok (.iadd, 1) := by decide +kernel
theorem dX5_orGiven_35 : decode cX5_orGiven 35 = .ok (.putfield 134, 3) := by decide +kernel
theorem dX5_orGiven_38 : decode cX5_orGiven 38 = .ok (.aload_n 0, 1) := by decide +kernel
theorem dX5_orGiven_39 : decode cX5_orGiven 39 = .ok (.iload_n 1, 1) := by decide +kernel
theorem dX5_orGiven_40 : decode cX5_orGiven 40 = .ok (.iload_n 2, 1) := by decide +kernel
theorem dX5_orGiven_41 : decode cX5_orGiven 41 = .ok (.invokevirtual 137, 3) := by decide +kernel
theorem dX5_orGiven_44 : decode cX5_orGiven 44 = .ok (.areturn, 1) := by decide +kernel
theorem dX5_isMissing_0 : decode cX5_isMissing 0 = .ok (.aload_n 0, 1) := by decide +kernel
theorem dX5_isMissing_1 : decode cX5_isMissing 1 = .ok (.iload_n 1, 1) := by decide +kernel
theorem dX5_isMissing_2 : decode cX5_isMissing 2 = .ok (.invokestatic 69, 3) := by decide +kernel
theorem dX5_isMissing_5 : decode cX5_isMissing 5 = .ok (.iconst 1, 1) := by decide +kernel
theorem dX5_isMissing_6 : decode cX5_isMissing 6 = .ok (.invokevirtual 72, 3) := by decide +kernel
theorem dX5_isMissing_9 : decode cX5_isMissing 9 = .ok (.ifCond .ne 16, 3) := by decide +kernel
theorem dX5_isMissing_12 : decode cX5_isMissing 12 = .ok (.aload_n 0, 1) := by decide +kernel
theorem dX5_isMissing_13 : decode cX5_isMissing 13 = .ok (.getfield 11, 3) := by decide +kernel
theorem dX5_isMissing_16 : decode cX5_isMissing 16 = .ok (.iload_n 1, 1) := by decide +kernel
theorem dX5_isMissing_17 : decode cX5_isMissing 17 = .ok (.aaload, 1) := by decide +kernel
theorem dX5_isMissing_18 : decode cX5_isMissing 18 = .ok (.ifnonnull 7, 3) := by decide +kernel
theorem dX5_isMissing_21 : decode cX5_isMissing 21 = .ok (.iconst 1, 1) := by decide +kernel
theorem dX5_isMissing_22 : decode cX5_isMissing 22 = .ok (.goto 4, 3) := by decide +kernel
theorem dX5_isMissing_25 : decode cX5_isMissing 25 = .ok (.iconst 0, 1) := by decide +kernel
theorem dX5_isMissing_26 : decode cX5_isMissing 26 = .ok (.ireturn, 1) := by decide +kernel
theorem dX5_isThere_0 : decode cX5_isThere 0 = .ok (.aload_n 0, 1) := by decide +kernel
theorem dX5_isThere_1 : decode cX5_isThere 1 = .ok (.iload_n 1, 1) := by decide +kernel
theorem dX5_isThere_2 : decode cX5_isThere 2 = .ok (.invokestatic 69, 3) := by decide +kernel
theorem dX5_isThere_5 : decode cX5_isThere 5 = .ok (.iconst 1, 1) := by decide +kernel
theorem dX5_isThere_6 : decode cX5_isThere 6 = .ok (.invokevirtual 72, 3) := by decide +kernel
theorem dX5_isThere_9 : decode cX5_isThere 9 = .ok (.ifCond .ne 16, 3) := by decide +kernel
theorem dX5_isThere_12 : decode cX5_isThere 12 = .ok (.aload_n 0, 1) := by decide +kernel
theorem dX5_isThere_13 : decode cX5_isThere 13 = .ok (.getfield 11, 3) := by decide +kernel
theorem dX5_isThere_16 : decode cX5_isThere 16 = .ok (.iload_n 1, 1) := by decide +kernel
theorem dX5_isThere_17 : decode cX5_isThere 17 = .ok (.aaload, 1) := by decide +kernel
theorem dX5_isThere_18 : decode cX5_isThere 18 = .ok (.ifnull 7, 3) := by decide +kernel
theorem dX5_isThere_21 : decode cX5_isThere 21 = .ok (.iconst 1, 1) := by decide +kernel
theorem dX5_isThere_22 : decode cX5_isThere 22 = .ok (.goto 4, 3) := by decide +kernel
theorem dX5_isThere_25 : decode cX5_isThere 25 = .ok (.iconst 0, 1) := by decide +kernel
theorem dX5_isThere_26 : decode cX5_isThere 26 = .ok (.ireturn, 1) := by decide +kernel
theorem dX5_areLike_0 : decode cX5_areLike 0 = .ok (.aload_n 0, 1) := by decide +kernel
theorem dX5_areLike_1 : decode cX5_areLike 1 = .ok (.getfield 11, 3) := by decide +kernel
theorem dX5_areLike_4 : decode cX5_areLike 4 = .ok (.iload_n 1, 1) := by decide +kernel
theorem dX5_areLike_5 : decode cX5_areLike 5 = .ok (.aaload, 1) := by decide +kernel
theorem dX5_areLike_6 : decode cX5_areLike 6 = .ok (.astore_n 3, 1) := by decide +kernel
theorem dX5_areLike_7 : decode cX5_areLike 7 = .ok (.aload_n 0, 1) := by decide +kernel
theorem dX5_areLike_8 : decode cX5_areLike 8 = .ok (.getfield 11, 3) := by decide +kernel
theorem dX5_areLike_11 : decode cX5_areLike 11 = .ok (.iload_n 2, 1) := by decide +kernel
theorem dX5_areLike_12 : decode cX5_areLike 12 = .ok (.aaload, 1) := by decide +kernel
theorem dX5_areLike_13 : decode cX5_areLike 13 = .ok (.astore 4, 2) := by decide +kernel
theorem dX5_areLike_15 : decode cX5_areLike 15 = .ok (.aload_n 3, 1) := by decide +kernel
theorem dX5_areLike_16 : decode cX5_areLike 16 = .ok (.ifnull 8, 3) := by decide +kernel
theorem dX5_areLike_19 : decode cX5_areLike 19 = .ok (.aload 4, 2) := by decide +kernel
theorem dX5_areLike_21 : decode cX5_areLike 21 = .ok (.ifnonnull 17, 3) := by decide +kernel
theorem dX5_areLike_24 : decode cX5_areLike 24 = .ok (.aload_n 3, 1) := by decide +kernel
theorem dX5_areLike_25 : decode cX5_areLike 25 = .ok (.aload 4, 2) := by decide +kernel
theorem dX5_areLike_27 : decode cX5_areLike 27 = .ok (.if_acmp .ne 7, 3) := by decide +kernel
theorem dX5_areLike_30 : decode cX5_areLike 30 = .ok (.iconst 1, 1) := by decide +kernel
theorem dX5_areLike_31 : decode cX5_areLike 31 = .ok (.goto 21, 3) := by decide +kernel
theorem dX5_areLike_34 : decode cX5_areLike 34 = .ok (.iconst 0, 1) := by decide +kernel
theorem dX5_areLike_35 : decode cX5_areLike 35 = .ok (.goto 17, 3) := by decide +kernel
theorem dX5_areLike_38 : decode cX5_areLike 38 = .ok (.aload_n 3, 1) := by decide +kernel
theorem dX5_areLike_39 : decode cX5_areLike 39 = .ok (.aload 4, 2) := by decide +kernel
theorem dX5_areLike_41 : decode cX5_areLike 41 = .ok (.invokestatic 61, 3) := by decide +kernel
theorem dX5_areLike_44 : decode cX5_areLike 44 = .ok (.ifCond .ne 7, 3) := by decide +kernel
theorem dX5_areLike_47 : decode cX5_areLike 47 = .ok (.iconst 1, 1) := by decide +kernel
theorem dX5_areLike_48 : decode cX5_areLike 48 = .ok (.goto 4, 3) := by decide +kernel
theorem dX5_areLike_51 : decode cX5_areLike 51 = .ok (.iconst 0, 1) := by decide +kernel
theorem dX5_areLike_52 : decode cX5_areLike 52 = .ok (.ireturn, 1) := by decide +kernel
theorem dX5_areSame_0 : decode cX5_areSame 0 = .ok (.aload_n 0, 1) := by decide +kernel
theorem dX5_areSame_1 : decode cX5_areSame 1 = .ok (.iload_n 1, 1) := by decide +kernel
theorem dX5_areSame_2 : decode cX5_areSame 2 = .ok (.iload_n 2, 1) := by decide +kernel
theorem dX5_areSame_3 : decode cX5_areSame 3 = .ok (.invokevirtual 101, 3) := by decide +kernel
theorem dX5_areSame_6 : decode cX5_areSame 6 = .ok (.ifCond .ne 16, 3) := by decide +kernel
theorem dX5_areSame_9 : decode cX5_areSame 9 = .ok (.aload_n 0, 1) := by decide +kernel
theorem dX5_areSame_10 : decode cX5_areSame 10 = .ok (.iload_n 1, 1) := by decide +kernel
theorem dX5_areSame_11 : decode cX5_areSame 11 = .ok (.iload_n 2, 1) := by decide +kernel
theorem dX5_areSame_12 : decode cX5_areSame 12 = .ok (.invokevirtual 141, 3) := by decide +kernel
theorem dX5_areSame_15 : decode cX5_areSame 15 = .ok (.ifCond .eq 7, 3) := by decide +kernel
theorem dX5_areSame_18 : decode cX5_areSame 18 = .ok (.iconst 1, 1) := by decide +kernel
theorem dX5_areSame_19 : decode cX5_areSame 19 = .ok (.goto 4, 3) := by decide +kernel
theorem dX5_areSame_22 : decode cX5_areSame 22 = .ok (.iconst 0, 1) := by decide +kernel
theorem dX5_areSame_23 : decode cX5_areSame 23 = .ok (.ireturn, 1) := by decide +kernel
theorem dX5_code_0 : decode cX5_code 0 = .ok (.aload_n 0, 1) := by decide +kernel
theorem dX5_code_1 : decode cX5_code 1 = .ok (.iload_n 1, 1) := by decide +kernel
theorem dX5_code_2 : decode cX5_code 2 = .ok (.invokestatic 69, 3) := by decide +kernel
theorem dX5_code_5 : decode cX5_code 5 = .ok (.iconst 1, 1) := by decide +kernel
theorem dX5_code_6 : decode cX5_code 6 = .ok (.invokevirtual 72, 3) := by decide +kernel
theorem dX5_code_9 : decode cX5_code 9 = .ok (.ifCond .eq 7, 3) := by decide +kernel
theorem dX5_code_12 : decode cX5_code 12 = .ok (.iconst 0, 1) := by decide +kernel
theorem dX5_code_13 : decode cX5_code 13 = .ok (.goto 12, 3) := by decide +kernel
theorem dX5_code_16 : decode cX5_code 16 = .ok (.aload_n 0, 1) := by decide +kernel
theorem dX5_code_17 : decode cX5_code 17 = .ok (.getfield 11, 3) := by decide +kernel
theorem dX5_code_20 : decode cX5_code 20 = .ok (.iload_n 1, 1) := by decide +kernel
theorem dX5_code_21 : decode cX5_code 21 = .ok (.aaload, 1) := by decide +kernel
theorem dX5_code_22 : decode cX5_code 22 = .ok (.invokestatic 144, 3) := by decide +kernel
theorem dX5_code_25 : decode cX5_code 25 = .ok (.ireturn, 1) := by decide +kernel
theorem dX5_codesOf_0 : decode cX5_codesOf 0 = .ok (.bipush 31, 2) := by decide +kernel
theorem dX5_codesOf_2 : decode cX5_codesOf 2 = .ok (.aload_n 0, 1) := by decide +kernel
theorem dX5_codesOf_3 : decode cX5_codesOf 3 = .ok (.getfield 11, 3) := by decide +kernel
theorem dX5_codesOf_6 : decode cX5_codesOf 6 = .ok (.iload_n 1, 1) := by decide +kernel
theorem dX5_codesOf_7 : decode cX5_codesOf 7 = .ok (.aaload, 1) := by decide +kernel
theorem dX5_codesOf_8 : decode cX5_codesOf 8 = .ok (.invokestatic 144, 3) := by decide +kernel
theorem dX5_codesOf_11 : decode cX5_codesOf 11 = .ok (.iadd, 1) := by decide +kernel
theorem dX5_codesOf_12 : decode cX5_codesOf 12 = .ok (.bipush 31, 2) := by decide +kernel
theorem dX5_codesOf_14 : decode cX5_codesOf 14 = .ok (.imul, 1) := by decide +kernel
theorem dX5_codesOf_15 : decode cX5_codesOf 15 = .ok (.aload_n 0, 1) := by decide +kernel
theorem dX5_codesOf_16 : decode cX5_codesOf 16 = .ok (.getfield 11, 3) := by decide +kernel
theorem dX5_codesOf_19 : decode cX5_codesOf 19 = .ok (.iload_n 2, 1) := by decide +kernel
theorem dX5_codesOf_20 : decode cX5_codesOf 20 = .ok (.aaload, 1) := by decide +kernel
theorem dX5_codesOf_21 : decode cX5_codesOf 21 = .ok (.invokestatic 144, 3) := by decide +kernel
theorem dX5_codesOf_24 : decode cX5_codesOf 24 = .ok (.iadd, 1) := by decide +kernel
theorem dX5_codesOf_25 : decode cX5_codesOf 25 = .ok (.bipush 31, 2) := by decide +kernel
theorem dX5_codesOf_27 : decode cX5_codesOf 27 = .ok (.imul, 1) := by decide +kernel
theorem dX5_codesOf_28 : decode cX5_codesOf 28 = .ok (.aload_n 0, 1) := by decide +kernel
theorem dX5_codesOf_29 : decode cX5_codesOf 29 = .ok (.getfield 11, 3) := by decide +kernel
theorem dX5_codesOf_32 : decode cX5_codesOf 32 = .ok (.iload_n 3, 1) := by decide +kernel
theorem dX5_codesOf_33 : decode cX5_codesOf 33 = .ok (.aaload, 1) := by decide +kernel
theorem dX5_codesOf_34 : decode cX5_codesOf 34 = .ok (.invokestatic 144, 3) := by decide +kernel
theorem dX5_codesOf_37 : decode cX5_codesOf 37 = .ok (.iadd, 1) := by decide +kernel
theorem dX5_codesOf_38 : decode cX5_codesOf 38 = .ok (.ireturn, 1) := by decide +kernel
theorem dX5_codes_0 : decode cX5_codes 0 = .ok (.aload_n 0, 1) := by decide +kernel
theorem dX5_codes_1 : decode cX5_codes 1 = .ok (.iload_n 1, 1) := by decide +kernel
theorem dX5_codes_2 : decode cX5_codes 2 = .ok (.invokestatic 69, 3) := by decide +kernel
theorem dX5_codes_5 : decode cX5_codes 5 = .ok (.ifCond .ne 17, 3) := by decide +kernel
theorem dX5_codes_8 : decode cX5_codes 8 = .ok (.iload_n 2, 1) := by decide +kernel
theorem dX5_codes_9 : decode cX5_codes 9 = .ok (.invokestatic 69, 3) := by decide +kernel
theorem dX5_codes_12 : decode cX5_codes 12 = .ok (.ifCond .ne 10, 3) := by decide +kernel
theorem dX5_codes_15 : decode cX5_codes 15 = .ok (.iload_n 3, 1) := by decide +kernel
theorem dX5_codes_16 : decode cX5_codes 16 = .ok (.invokestatic 69, 3) := by decide +kernel
theorem dX5_codes_19 : decode cX5_codes 19 = .ok (.ifCond .eq 7, 3) := by decide +kernel
theorem dX5_codes_22 : decode cX5_codes 22 = .ok (.iconst 1, 1) := by decide +kernel
theorem dX5_codes_23 : decode cX5_codes 23 = .ok (.goto 4, 3) := by decide +kernel
theorem dX5_codes_26 : decode cX5_codes 26 = .ok (.iconst 0, 1) := by decide +kernel
theorem dX5_codes_27 : decode cX5_codes 27 = .ok (.iconst 1, 1) := by decide +kernel
theorem dX5_codes_28 : decode cX5_codes 28 = .ok (.invokevirtual 72, 3) := by decide +kernel
theorem dX5_codes_31 : decode cX5_codes 31 = .ok (.ifCond .eq 7, 3) := by decide +kernel
theorem dX5_codes_34 : decode cX5_codes 34 = .ok (.iconst 0, 1) := by decide +kernel
theorem dX5_codes_35 : decode cX5_codes 35 = .ok (.goto 10, 3) := by decide +kernel
theorem dX5_codes_38 : decode cX5_codes 38 = .ok (.aload_n 0, 1) := by decide +kernel
theorem dX5_codes_39 : decode cX5_codes 39 = .ok (.iload_n 1, 1) := by decide +kernel
theorem dX5_codes_40 : decode cX5_codes 40 = .ok (.iload_n 2, 1) := by decide +kernel
theorem dX5_codes_41 : decode cX5_codes 41 = .ok (.iload_n 3, 1) := by decide +kernel
theorem dX5_codes_42 : decode cX5_codes 42 = .ok (.invokevirtual 147, 3) := by decide +kernel
theorem dX5_codes_45 : decode cX5_codes 45 = .ok (.ireturn, 1) := by decide +kernel
theorem dX5_knock_0 : decode cX5_knock 0 = .ok (.aload_n 0, 1) := by decide +kernel
theorem dX5_knock_1 : decode cX5_knock 1 = .ok (.iconst 0, 1) := by decide +kernel
theorem dX5_knock_2 : decode cX5_knock 2 = .ok (.putfield 14, 3) := by decide +kernel
theorem dX5_knock_5 : decode cX5_knock 5 = .ok (.aload_n 0, 1) := by decide +kernel
theorem dX5_knock_6 : decode cX5_knock 6 = .ok (.dup, 1) := by decide +kernel
theorem dX5_knock_7 : decode cX5_knock 7 = .ok (.getfield 150, 3) := by decide +kernel
theorem dX5_knock_10 : decode cX5_knock 10 = .ok (.iconst 1, 1) := by decide +kernel
theorem dX5_knock_11 : decode cX5_knock 11 = .ok (.iadd, 1) := by decide +kernel
theorem dX5_knock_12 : decode cX5_knock 12 = .ok (.putfield 150, 3) := by decide +kernel
theorem dX5_knock_15 : decode cX5_knock 15 = .ok (.aload_n 0, 1) := by decide +kernel
theorem dX5_knock_16 : decode cX5_knock 16 = .ok (.getfield 150, 3) := by decide +kernel
theorem dX5_knock_19 : decode cX5_knock 19 = .ok (.ireturn, 1) := by decide +kernel
theorem dX5_houseTold_0 : decode cX5_houseTold 0 = .ok (.iconst 0, 1) := by decide +kernel
theorem dX5_houseTold_1 : decode cX5_houseTold 1 = .ok (.istore_n 2, 1) := by decide +kernel
theorem dX5_houseTold_2 : decode cX5_houseTold 2 = .ok (.iconst 0, 1) := by decide +kernel
theorem dX5_houseTold_3 : decode cX5_houseTold 3 = .ok (.istore_n 3, 1) := by decide +kernel
theorem dX5_houseTold_4 : decode cX5_houseTold 4 = .ok (.aload_n 0, 1) := by decide +kernel
theorem dX5_houseTold_5 : decode cX5_houseTold 5 = .ok (.getfield 11, 3) := by decide +kernel
theorem dX5_houseTold_8 : decode cX5_houseTold 8 = .ok (.astore 4, 2) := by decide +kernel
theorem dX5_houseTold_10 : decode cX5_houseTold 10 = .ok (.aload 4, 2) := by decide +kernel
theorem dX5_houseTold_12 : decode cX5_houseTold 12 = .ok (.arraylength, 1) := by decide +kernel
theorem dX5_houseTold_13 : decode cX5_houseTold 13 = .ok (.istore 5, 2) := by decide +kernel
theorem dX5_houseTold_15 : decode cX5_houseTold 15 = .ok (.iconst 0, 1) := by decide +kernel
theorem dX5_houseTold_16 : decode cX5_houseTold 16 = .ok (.istore 6, 2) := by decide +kernel
theorem dX5_houseTold_18 : decode cX5_houseTold 18 = .ok (.iload 6, 2) := by decide +kernel
theorem dX5_houseTold_20 : decode cX5_houseTold 20 = .ok (.iload 5, 2) := by decide +kernel
theorem dX5_houseTold_22 : decode cX5_houseTold 22 = .ok (.if_icmp .ge 47, 3) := by decide +kernel
theorem dX5_houseTold_25 : decode cX5_houseTold 25 = .ok (.aload 4, 2) := by decide +kernel
theorem dX5_houseTold_27 : decode cX5_houseTold 27 = .ok (.iload 6, 2) := by decide +kernel
theorem dX5_houseTold_29 : decode cX5_houseTold 29 = .ok (.aaload, 1) := by decide +kernel
theorem dX5_houseTold_30 : decode cX5_houseTold 30 = .ok (.astore 7, 2) := by decide +kernel
theorem dX5_houseTold_32 : decode cX5_houseTold 32 = .ok (.iload_n 2, 1) := by decide +kernel
theorem dX5_houseTold_33 : decode cX5_houseTold 33 = .ok (.aload 7, 2) := by decide +kernel
theorem dX5_houseTold_35 : decode cX5_houseTold 35 = .ok (.ifnonnull 7, 3) := by decide +kernel
theorem dX5_houseTold_38 : decode cX5_houseTold 38 = .ok (.iconst 0, 1) := by decide +kernel
theorem dX5_houseTold_39 : decode cX5_houseTold 39 = .ok (.goto 6, 3) := by decide +kernel
theorem dX5_houseTold_42 : decode cX5_houseTold 42 = .ok (.aload 7, 2) := by decide +kernel
theorem dX5_houseTold_44 : decode cX5_houseTold 44 = .ok (.arraylength, 1) := by decide +kernel
theorem dX5_houseTold_45 : decode cX5_houseTold 45 = .ok (.iadd, 1) := by decide +kernel
theorem dX5_houseTold_46 : decode cX5_houseTold 46 = .ok (.istore_n 2, 1) := by decide +kernel
theorem dX5_houseTold_47 : decode cX5_houseTold 47 = .ok (.iload_n 3, 1) := by decide +kernel
theorem dX5_houseTold_48 : decode cX5_houseTold 48 = .ok (.aload 7, 2) := by decide +kernel
theorem dX5_houseTold_50 : decode cX5_houseTold 50 = .ok (.ifnonnull 7, 3) := by decide +kernel
theorem dX5_houseTold_53 : decode cX5_houseTold 53 = .ok (.iconst 1, 1) := by decide +kernel
theorem dX5_houseTold_54 : decode cX5_houseTold 54 = .ok (.goto 4, 3) := by decide +kernel
theorem dX5_houseTold_57 : decode cX5_houseTold 57 = .ok (.iconst 0, 1) := by decide +kernel
theorem dX5_houseTold_58 : decode cX5_houseTold 58 = .ok (.invokestatic 49, 3) := by decide +kernel
theorem dX5_houseTold_61 : decode cX5_houseTold 61 = .ok (.iadd, 1) := by decide +kernel
theorem dX5_houseTold_62 : decode cX5_houseTold 62 = .ok (.istore_n 3, 1) := by decide +kernel
theorem dX5_houseTold_63 : decode cX5_houseTold 63 = .ok (.iinc 6 1, 3) := by decide +kernel
theorem dX5_houseTold_66 : decode cX5_houseTold 66 = .ok (.goto (-48), 3) := by decide +kernel
theorem dX5_houseTold_69 : decode cX5_houseTold 69 = .ok (.bipush 6, 2) := by decide +kernel
theorem dX5_houseTold_71 : decode cX5_houseTold 71 = .ok (.newarray .int, 2) := by decide +kernel
theorem dX5_houseTold_73 : decode cX5_houseTold 73 = .ok (.dup, 1) := by decide +kernel
theorem dX5_houseTold_74 : decode cX5_houseTold 74 = .ok (.iconst 0, 1) := by decide +kernel
theorem dX5_houseTold_75 : decode cX5_houseTold 75 = .ok (.iload_n 2, 1) := by decide +kernel
theorem dX5_houseTold_76 : decode cX5_houseTold 76 = .ok (.iastore, 1) := by decide +kernel
theorem dX5_houseTold_77 : decode cX5_houseTold 77 = .ok (.dup, 1) := by decide +kernel
theorem dX5_houseTold_78 : decode cX5_houseTold 78 = .ok (.iconst 1, 1) := by decide +kernel
theorem dX5_houseTold_79 : decode cX5_houseTold 79 = .ok (.iload_n 3, 1) := by decide +kernel
theorem dX5_houseTold_80 : decode cX5_houseTold 80 = .ok (.iastore, 1) := by decide +kernel
theorem dX5_houseTold_81 : decode cX5_houseTold 81 = .ok (.dup, 1) := by decide +kernel
theorem dX5_houseTold_82 : decode cX5_houseTold 82 = .ok (.iconst 2, 1) := by decide +kernel
theorem dX5_houseTold_83 : decode cX5_houseTold 83 = .ok (.aload_n 0, 1) := by decide +kernel
theorem dX5_houseTold_84 : decode cX5_houseTold 84 = .ok (.getfield 30, 3) := by decide +kernel
theorem dX5_houseTold_87 : decode cX5_houseTold 87 = .ok (.iastore, 1) := by decide +kernel
theorem dX5_houseTold_88 : decode cX5_houseTold 88 = .ok (.dup, 1) := by decide +kernel
theorem dX5_houseTold_89 : decode cX5_houseTold 89 = .ok (.iconst 3, 1) := by decide +kernel
theorem dX5_houseTold_90 : decode cX5_houseTold 90 = .ok (.aload_n 0, 1) := by decide +kernel
theorem dX5_houseTold_91 : decode cX5_houseTold 91 = .ok (.getfield 124, 3) := by decide +kernel
theorem dX5_houseTold_94 : decode cX5_houseTold 94 = .ok (.iastore, 1) := by decide +kernel
theorem dX5_houseTold_95 : decode cX5_houseTold 95 = .ok (.dup, 1) := by decide +kernel
theorem dX5_houseTold_96 : decode cX5_houseTold 96 = .ok (.iconst 4, 1) := by decide +kernel
theorem dX5_houseTold_97 : decode cX5_houseTold 97 = .ok (.aload_n 0, 1) := by decide +kernel
theorem dX5_houseTold_98 : decode cX5_houseTold 98 = .ok (.getfield 134, 3) := by decide +kernel
theorem dX5_houseTold_101 : decode cX5_houseTold 101 = .ok (.iastore, 1) := by decide +kernel
theorem dX5_houseTold_102 : decode cX5_houseTold 102 = .ok (.dup, 1) := by decide +kernel
theorem dX5_houseTold_103 : decode cX5_houseTold 103 = .ok (.iconst 5, 1) := by decide +kernel
theorem dX5_houseTold_104 : decode cX5_houseTold 104 = .ok (.aload_n 0, 1) := by decide +kernel
theorem dX5_houseTold_105 : decode cX5_houseTold 105 = .ok (.getfield 150, 3) := by decide +kernel
theorem dX5_houseTold_108 : decode cX5_houseTold 108 = .ok (.iastore, 1) := by decide +kernel
theorem dX5_houseTold_109 : decode cX5_houseTold 109 = .ok (.astore 4, 2) := by decide +kernel
theorem dX5_houseTold_111 : decode cX5_houseTold 111 = .ok (.aload 4, 2) := by decide +kernel
theorem dX5_houseTold_113 : decode cX5_houseTold 113 = .ok (.iload_n 1, 1) := by decide +kernel
theorem dX5_houseTold_114 : decode cX5_houseTold 114 = .ok (.iaload, 1) := by decide +kernel
theorem dX5_houseTold_115 : decode cX5_houseTold 115 = .ok (.ireturn, 1) := by decide +kernel
theorem dX5_house_0 : decode cX5_house 0 = .ok (.aload_n 0, 1) := by decide +kernel
theorem dX5_house_1 : decode cX5_house 1 = .ok (.iload_n 1, 1) := by decide +kernel
theorem dX5_house_2 : decode cX5_house 2 = .ok (.iconst 0, 1) := by decide +kernel
theorem dX5_house_3 : decode cX5_house 3 = .ok (.iconst 5, 1) := by decide +kernel
theorem dX5_house_4 : decode cX5_house 4 = .ok (.invokestatic 22, 3) := by decide +kernel
theorem dX5_house_7 : decode cX5_house 7 = .ok (.ifCond .ne 7, 3) := by decide +kernel
theorem dX5_house_10 : decode cX5_house 10 = .ok (.iconst 1, 1) := by decide +kernel
theorem dX5_house_11 : decode cX5_house 11 = .ok (.goto 4, 3) := by decide +kernel
theorem dX5_house_14 : decode cX5_house 14 = .ok (.iconst 0, 1) := by decide +kernel
theorem dX5_house_15 : decode cX5_house 15 = .ok (.iconst 1, 1) := by decide +kernel
theorem dX5_house_16 : decode cX5_house 16 = .ok (.invokevirtual 72, 3) := by decide +kernel
theorem dX5_house_19 : decode cX5_house 19 = .ok (.ifCond .eq 7, 3) := by decide +kernel
theorem dX5_house_22 : decode cX5_house 22 = .ok (.iconst 0, 1) := by decide +kernel
theorem dX5_house_23 : decode cX5_house 23 = .ok (.goto 8, 3) := by decide +kernel
theorem dX5_house_26 : decode cX5_house 26 = .ok (.aload_n 0, 1) := by decide +kernel
theorem dX5_house_27 : decode cX5_house 27 = .ok (.iload_n 1, 1) := by decide +kernel
theorem dX5_house_28 : decode cX5_house 28 = .ok (.invokevirtual 153, 3) := by decide +kernel
theorem dX5_house_31 : decode cX5_house 31 = .ok (.ireturn, 1) := by decide +kernel
theorem dX5_isWhole_0 : decode cX5_isWhole 0 = .ok (.iconst 1, 1) := by decide +kernel
theorem dX5_isWhole_1 : decode cX5_isWhole 1 = .ok (.istore_n 1, 1) := by decide +kernel
theorem dX5_isWhole_2 : decode cX5_isWhole 2 = .ok (.iconst 0, 1) := by decide +kernel
theorem dX5_isWhole_3 : decode cX5_isWhole 3 = .ok (.istore_n 2, 1) := by decide +kernel
theorem dX5_isWhole_4 : decode cX5_isWhole 4 = .ok (.iload_n 2, 1) := by decide +kernel
theorem dX5_isWhole_5 : decode cX5_isWhole 5 = .ok (.bipush 9, 2) := by decide +kernel
theorem dX5_isWhole_7 : decode cX5_isWhole 7 = .ok (.if_icmp .ge 184, 3) := by decide +kernel
theorem dX5_isWhole_10 : decode cX5_isWhole 10 = .ok (.iconst 0, 1) := by decide +kernel
theorem dX5_isWhole_11 : decode cX5_isWhole 11 = .ok (.istore_n 3, 1) := by decide +kernel
theorem dX5_isWhole_12 : decode cX5_isWhole 12 = .ok (.iload_n 3, 1) := by decide +kernel
theorem dX5_isWhole_13 : decode cX5_isWhole 13 = .ok (.bipush 9, 2) := by decide +kernel
theorem dX5_isWhole_15 : decode cX5_isWhole 15 = .ok (.if_icmp .ge 170, 3) := by decide +kernel
theorem dX5_isWhole_18 : decode cX5_isWhole 18 = .ok (.iconst 0, 1) := by decide +kernel
theorem dX5_isWhole_19 : decode cX5_isWhole 19 = .ok (.istore 4, 2) := by decide +kernel
theorem dX5_isWhole_21 : decode cX5_isWhole 21 = .ok (.iload 4, 2) := by decide +kernel
theorem dX5_isWhole_23 : decode cX5_isWhole 23 = .ok (.iconst 4, 1) := by decide +kernel
theorem dX5_isWhole_24 : decode cX5_isWhole 24 = .ok (.if_icmp .ge 37, 3) := by decide +kernel
theorem dX5_isWhole_27 : decode cX5_isWhole 27 = .ok (.iload_n 1, 1) := by decide +kernel
theorem dX5_isWhole_28 : decode cX5_isWhole 28 = .ok (.aload_n 0, 1) := by decide +kernel
theorem dX5_isWhole_29 : decode cX5_isWhole 29 = .ok (.iload_n 2, 1) := by decide +kernel
theorem dX5_isWhole_30 : decode cX5_isWhole 30 = .ok (.iload_n 3, 1) := by decide +kernel
theorem dX5_isWhole_31 : decode cX5_isWhole 31 = .ok (.iload 4, 2) := by decide +kernel
theorem dX5_isWhole_33 : decode cX5_isWhole 33 = .ok (.invokevirtual 130, 3) := by decide +kernel
theorem dX5_isWhole_36 : decode cX5_isWhole 36 = .ok (.aload_n 0, 1) := by decide +kernel
theorem dX5_isWhole_37 : decode cX5_isWhole 37 = .ok (.iload_n 3, 1) := by decide +kernel
theorem dX5_isWhole_38 : decode cX5_isWhole 38 = .ok (.iload_n 2, 1) := by decide +kernel
theorem dX5_isWhole_39 : decode cX5_isWhole 39 = .ok (.iload 4, 2) := by decide +kernel
theorem dX5_isWhole_41 : decode cX5_isWhole 41 = .ok (.invokevirtual 130, 3) := by decide +kernel
theorem dX5_isWhole_44 : decode cX5_isWhole 44 = .ok (.ineg, 1) := by decide +kernel
theorem dX5_isWhole_45 : decode cX5_isWhole 45 = .ok (.if_icmp .ne 7, 3) := by decide +kernel
theorem dX5_isWhole_48 : decode cX5_isWhole 48 = .ok (.iconst 1, 1) := by decide +kernel
theorem dX5_isWhole_49 : decode cX5_isWhole 49 = .ok (.goto 4, 3) := by decide +kernel
theorem dX5_isWhole_52 : decode cX5_isWhole 52 = .ok (.iconst 0, 1) := by decide +kernel
theorem dX5_isWhole_53 : decode cX5_isWhole 53 = .ok (.iand, 1) := by decide +kernel
theorem dX5_isWhole_54 : decode cX5_isWhole 54 = .ok (.istore_n 1, 1) := by decide +kernel
theorem dX5_isWhole_55 : decode cX5_isWhole 55 = .ok (.iinc 4 1, 3) := by decide +kernel
theorem dX5_isWhole_58 : decode cX5_isWhole 58 = .ok (.goto (-37), 3) := by decide +kernel
theorem dX5_isWhole_61 : decode cX5_isWhole 61 = .ok (.iload_n 1, 1) := by decide +kernel
theorem dX5_isWhole_62 : decode cX5_isWhole 62 = .ok (.aload_n 0, 1) := by decide +kernel
theorem dX5_isWhole_63 : decode cX5_isWhole 63 = .ok (.iload_n 2, 1) := by decide +kernel
theorem dX5_isWhole_64 : decode cX5_isWhole 64 = .ok (.iload_n 3, 1) := by decide +kernel
theorem dX5_isWhole_65 : decode cX5_isWhole 65 = .ok (.iconst 0, 1) := by decide +kernel
theorem dX5_isWhole_66 : decode cX5_isWhole 66 = .ok (.invokevirtual 130, 3) := by decide +kernel
theorem dX5_isWhole_69 : decode cX5_isWhole 69 = .ok (.ifCond .ne 7, 3) := by decide +kernel
theorem dX5_isWhole_72 : decode cX5_isWhole 72 = .ok (.iconst 1, 1) := by decide +kernel
theorem dX5_isWhole_73 : decode cX5_isWhole 73 = .ok (.goto 4, 3) := by decide +kernel
theorem dX5_isWhole_76 : decode cX5_isWhole 76 = .ok (.iconst 0, 1) := by decide +kernel
theorem dX5_isWhole_77 : decode cX5_isWhole 77 = .ok (.aload_n 0, 1) := by decide +kernel
theorem dX5_isWhole_78 : decode cX5_isWhole 78 = .ok (.iload_n 2, 1) := by decide +kernel
theorem dX5_isWhole_79 : decode cX5_isWhole 79 = .ok (.iload_n 3, 1) := by decide +kernel
theorem dX5_isWhole_80 : decode cX5_isWhole 80 = .ok (.invokevirtual 141, 3) := by decide +kernel
theorem dX5_isWhole_83 : decode cX5_isWhole 83 = .ok (.if_icmp .ne 37, 3) := by decide +kernel
theorem dX5_isWhole_86 : decode cX5_isWhole 86 = .ok (.aload_n 0, 1) := by decide +kernel
theorem dX5_isWhole_87 : decode cX5_isWhole 87 = .ok (.iload_n 2, 1) := by decide +kernel
theorem dX5_isWhole_88 : decode cX5_isWhole 88 = .ok (.iload_n 3, 1) := by decide +kernel
theorem dX5_isWhole_89 : decode cX5_isWhole 89 = .ok (.invokevirtual 141, 3) := by decide +kernel
theorem dX5_isWhole_92 : decode cX5_isWhole 92 = .ok (.ifCond .eq 24, 3) := by decide +kernel
theorem dX5_isWhole_95 : decode cX5_isWhole 95 = .ok (.aload_n 0, 1) := by decide +kernel
theorem dX5_isWhole_96 : decode cX5_isWhole 96 = .ok (.getfield 11, 3) := by decide +kernel
theorem dX5_isWhole_99 : decode cX5_isWhole 99 = .ok (.iload_n 2, 1) := by decide +kernel
theorem dX5_isWhole_100 : decode cX5_isWhole 100 = .ok (.aaload, 1) := by decide +kernel
theorem dX5_isWhole_101 : decode cX5_isWhole 101 = .ok (.invokestatic 144, 3) := by decide +kernel
theorem dX5_isWhole_104 : decode cX5_isWhole 104 = .ok (.aload_n 0, 1) := by decide +kernel
theorem dX5_isWhole_105 : decode cX5_isWhole 105 = .ok (.getfield 11, 3) := by decide +kernel
theorem dX5_isWhole_108 : decode cX5_isWhole 108 = .ok (.iload_n 3, 1) := by decide +kernel
theorem dX5_isWhole_109 : decode cX5_isWhole 109 = .ok (.aaload, 1) := by decide +kernel
theorem dX5_isWhole_110 : decode cX5_isWhole 110 = .ok (.invokestatic 144, 3) := by decide +kernel
theorem dX5_isWhole_113 : decode cX5_isWhole 113 = .ok (.if_icmp .ne 7, 3) := by decide +kernel
theorem dX5_isWhole_116 : decode cX5_isWhole 116 = .ok (.iconst 1, 1) := by decide +kernel
theorem dX5_isWhole_117 : decode cX5_isWhole 117 = .ok (.goto 4, 3) := by decide +kernel
theorem dX5_isWhole_120 : decode cX5_isWhole 120 = .ok (.iconst 0, 1) := by decide +kernel
theorem dX5_isWhole_121 : decode cX5_isWhole 121 = .ok (.iand, 1) := by decide +kernel
theorem dX5_isWhole_122 : decode cX5_isWhole 122 = .ok (.istore_n 1, 1) := by decide +kernel
theorem dX5_isWhole_123 : decode cX5_isWhole 123 = .ok (.iconst 0, 1) := by decide +kernel
theorem dX5_isWhole_124 : decode cX5_isWhole 124 = .ok (.istore 4, 2) := by decide +kernel
theorem dX5_isWhole_126 : decode cX5_isWhole 126 = .ok (.iload 4, 2) := by decide +kernel
theorem dX5_isWhole_128 : decode cX5_isWhole 128 = .ok (.bipush 9, 2) := by decide +kernel
theorem dX5_isWhole_130 : decode cX5_isWhole 130 = .ok (.if_icmp .ge 49, 3) := by decide +kernel
theorem dX5_isWhole_133 : decode cX5_isWhole 133 = .ok (.iload_n 1, 1) := by decide +kernel
theorem dX5_isWhole_134 : decode cX5_isWhole 134 = .ok (.aload_n 0, 1) := by decide +kernel
theorem dX5_isWhole_135 : decode cX5_isWhole 135 = .ok (.iload_n 2, 1) := by decide +kernel
theorem dX5_isWhole_136 : decode cX5_isWhole 136 = .ok (.iload_n 3, 1) := by decide +kernel
theorem dX5_isWhole_137 : decode cX5_isWhole 137 = .ok (.iconst 0, 1) := by decide +kernel
theorem dX5_isWhole_138 : decode cX5_isWhole 138 = .ok (.invokevirtual 130, 3) := by decide +kernel
theorem dX5_isWhole_141 : decode cX5_isWhole 141 = .ok (.ifCond .ge 25, 3) := by decide +kernel
theorem dX5_isWhole_144 : decode cX5_isWhole 144 = .ok (.aload_n 0, 1) := by decide +kernel
theorem dX5_isWhole_145 : decode cX5_isWhole 145 = .ok (.iload_n 3, 1) := by decide +kernel
theorem dX5_isWhole_146 : decode cX5_isWhole 146 = .ok (.iload 4, 2) := by decide +kernel
theorem dX5_isWhole_148 : decode cX5_isWhole 148 = .ok (.iconst 0, 1) := by decide +kernel
theorem dX5_isWhole_149 : decode cX5_isWhole 149 = .ok (.invokevirtual 130, 3) := by decide +kernel
theorem dX5_isWhole_152 : decode cX5_isWhole 152 = .ok (.ifCond .ge 14, 3) := by decide +kernel
theorem dX5_isWhole_155 : decode cX5_isWhole 155 = .ok (.aload_n 0, 1) := by decide +kernel
theorem dX5_isWhole_156 : decode cX5_isWhole 156 = .ok (.iload_n 2, 1) := by decide +kernel
theorem dX5_isWhole_157 : decode cX5_isWhole 157 = .ok (.iload 4, 2) := by decide +kernel
theorem dX5_isWhole_159 : decode cX5_isWhole 159 = .ok (.iconst 0, 1) := by decide +kernel
theorem dX5_isWhole_160 : decode cX5_isWhole 160 = .ok (.invokevirtual 130, 3) := by decide +kernel
theorem dX5_isWhole_163 : decode cX5_isWhole 163 = .ok (.ifCond .ge 7, 3) := by decide +kernel
theorem dX5_isWhole_166 : decode cX5_isWhole 166 = .ok (.iconst 1, 1) := by decide +kernel
theorem dX5_isWhole_167 : decode cX5_isWhole 167 = .ok (.goto 4, 3) := by decide +kernel
theorem dX5_isWhole_170 : decode cX5_isWhole 170 = .ok (.iconst 0, 1) := by decide +kernel
theorem dX5_isWhole_171 : decode cX5_isWhole 171 = .ok (.iand, 1) := by decide +kernel
theorem dX5_isWhole_172 : decode cX5_isWhole 172 = .ok (.istore_n 1, 1) := by decide +kernel
theorem dX5_isWhole_173 : decode cX5_isWhole 173 = .ok (.iinc 4 1, 3) := by decide +kernel
theorem dX5_isWhole_176 : decode cX5_isWhole 176 = .ok (.goto (-50), 3) := by decide +kernel
theorem dX5_isWhole_179 : decode cX5_isWhole 179 = .ok (.iinc 3 1, 3) := by decide +kernel
theorem dX5_isWhole_182 : decode cX5_isWhole 182 = .ok (.goto (-170), 3) := by decide +kernel
theorem dX5_isWhole_185 : decode cX5_isWhole 185 = .ok (.iinc 2 1, 3) := by decide +kernel
theorem dX5_isWhole_188 : decode cX5_isWhole 188 = .ok (.goto (-184), 3) := by decide +kernel
theorem dX5_isWhole_191 : decode cX5_isWhole 191 = .ok (.iload_n 1, 1) := by decide +kernel
theorem dX5_isWhole_192 : decode cX5_isWhole 192 = .ok (.ireturn, 1) := by decide +kernel
theorem dX5_isSound_0 : decode cX5_isSound 0 = .ok (.aload_n 0, 1) := by decide +kernel
theorem dX5_isSound_1 : decode cX5_isSound 1 = .ok (.aload_n 0, 1) := by decide +kernel
theorem dX5_isSound_2 : decode cX5_isSound 2 = .ok (.invokevirtual 156, 3) := by decide +kernel
theorem dX5_isSound_5 : decode cX5_isSound 5 = .ok (.invokevirtual 109, 3) := by decide +kernel
theorem dX5_isSound_8 : decode cX5_isSound 8 = .ok (.ireturn, 1) := by decide +kernel
theorem dX5_add_0 : decode cX5_add 0 = .ok (.lload_n 0, 1) := by decide +kernel
theorem dX5_add_1 : decode cX5_add 1 = .ok (.ldc2_w 160, 3) := by decide +kernel
theorem dX5_add_4 : decode cX5_add 4 = .ok (.lmul, 1) := by decide +kernel
theorem dX5_add_5 : decode cX5_add 5 = .ok (.lload_n 2, 1) := by decide +kernel
theorem dX5_add_6 : decode cX5_add 6 = .ok (.ladd, 1) := by decide +kernel
theorem dX5_add_7 : decode cX5_add 7 = .ok (.lreturn, 1) := by decide +kernel
theorem dX5_digest_0 : decode cX5_digest 0 = .ok (.aload_n 0, 1) := by decide +kernel
theorem dX5_digest_1 : decode cX5_digest 1 = .ok (.iconst 0, 1) := by decide +kernel
theorem dX5_digest_2 : decode cX5_digest 2 = .ok (.putfield 14, 3) := by decide +kernel
theorem dX5_digest_5 : decode cX5_digest 5 = .ok (.ldc2_w 162, 3) := by decide +kernel
theorem dX5_digest_8 : decode cX5_digest 8 = .ok (.lstore_n 1, 1) := by decide +kernel
theorem dX5_digest_9 : decode cX5_digest 9 = .ok (.iconst 0, 1) := by decide +kernel
theorem dX5_digest_10 : decode cX5_digest 10 = .ok (.istore_n 3, 1) := by decide +kernel
theorem dX5_digest_11 : decode cX5_digest 11 = .ok (.iload_n 3, 1) := by decide +kernel
theorem dX5_digest_12 : decode cX5_digest 12 = .ok (.iconst 5, 1) := by decide +kernel
theorem dX5_digest_13 : decode cX5_digest 13 = .ok (.if_icmp .gt 20, 3) := by decide +kernel
theorem dX5_digest_16 : decode cX5_digest 16 = .ok (.lload_n 1, 1) := by decide +kernel
theorem dX5_digest_17 : decode cX5_digest 17 = .ok (.aload_n 0, 1) := by decide +kernel
theorem dX5_digest_18 : decode cX5_digest 18 = .ok (.iload_n 3, 1) := by decide +kernel
theorem dX5_digest_19 : decode cX5_digest 19 = .ok (.invokevirtual 153, 3) := by decide +kernel
theorem dX5_digest_22 : decode cX5_digest 22 = .ok (.i2l, 1) := by decide +kernel
theorem dX5_digest_23 : decode cX5_digest 23 = .ok (.invokestatic 164, 3) := by decide +kernel
theorem dX5_digest_26 : decode cX5_digest 26 = .ok (.lstore_n 1, 1) := by decide +kernel
theorem dX5_digest_27 : decode cX5_digest 27 = .ok (.iinc 3 1, 3) := by decide +kernel
theorem dX5_digest_30 : decode cX5_digest 30 = .ok (.goto (-19), 3) := by decide +kernel
theorem dX5_digest_33 : decode cX5_digest 33 = .ok (.iconst 0, 1) := by decide +kernel
theorem dX5_digest_34 : decode cX5_digest 34 = .ok (.istore_n 3, 1) := by decide +kernel
theorem dX5_digest_35 : decode cX5_digest 35 = .ok (.iload_n 3, 1) := by decide +kernel
theorem dX5_digest_36 : decode cX5_digest 36 = .ok (.bipush 9, 2) := by decide +kernel
theorem dX5_digest_38 : decode cX5_digest 38 = .ok (.if_icmp .ge 33, 3) := by decide +kernel
theorem dX5_digest_41 : decode cX5_digest 41 = .ok (.lload_n 1, 1) := by decide +kernel
theorem dX5_digest_42 : decode cX5_digest 42 = .ok (.aload_n 0, 1) := by decide +kernel
theorem dX5_digest_43 : decode cX5_digest 43 = .ok (.iload_n 3, 1) := by decide +kernel
theorem dX5_digest_44 : decode cX5_digest 44 = .ok (.invokevirtual 75, 3) := by decide +kernel
theorem dX5_digest_47 : decode cX5_digest 47 = .ok (.i2l, 1) := by decide +kernel
theorem dX5_digest_48 : decode cX5_digest 48 = .ok (.invokestatic 164, 3) := by decide +kernel
theorem dX5_digest_51 : decode cX5_digest 51 = .ok (.aload_n 0, 1) := by decide +kernel
theorem dX5_digest_52 : decode cX5_digest 52 = .ok (.getfield 11, 3) := by decide +kernel
theorem dX5_digest_55 : decode cX5_digest 55 = .ok (.iload_n 3, 1) := by decide +kernel
theorem dX5_digest_56 : decode cX5_digest 56 = .ok (.aaload, 1) := by decide +kernel
theorem dX5_digest_57 : decode cX5_digest 57 = .ok (.invokestatic 144, 3) := by decide +kernel
theorem dX5_digest_60 : decode cX5_digest 60 = .ok (.i2l, 1) := by decide +kernel
theorem dX5_digest_61 : decode cX5_digest 61 = .ok (.invokestatic 164, 3) := by decide +kernel
theorem dX5_digest_64 : decode cX5_digest 64 = .ok (.lstore_n 1, 1) := by decide +kernel
theorem dX5_digest_65 : decode cX5_digest 65 = .ok (.iinc 3 1, 3) := by decide +kernel
theorem dX5_digest_68 : decode cX5_digest 68 = .ok (.goto (-33), 3) := by decide +kernel
theorem dX5_digest_71 : decode cX5_digest 71 = .ok (.iconst 0, 1) := by decide +kernel
theorem dX5_digest_72 : decode cX5_digest 72 = .ok (.istore_n 3, 1) := by decide +kernel
theorem dX5_digest_73 : decode cX5_digest 73 = .ok (.iload_n 3, 1) := by decide +kernel
theorem dX5_digest_74 : decode cX5_digest 74 = .ok (.bipush 9, 2) := by decide +kernel
theorem dX5_digest_76 : decode cX5_digest 76 = .ok (.if_icmp .ge 55, 3) := by decide +kernel
theorem dX5_digest_79 : decode cX5_digest 79 = .ok (.iconst 0, 1) := by decide +kernel
theorem dX5_digest_80 : decode cX5_digest 80 = .ok (.istore 4, 2) := by decide +kernel
theorem dX5_digest_82 : decode cX5_digest 82 = .ok (.iload 4, 2) := by decide +kernel
theorem dX5_digest_84 : decode cX5_digest 84 = .ok (.bipush 9, 2) := by decide +kernel
theorem dX5_digest_86 : decode cX5_digest 86 = .ok (.if_icmp .ge 39, 3) := by decide +kernel
theorem dX5_digest_89 : decode cX5_digest 89 = .ok (.iconst 0, 1) := by decide +kernel
theorem dX5_digest_90 : decode cX5_digest 90 = .ok (.istore 5, 2) := by decide +kernel
theorem dX5_digest_92 : decode cX5_digest 92 = .ok (.iload 5, 2) := by decide +kernel
theorem dX5_digest_94 : decode cX5_digest 94 = .ok (.iconst 4, 1) := by decide +kernel
theorem dX5_digest_95 : decode cX5_digest 95 = .ok (.if_icmp .ge 24, 3) := by decide +kernel
theorem dX5_digest_98 : decode cX5_digest 98 = .ok (.lload_n 1, 1) := by decide +kernel
theorem dX5_digest_99 : decode cX5_digest 99 = .ok (.aload_n 0, 1) := by decide +kernel
theorem dX5_digest_100 : decode cX5_digest 100 = .ok (.iload_n 3, 1) := by decide +kernel
theorem dX5_digest_101 : decode cX5_digest 101 = .ok (.iload 4, 2) := by decide +kernel
theorem dX5_digest_103 : decode cX5_digest 103 = .ok (.iload 5, 2) := by decide +kernel
theorem dX5_digest_105 : decode cX5_digest 105 = .ok (.invokevirtual 130, 3) := by decide +kernel
theorem dX5_digest_108 : decode cX5_digest 108 = .ok (.i2l, 1) := by decide +kernel
theorem dX5_digest_109 : decode cX5_digest 109 = .ok (.invokestatic 164, 3) := by decide +kernel
theorem dX5_digest_112 : decode cX5_digest 112 = .ok (.lstore_n 1, 1) := by decide +kernel
theorem dX5_digest_113 : decode cX5_digest 113 = .ok (.iinc 5 1, 3) := by decide +kernel
theorem dX5_digest_116 : decode cX5_digest 116 = .ok (.goto (-24), 3) := by decide +kernel
theorem dX5_digest_119 : decode cX5_digest 119 = .ok (.iinc 4 1, 3) := by decide +kernel
theorem dX5_digest_122 : decode cX5_digest 122 = .ok (.goto (-40), 3) := by decide +kernel
theorem dX5_digest_125 : decode cX5_digest 125 = .ok (.iinc 3 1, 3) := by decide +kernel
theorem dX5_digest_128 : decode cX5_digest 128 = .ok (.goto (-55), 3) := by decide +kernel
theorem dX5_digest_131 : decode cX5_digest 131 = .ok (.iconst 0, 1) := by decide +kernel
theorem dX5_digest_132 : decode cX5_digest 132 = .ok (.istore_n 3, 1) := by decide +kernel
theorem dX5_digest_133 : decode cX5_digest 133 = .ok (.iload_n 3, 1) := by decide +kernel
theorem dX5_digest_134 : decode cX5_digest 134 = .ok (.iconst 3, 1) := by decide +kernel
theorem dX5_digest_135 : decode cX5_digest 135 = .ok (.if_icmp .ge 27, 3) := by decide +kernel
theorem dX5_digest_138 : decode cX5_digest 138 = .ok (.lload_n 1, 1) := by decide +kernel
theorem dX5_digest_139 : decode cX5_digest 139 = .ok (.aload_n 0, 1) := by decide +kernel
theorem dX5_digest_140 : decode cX5_digest 140 = .ok (.iload_n 3, 1) := by decide +kernel
theorem dX5_digest_141 : decode cX5_digest 141 = .ok (.iload_n 3, 1) := by decide +kernel
theorem dX5_digest_142 : decode cX5_digest 142 = .ok (.iconst 3, 1) := by decide +kernel
theorem dX5_digest_143 : decode cX5_digest 143 = .ok (.iadd, 1) := by decide +kernel
theorem dX5_digest_144 : decode cX5_digest 144 = .ok (.iload_n 3, 1) := by decide +kernel
theorem dX5_digest_145 : decode cX5_digest 145 = .ok (.bipush 6, 2) := by decide +kernel
theorem dX5_digest_147 : decode cX5_digest 147 = .ok (.iadd, 1) := by decide +kernel
theorem dX5_digest_148 : decode cX5_digest 148 = .ok (.invokevirtual 147, 3) := by decide +kernel
theorem dX5_digest_151 : decode cX5_digest 151 = .ok (.i2l, 1) := by decide +kernel
theorem dX5_digest_152 : decode cX5_digest 152 = .ok (.invokestatic 164, 3) := by decide +kernel
theorem dX5_digest_155 : decode cX5_digest 155 = .ok (.lstore_n 1, 1) := by decide +kernel
theorem dX5_digest_156 : decode cX5_digest 156 = .ok (.iinc 3 1, 3) := by decide +kernel
theorem dX5_digest_159 : decode cX5_digest 159 = .ok (.goto (-26), 3) := by decide +kernel
theorem dX5_digest_162 : decode cX5_digest 162 = .ok (.lload_n 1, 1) := by decide +kernel
theorem dX5_digest_163 : decode cX5_digest 163 = .ok (.aload_n 0, 1) := by decide +kernel
theorem dX5_digest_164 : decode cX5_digest 164 = .ok (.invokevirtual 156, 3) := by decide +kernel
theorem dX5_digest_167 : decode cX5_digest 167 = .ok (.invokestatic 49, 3) := by decide +kernel
theorem dX5_digest_170 : decode cX5_digest 170 = .ok (.i2l, 1) := by decide +kernel
theorem dX5_digest_171 : decode cX5_digest 171 = .ok (.invokestatic 164, 3) := by decide +kernel
theorem dX5_digest_174 : decode cX5_digest 174 = .ok (.lreturn, 1) := by decide +kernel
theorem dJ5_init_d00df_0 : decode cJ5_init_d00df 0 = .ok (.aload_n 0, 1) := by decide +kernel
theorem dJ5_init_d00df_1 : decode cJ5_init_d00df 1 = .ok (.invokespecial 3, 3) := by decide +kernel
theorem dJ5_init_d00df_4 : decode cJ5_init_d00df 4 = .ok (.getstatic 18, 3) := by decide +kernel
theorem dJ5_init_d00df_7 : decode cJ5_init_d00df 7 = .ok (.ifCond .eq 18, 3) := by decide +kernel
theorem dJ5_init_d00df_10 : decode cJ5_init_d00df 10 = .ok (.aload_n 0, 1) := by decide +kernel
theorem dJ5_init_d00df_11 : decode cJ5_init_d00df 11 = .ok (.iload_n 1, 1) := by decide +kernel
theorem dJ5_init_d00df_12 : decode cJ5_init_d00df 12 = .ok (.newarray .byte, 2) := by decide +kernel
theorem dJ5_init_d00df_14 : decode cJ5_init_d00df 14 = .ok (.putfield 15, 3) := by decide +kernel
theorem dJ5_init_d00df_17 : decode cJ5_init_d00df 17 = .ok (.aload_n 0, 1) := by decide +kernel
theorem dJ5_init_d00df_18 : decode cJ5_init_d00df 18 = .ok (.iconst 0, 1) := by decide +kernel
theorem dJ5_init_d00df_19 : decode cJ5_init_d00df 19 = .ok (.putfield 22, 3) := by decide +kernel
theorem dJ5_init_d00df_22 : decode cJ5_init_d00df 22 = .ok (.goto 16, 3) := by decide +kernel
theorem dJ5_init_d00df_38 : decode cJ5_init_d00df 38 = .ok (.return_, 1) := by decide +kernel
theorem dJ5_length_8abf5_0 : decode cJ5_length_8abf5 0 = .ok (.aload_n 0, 1) := by decide +kernel
theorem dJ5_length_8abf5_1 : decode cJ5_length_8abf5 1 = .ok (.getfield 79, 3) := by decide +kernel
theorem dJ5_length_8abf5_4 : decode cJ5_length_8abf5 4 = .ok (.ireturn, 1) := by decide +kernel
theorem dJ5_ensureCapacityInternal_d00df_0 : decode cJ5_ensureCapacityInternal_d00df 0 = .ok (.aload_n 0, 1) := by decide +kernel
theorem dJ5_ensureCapacityInternal_d00df_1 : decode cJ5_ensureCapacityInternal_d00df 1 = .ok (.getfield 15, 3) := by decide +kernel
theorem dJ5_ensureCapacityInternal_d00df_4 : decode cJ5_ensureCapacityInternal_d00df 4 = .ok (.arraylength, 1) := by decide +kernel
theorem dJ5_ensureCapacityInternal_d00df_5 : decode cJ5_ensureCapacityInternal_d00df 5 = .ok (.aload_n 0, 1) := by decide +kernel
theorem dJ5_ensureCapacityInternal_d00df_6 : decode cJ5_ensureCapacityInternal_d00df 6 = .ok (.getfield 22, 3) := by decide +kernel
theorem dJ5_ensureCapacityInternal_d00df_9 : decode cJ5_ensureCapacityInternal_d00df 9 = .ok (.ishr, 1) := by decide +kernel
theorem dJ5_ensureCapacityInternal_d00df_10 : decode cJ5_ensureCapacityInternal_d00df 10 = .ok (.istore_n 2, 1) := by decide +kernel
theorem dJ5_ensureCapacityInternal_d00df_11 : decode cJ5_ensureCapacityInternal_d00df 11 = .ok (.iload_n 1, 1) := by decide +kernel
theorem dJ5_ensureCapacityInternal_d00df_12 : decode cJ5_ensureCapacityInternal_d00df 12 = .ok (.iload_n 2, 1) := by decide +kernel
theorem dJ5_ensureCapacityInternal_d00df_13 : decode cJ5_ensureCapacityInternal_d00df 13 = .ok (.isub, 1) := by decide +kernel
theorem dJ5_ensureCapacityInternal_d00df_14 : decode cJ5_ensureCapacityInternal_d00df 14 = .ok (.ifCond .le 24, 3) := by decide +kernel
theorem dJ5_ensureCapacityInternal_d00df_17 : decode cJ5_ensureCapacityInternal_d00df 17 = .ok (.aload_n 0, 1) := by decide +kernel
theorem dJ5_ensureCapacityInternal_d00df_18 : decode cJ5_ensureCapacityInternal_d00df 18 = .ok (.aload_n 0, 1) := by decide +kernel
theorem dJ5_ensureCapacityInternal_d00df_19 : decode cJ5_ensureCapacityInternal_d00df 19 = .ok (.getfield 15, 3) := by decide +kernel
theorem dJ5_ensureCapacityInternal_d00df_22 : decode cJ5_ensureCapacityInternal_d00df 22 = .ok (.aload_n 0, 1) := by decide +kernel
theorem dJ5_ensureCapacityInternal_d00df_23 : decode cJ5_ensureCapacityInternal_d00df 23 = .ok (.iload_n 1, 1) := by decide +kernel
theorem dJ5_ensureCapacityInternal_d00df_24 : decode cJ5_ensureCapacityInternal_d00df 24 = .ok (.invokevirtual 104, 3) := by decide +kernel
theorem dJ5_ensureCapacityInternal_d00df_27 : decode cJ5_ensureCapacityInternal_d00df 27 = .ok (.aload_n 0, 1) := by decide +kernel
theorem dJ5_ensureCapacityInternal_d00df_28 : decode cJ5_ensureCapacityInternal_d00df 28 = .ok (.getfield 22, 3) := by decide +kernel
theorem dJ5_ensureCapacityInternal_d00df_31 : decode cJ5_ensureCapacityInternal_d00df 31 = .ok (.ishl, 1) := by decide +kernel
theorem dJ5_ensureCapacityInternal_d00df_32 : decode cJ5_ensureCapacityInternal_d00df 32 = .ok (.invokestatic 108, 3) := by decide +kernel
theorem dJ5_ensureCapacityInternal_d00df_35 : decode cJ5_ensureCapacityInternal_d00df 35 = .ok (.putfield 15, 3) := by decide +kernel
theorem dJ5_ensureCapacityInternal_d00df_38 : decode cJ5_ensureCapacityInternal_d00df 38 = .ok (.return_, 1) := by decide +kernel
theorem dJ5_newCapacity_0f7a4_0 : decode cJ5_newCapacity_0f7a4 0 = .ok (.aload_n 0, 1) := by decide +kernel
theorem dJ5_newCapacity_0f7a4_1 : decode cJ5_newCapacity_0f7a4 1 = .ok (.getfield 15, 3) := by decide +kernel
theorem dJ5_newCapacity_0f7a4_4 : decode cJ5_newCapacity_0f7a4 4 = .ok (.arraylength, 1) := by decide +kernel
theorem dJ5_newCapacity_0f7a4_5 : decode cJ5_newCapacity_0f7a4 5 = .ok (.istore_n 2, 1) := by decide +kernel
theorem dJ5_newCapacity_0f7a4_6 : decode cJ5_newCapacity_0f7a4 6 = .ok (.iload_n 1, 1) := by decide +kernel
theorem dJ5_newCapacity_0f7a4_7 : decode cJ5_newCapacity_0f7a4 7 = .ok (.aload_n 0, 1) := by decide +kernel
theorem dJ5_newCapacity_0f7a4_8 : decode cJ5_newCapacity_0f7a4 8 = .ok (.getfield 22, 3) := by decide +kernel
theorem dJ5_newCapacity_0f7a4_11 : decode cJ5_newCapacity_0f7a4 11 = .ok (.ishl, 1) := by decide +kernel
theorem dJ5_newCapacity_0f7a4_12 : decode cJ5_newCapacity_0f7a4 12 = .ok (.istore_n 3, 1) := by decide +kernel
theorem dJ5_newCapacity_0f7a4_13 : decode cJ5_newCapacity_0f7a4 13 = .ok (.iload_n 3, 1) := by decide +kernel
theorem dJ5_newCapacity_0f7a4_14 : decode cJ5_newCapacity_0f7a4 14 = .ok (.iload_n 2, 1) := by decide +kernel
theorem dJ5_newCapacity_0f7a4_15 : decode cJ5_newCapacity_0f7a4 15 = .ok (.isub, 1) := by decide +kernel
theorem dJ5_newCapacity_0f7a4_16 : decode cJ5_newCapacity_0f7a4 16 = .ok (.istore 4, 2) := by decide +kernel
theorem dJ5_newCapacity_0f7a4_18 : decode cJ5_newCapacity_0f7a4 18 = .ok (.iload_n 2, 1) := by decide +kernel
theorem dJ5_newCapacity_0f7a4_19 : decode cJ5_newCapacity_0f7a4 19 = .ok (.iload 4, 2) := by decide +kernel
theorem dJ5_newCapacity_0f7a4_21 : decode cJ5_newCapacity_0f7a4 21 = .ok (.iload_n 2, 1) := by decide +kernel
theorem dJ5_newCapacity_0f7a4_22 : decode cJ5_newCapacity_0f7a4 22 = .ok (.iconst 2, 1) := by decide +kernel
theorem dJ5_newCapacity_0f7a4_23 : decode cJ5_newCapacity_0f7a4 23 = .ok (.aload_n 0, 1) := by decide +kernel
theorem dJ5_newCapacity_0f7a4_24 : decode cJ5_newCapacity_0f7a4 24 = .ok (.getfield 22, 3) := by decide +kernel
theorem dJ5_newCapacity_0f7a4_27 : decode cJ5_newCapacity_0f7a4 27 = .ok (.ishl, 1) := by decide +kernel
theorem dJ5_newCapacity_0f7a4_28 : decode cJ5_newCapacity_0f7a4 28 = .ok (.iadd, 1) := by decide +kernel
theorem dJ5_newCapacity_0f7a4_29 : decode cJ5_newCapacity_0f7a4 29 = .ok (.invokestatic 114, 3) := by decide +kernel
theorem dJ5_newCapacity_0f7a4_32 : decode cJ5_newCapacity_0f7a4 32 = .ok (.istore 5, 2) := by decide +kernel
theorem dJ5_newCapacity_0f7a4_34 : decode cJ5_newCapacity_0f7a4 34 = .ok (.iload 5, 2) := by decide +kernel
theorem dJ5_newCapacity_0f7a4_36 : decode cJ5_newCapacity_0f7a4 36 = .ok (.ldc 39, 2) := by decide +kernel
theorem dJ5_newCapacity_0f7a4_38 : decode cJ5_newCapacity_0f7a4 38 = .ok (.if_icmp .ne 13, 3) := by decide +kernel
theorem dJ5_newCapacity_0f7a4_51 : decode cJ5_newCapacity_0f7a4 51 = .ok (.iload 5, 2) := by decide +kernel
theorem dJ5_newCapacity_0f7a4_53 : decode cJ5_newCapacity_0f7a4 53 = .ok (.aload_n 0, 1) := by decide +kernel
theorem dJ5_newCapacity_0f7a4_54 : decode cJ5_newCapacity_0f7a4 54 = .ok (.getfield 22, 3) := by decide +kernel
theorem dJ5_newCapacity_0f7a4_57 : decode cJ5_newCapacity_0f7a4 57 = .ok (.ishr, 1) := by decide +kernel
theorem dJ5_newCapacity_0f7a4_58 : decode cJ5_newCapacity_0f7a4 58 = .ok (.ireturn, 1) := by decide +kernel
theorem dJ5_append_cf1ce_0 : decode cJ5_append_cf1ce 0 = .ok (.aload_n 1, 1) := by decide +kernel
theorem dJ5_append_cf1ce_1 : decode cJ5_append_cf1ce 1 = .ok (.ifnonnull 8, 3) := by decide +kernel
theorem dJ5_append_cf1ce_9 : decode cJ5_append_cf1ce 9 = .ok (.aload_n 1, 1) := by decide +kernel
theorem dJ5_append_cf1ce_10 : decode cJ5_append_cf1ce 10 = .ok (.invokevirtual 32, 3) := by decide +kernel
theorem dJ5_append_cf1ce_13 : decode cJ5_append_cf1ce 13 = .ok (.istore_n 2, 1) := by decide +kernel
theorem dJ5_append_cf1ce_14 : decode cJ5_append_cf1ce 14 = .ok (.aload_n 0, 1) := by decide +kernel
theorem dJ5_append_cf1ce_15 : decode cJ5_append_cf1ce 15 = .ok (.aload_n 0, 1) := by decide +kernel
theorem dJ5_append_cf1ce_16 : decode cJ5_append_cf1ce 16 = .ok (.getfield 79, 3) := by decide +kernel
theorem dJ5_append_cf1ce_19 : decode cJ5_append_cf1ce 19 = .ok (.iload_n 2, 1) := by decide +kernel
theorem dJ5_append_cf1ce_20 : decode cJ5_append_cf1ce 20 = .ok (.iadd, 1) := by decide +kernel
theorem dJ5_append_cf1ce_21 : decode cJ5_append_cf1ce 21 = .ok (.invokevirtual 100, 3) := by decide +kernel
theorem dJ5_append_cf1ce_24 : decode cJ5_append_cf1ce 24 = .ok (.aload_n 0, 1) := by decide +kernel
theorem dJ5_append_cf1ce_25 : decode cJ5_append_cf1ce 25 = .ok (.aload_n 0, 1) := by decide +kernel
theorem dJ5_append_cf1ce_26 : decode cJ5_append_cf1ce 26 = .ok (.getfield 79, 3) := by decide +kernel
theorem dJ5_append_cf1ce_29 : decode cJ5_append_cf1ce 29 = .ok (.aload_n 1, 1) := by decide +kernel
theorem dJ5_append_cf1ce_30 : decode cJ5_append_cf1ce 30 = .ok (.invokevirtual 208, 3) := by decide +kernel
theorem dJ5_append_cf1ce_33 : decode cJ5_append_cf1ce 33 = .ok (.aload_n 0, 1) := by decide +kernel
theorem dJ5_append_cf1ce_34 : decode cJ5_append_cf1ce 34 = .ok (.dup, 1) := by decide +kernel
theorem dJ5_append_cf1ce_35 : decode cJ5_append_cf1ce 35 = .ok (.getfield 79, 3) := by decide +kernel
theorem dJ5_append_cf1ce_38 : decode cJ5_append_cf1ce 38 = .ok (.iload_n 2, 1) := by decide +kernel
theorem dJ5_append_cf1ce_39 : decode cJ5_append_cf1ce 39 = .ok (.iadd, 1) := by decide +kernel
theorem dJ5_append_cf1ce_40 : decode cJ5_append_cf1ce 40 = .ok (.putfield 79, 3) := by decide +kernel
theorem dJ5_append_cf1ce_43 : decode cJ5_append_cf1ce 43 = .ok (.aload_n 0, 1) := by decide +kernel
theorem dJ5_append_cf1ce_44 : decode cJ5_append_cf1ce 44 = .ok (.areturn, 1) := by decide +kernel
theorem dJ5_append_3fe6f_0 : decode cJ5_append_3fe6f 0 = .ok (.aload_n 0, 1) := by decide +kernel
theorem dJ5_append_3fe6f_1 : decode cJ5_append_3fe6f 1 = .ok (.aload_n 0, 1) := by decide +kernel
theorem dJ5_append_3fe6f_2 : decode cJ5_append_3fe6f 2 = .ok (.getfield 79, 3) := by decide +kernel
theorem dJ5_append_3fe6f_5 : decode cJ5_append_3fe6f 5 = .ok (.iconst 1, 1) := by decide +kernel
theorem dJ5_append_3fe6f_6 : decode cJ5_append_3fe6f 6 = .ok (.iadd, 1) := by decide +kernel
theorem dJ5_append_3fe6f_7 : decode cJ5_append_3fe6f 7 = .ok (.invokevirtual 100, 3) := by decide +kernel
theorem dJ5_append_3fe6f_10 : decode cJ5_append_3fe6f 10 = .ok (.aload_n 0, 1) := by decide +kernel
theorem dJ5_append_3fe6f_11 : decode cJ5_append_3fe6f 11 = .ok (.invokevirtual 83, 3) := by decide +kernel
theorem dJ5_append_3fe6f_14 : decode cJ5_append_3fe6f 14 = .ok (.ifCond .eq 31, 3) := by decide +kernel
theorem dJ5_append_3fe6f_17 : decode cJ5_append_3fe6f 17 = .ok (.iload_n 1, 1) := by decide +kernel
theorem dJ5_append_3fe6f_18 : decode cJ5_append_3fe6f 18 = .ok (.invokestatic 191, 3) := by decide +kernel
theorem dJ5_append_3fe6f_21 : decode cJ5_append_3fe6f 21 = .ok (.ifCond .eq 24, 3) := by decide +kernel
theorem dJ5_append_3fe6f_24 : decode cJ5_append_3fe6f 24 = .ok (.aload_n 0, 1) := by decide +kernel
theorem dJ5_append_3fe6f_25 : decode cJ5_append_3fe6f 25 = .ok (.getfield 15, 3) := by decide +kernel
theorem dJ5_append_3fe6f_28 : decode cJ5_append_3fe6f 28 = .ok (.aload_n 0, 1) := by decide +kernel
theorem dJ5_append_3fe6f_29 : decode cJ5_append_3fe6f 29 = .ok (.dup, 1) := by decide +kernel
theorem dJ5_append_3fe6f_30 : decode cJ5_append_3fe6f 30 = .ok (.getfield 79, 3) := by decide +kernel
theorem dJ5_append_3fe6f_33 : decode cJ5_append_3fe6f 33 = .ok (.dup_x1, 1) := by decide +kernel
theorem dJ5_append_3fe6f_34 : decode cJ5_append_3fe6f 34 = .ok (.iconst 1, 1) := by decide +kernel
theorem dJ5_append_3fe6f_35 : decode cJ5_append_3fe6f 35 = .ok (.iadd, 1) := by decide +kernel
theorem dJ5_append_3fe6f_36 : decode cJ5_append_3fe6f 36 = .ok (.putfield 79, 3) := by decide +kernel
theorem dJ5_append_3fe6f_39 : decode cJ5_append_3fe6f 39 = .ok (.iload_n 1, 1) := by decide +kernel
theorem dJ5_append_3fe6f_40 : decode cJ5_append_3fe6f 40 = .ok (.i2b, 1) := by decide +kernel
theorem dJ5_append_3fe6f_41 : decode cJ5_append_3fe6f 41 = .ok (.bastore, 1) := by decide +kernel
theorem dJ5_append_3fe6f_42 : decode cJ5_append_3fe6f 42 = .ok (.goto 33, 3) := by decide +kernel
theorem dJ5_append_3fe6f_75 : decode cJ5_append_3fe6f 75 = .ok (.aload_n 0, 1) := by decide +kernel
theorem dJ5_append_3fe6f_76 : decode cJ5_append_3fe6f 76 = .ok (.areturn, 1) := by decide +kernel
theorem dJ5_getValue_6d5f1_0 : decode cJ5_getValue_6d5f1 0 = .ok (.aload_n 0, 1) := by decide +kernel
theorem dJ5_getValue_6d5f1_1 : decode cJ5_getValue_6d5f1 1 = .ok (.getfield 15, 3) := by decide +kernel
theorem dJ5_getValue_6d5f1_4 : decode cJ5_getValue_6d5f1 4 = .ok (.areturn, 1) := by decide +kernel
theorem dJ5_isLatin1_aae02_0 : decode cJ5_isLatin1_aae02 0 = .ok (.getstatic 18, 3) := by decide +kernel
theorem dJ5_isLatin1_aae02_3 : decode cJ5_isLatin1_aae02 3 = .ok (.ifCond .eq 14, 3) := by decide +kernel
theorem dJ5_isLatin1_aae02_6 : decode cJ5_isLatin1_aae02 6 = .ok (.aload_n 0, 1) := by decide +kernel
theorem dJ5_isLatin1_aae02_7 : decode cJ5_isLatin1_aae02 7 = .ok (.getfield 22, 3) := by decide +kernel
theorem dJ5_isLatin1_aae02_10 : decode cJ5_isLatin1_aae02 10 = .ok (.ifCond .ne 7, 3) := by decide +kernel
theorem dJ5_isLatin1_aae02_13 : decode cJ5_isLatin1_aae02 13 = .ok (.iconst 1, 1) := by decide +kernel
theorem dJ5_isLatin1_aae02_14 : decode cJ5_isLatin1_aae02 14 = .ok (.goto 4, 3) := by decide +kernel
theorem dJ5_isLatin1_aae02_18 : decode cJ5_isLatin1_aae02 18 = .ok (.ireturn, 1) := by decide +kernel
theorem dJ5_inflateIfNeededFor_a7421_0 : decode cJ5_inflateIfNeededFor_a7421 0 = .ok (.getstatic 18, 3) := by decide +kernel
theorem dJ5_inflateIfNeededFor_a7421_3 : decode cJ5_inflateIfNeededFor_a7421 3 = .ok (.ifCond .eq 18, 3) := by decide +kernel
theorem dJ5_inflateIfNeededFor_a7421_6 : decode cJ5_inflateIfNeededFor_a7421 6 = .ok (.aload_n 0, 1) := by decide +kernel
theorem dJ5_inflateIfNeededFor_a7421_7 : decode cJ5_inflateIfNeededFor_a7421 7 = .ok (.getfield 22, 3) := by decide +kernel
theorem dJ5_inflateIfNeededFor_a7421_10 : decode cJ5_inflateIfNeededFor_a7421 10 = .ok (.aload_n 1, 1) := by decide +kernel
theorem dJ5_inflateIfNeededFor_a7421_11 : decode cJ5_inflateIfNeededFor_a7421 11 = .ok (.invokevirtual 40, 3) := by decide +kernel
theorem dJ5_inflateIfNeededFor_a7421_14 : decode cJ5_inflateIfNeededFor_a7421 14 = .ok (.if_icmp .eq 7, 3) := by decide +kernel
theorem dJ5_inflateIfNeededFor_a7421_21 : decode cJ5_inflateIfNeededFor_a7421 21 = .ok (.return_, 1) := by decide +kernel
theorem dJ5_putStringAt_47b60_0 : decode cJ5_putStringAt_47b60 0 = .ok (.aload_n 0, 1) := by decide +kernel
theorem dJ5_putStringAt_47b60_1 : decode cJ5_putStringAt_47b60 1 = .ok (.aload_n 2, 1) := by decide +kernel
theorem dJ5_putStringAt_47b60_2 : decode cJ5_putStringAt_47b60 2 = .ok (.invokevirtual 397, 3) := by decide +kernel
theorem dJ5_putStringAt_47b60_5 : decode cJ5_putStringAt_47b60 5 = .ok (.aload_n 2, 1) := by decide +kernel
theorem dJ5_putStringAt_47b60_6 : decode cJ5_putStringAt_47b60 6 = .ok (.aload_n 0, 1) := by decide +kernel
theorem dJ5_putStringAt_47b60_7 : decode cJ5_putStringAt_47b60 7 = .ok (.getfield 15, 3) := by decide +kernel
theorem dJ5_putStringAt_47b60_10 : decode cJ5_putStringAt_47b60 10 = .ok (.iload_n 1, 1) := by decide +kernel
theorem dJ5_putStringAt_47b60_11 : decode cJ5_putStringAt_47b60 11 = .ok (.aload_n 0, 1) := by decide +kernel
theorem dJ5_putStringAt_47b60_12 : decode cJ5_putStringAt_47b60 12 = .ok (.getfield 22, 3) := by decide +kernel
theorem dJ5_putStringAt_47b60_15 : decode cJ5_putStringAt_47b60 15 = .ok (.invokevirtual 399, 3) := by decide +kernel
theorem dJ5_putStringAt_47b60_18 : decode cJ5_putStringAt_47b60 18 = .ok (.return_, 1) := by decide +kernel
theorem dJ0_init_81219_0 : decode cJ0_init_81219 0 = .ok (.aload_n 0, 1) := by decide +kernel
theorem dJ0_init_81219_1 : decode cJ0_init_81219 1 = .ok (.aload_n 1, 1) := by decide +kernel
theorem dJ0_init_81219_2 : decode cJ0_init_81219 2 = .ok (.aconst_null, 1) := by decide +kernel
theorem dJ0_init_81219_3 : decode cJ0_init_81219 3 = .ok (.invokespecial 489, 3) := by decide +kernel
theorem dJ0_init_81219_6 : decode cJ0_init_81219 6 = .ok (.return_, 1) := by decide +kernel
theorem dJ0_length_8abf5_0 : decode cJ0_length_8abf5 0 = .ok (.aload_n 0, 1) := by decide +kernel
theorem dJ0_length_8abf5_1 : decode cJ0_length_8abf5 1 = .ok (.getfield 9, 3) := by decide +kernel
theorem dJ0_length_8abf5_4 : decode cJ0_length_8abf5 4 = .ok (.arraylength, 1) := by decide +kernel
theorem dJ0_length_8abf5_5 : decode cJ0_length_8abf5 5 = .ok (.aload_n 0, 1) := by decide +kernel
theorem dJ0_length_8abf5_6 : decode cJ0_length_8abf5 6 = .ok (.invokevirtual 335, 3) := by decide +kernel
theorem dJ0_length_8abf5_9 : decode cJ0_length_8abf5 9 = .ok (.ishr, 1) := by decide +kernel
theorem dJ0_length_8abf5_10 : decode cJ0_length_8abf5 10 = .ok (.ireturn, 1) := by decide +kernel
theorem dJ0_getBytes_840e7_0 : decode cJ0_getBytes_840e7 0 = .ok (.aload_n 0, 1) := by decide +kernel
theorem dJ0_getBytes_840e7_1 : decode cJ0_getBytes_840e7 1 = .ok (.invokevirtual 335, 3) := by decide +kernel
theorem dJ0_getBytes_840e7_4 : decode cJ0_getBytes_840e7 4 = .ok (.iload_n 3, 1) := by decide +kernel
theorem dJ0_getBytes_840e7_5 : decode cJ0_getBytes_840e7 5 = .ok (.if_icmp .ne 23, 3) := by decide +kernel
theorem dJ0_getBytes_840e7_8 : decode cJ0_getBytes_840e7 8 = .ok (.aload_n 0, 1) := by decide +kernel
theorem dJ0_getBytes_840e7_9 : decode cJ0_getBytes_840e7 9 = .ok (.getfield 9, 3) := by decide +kernel
theorem dJ0_getBytes_840e7_12 : decode cJ0_getBytes_840e7 12 = .ok (.iconst 0, 1) := by decide +kernel
theorem dJ0_getBytes_840e7_13 : decode cJ0_getBytes_840e7 13 = .ok (.aload_n 1, 1) := by decide +kernel
theorem dJ0_getBytes_840e7_14 : decode cJ0_getBytes_840e7 14 = .ok (.iload_n 2, 1) := by decide +kernel
theorem dJ0_getBytes_840e7_15 : decode cJ0_getBytes_840e7 15 = .ok (.iload_n 3, 1) := by decide +kernel
theorem dJ0_getBytes_840e7_16 : decode cJ0_getBytes_840e7 16 = .ok (.ishl, 1) := by decide +kernel
theorem dJ0_getBytes_840e7_17 : decode cJ0_getBytes_840e7 17 = .ok (.aload_n 0, 1) := by decide +kernel
theorem dJ0_getBytes_840e7_18 : decode cJ0_getBytes_840e7 18 = .ok (.getfield 9, 3) := by decide +kernel
theorem dJ0_getBytes_840e7_21 : decode cJ0_getBytes_840e7 21 = .ok (.arraylength, 1) := by decide +kernel
theorem dJ0_getBytes_840e7_22 : decode cJ0_getBytes_840e7 22 = .ok (.invokestatic 212, 3) := by decide +kernel
theorem dJ0_getBytes_840e7_25 : decode cJ0_getBytes_840e7 25 = .ok (.goto 18, 3) := by decide +kernel
theorem dJ0_getBytes_840e7_43 : decode cJ0_getBytes_840e7 43 = .ok (.return_, 1) := by decide +kernel
theorem dJ0_init_db425_0 : decode cJ0_init_db425 0 = .ok (.aload_n 0, 1) := by decide +kernel
theorem dJ0_init_db425_1 : decode cJ0_init_db425 1 = .ok (.invokespecial 1, 3) := by decide +kernel
theorem dJ0_init_db425_4 : decode cJ0_init_db425 4 = .ok (.aload_n 1, 1) := by decide +kernel
theorem dJ0_init_db425_5 : decode cJ0_init_db425 5 = .ok (.invokevirtual 552, 3) := by decide +kernel
theorem dJ0_init_db425_8 : decode cJ0_init_db425 8 = .ok (.astore_n 3, 1) := by decide +kernel
theorem dJ0_init_db425_9 : decode cJ0_init_db425 9 = .ok (.aload_n 1, 1) := by decide +kernel
theorem dJ0_init_db425_10 : decode cJ0_init_db425 10 = .ok (.invokevirtual 549, 3) := by decide +kernel
theorem dJ0_init_db425_13 : decode cJ0_init_db425 13 = .ok (.istore 4, 2) := by decide +kernel
theorem dJ0_init_db425_15 : decode cJ0_init_db425 15 = .ok (.aload_n 1, 1) := by decide +kernel
theorem dJ0_init_db425_16 : decode cJ0_init_db425 16 = .ok (.invokevirtual 1047, 3) := by decide +kernel
theorem dJ0_init_db425_19 : decode cJ0_init_db425 19 = .ok (.ifCond .eq 22, 3) := by decide +kernel
theorem dJ0_init_db425_22 : decode cJ0_init_db425 22 = .ok (.aload_n 0, 1) := by decide +kernel
theorem dJ0_init_db425_23 : decode cJ0_init_db425 23 = .ok (.iconst 0, 1) := by decide +kernel
theorem dJ0_init_db425_24 : decode cJ0_init_db425 24 = .ok (.putfield 15, 3) := by decide +kernel
theorem dJ0_init_db425_27 : decode cJ0_init_db425 27 = .ok (.aload_n 0, 1) := by decide +kernel
theorem dJ0_init_db425_28 : decode cJ0_init_db425 28 = .ok (.aload_n 3, 1) := by decide +kernel
theorem dJ0_init_db425_29 : decode cJ0_init_db425 29 = .ok (.iconst 0, 1) := by decide +kernel
theorem dJ0_init_db425_30 : decode cJ0_init_db425 30 = .ok (.iload 4, 2) := by decide +kernel
theorem dJ0_init_db425_32 : decode cJ0_init_db425 32 = .ok (.invokestatic 54, 3) := by decide +kernel
theorem dJ0_init_db425_35 : decode cJ0_init_db425 35 = .ok (.putfield 9, 3) := by decide +kernel
theorem dJ0_init_db425_38 : decode cJ0_init_db425 38 = .ok (.goto 59, 3) := by decide +kernel
theorem dJ0_init_db425_97 : decode cJ0_init_db425 97 = .ok (.return_, 1) := by decide +kernel
theorem dJ0_coder_7d493_0 : decode cJ0_coder_7d493 0 = .ok (.getstatic 38, 3) := by decide +kernel
theorem dJ0_coder_7d493_3 : decode cJ0_coder_7d493 3 = .ok (.ifCond .eq 10, 3) := by decide +kernel
theorem dJ0_coder_7d493_6 : decode cJ0_coder_7d493 6 = .ok (.aload_n 0, 1) := by decide +kernel
theorem dJ0_coder_7d493_7 : decode cJ0_coder_7d493 7 = .ok (.getfield 15, 3) := by decide +kernel
theorem dJ0_coder_7d493_10 : decode cJ0_coder_7d493 10 = .ok (.goto 4, 3) := by decide +kernel
theorem dJ0_coder_7d493_14 : decode cJ0_coder_7d493 14 = .ok (.ireturn, 1) := by decide +kernel
theorem dJ4_init_da8c8_0 : decode cJ4_init_da8c8 0 = .ok (.aload_n 0, 1) := by decide +kernel
theorem dJ4_init_da8c8_1 : decode cJ4_init_da8c8 1 = .ok (.bipush 16, 2) := by decide +kernel
theorem dJ4_init_da8c8_3 : decode cJ4_init_da8c8 3 = .ok (.invokespecial 1, 3) := by decide +kernel
theorem dJ4_init_da8c8_6 : decode cJ4_init_da8c8 6 = .ok (.return_, 1) := by decide +kernel
theorem dJ4_append_15ec4_0 : decode cJ4_append_15ec4 0 = .ok (.aload_n 0, 1) := by decide +kernel
theorem dJ4_append_15ec4_1 : decode cJ4_append_15ec4 1 = .ok (.aload_n 1, 1) := by decide +kernel
theorem dJ4_append_15ec4_2 : decode cJ4_append_15ec4 2 = .ok (.invokespecial 29, 3) := by decide +kernel
theorem dJ4_append_15ec4_5 : decode cJ4_append_15ec4 5 = .ok (.pop, 1) := by decide +kernel
theorem dJ4_append_15ec4_6 : decode cJ4_append_15ec4 6 = .ok (.aload_n 0, 1) := by decide +kernel
theorem dJ4_append_15ec4_7 : decode cJ4_append_15ec4 7 = .ok (.areturn, 1) := by decide +kernel
theorem dJ4_append_cf468_0 : decode cJ4_append_cf468 0 = .ok (.aload_n 0, 1) := by decide +kernel
theorem dJ4_append_cf468_1 : decode cJ4_append_cf468 1 = .ok (.iload_n 1, 1) := by decide +kernel
theorem dJ4_append_cf468_2 : decode cJ4_append_cf468 2 = .ok (.invokespecial 50, 3) := by decide +kernel
theorem dJ4_append_cf468_5 : decode cJ4_append_cf468 5 = .ok (.pop, 1) := by decide +kernel
theorem dJ4_append_cf468_6 : decode cJ4_append_cf468 6 = .ok (.aload_n 0, 1) := by decide +kernel
theorem dJ4_append_cf468_7 : decode cJ4_append_cf468 7 = .ok (.areturn, 1) := by decide +kernel
theorem dJ4_toString_0e30d_0 : decode cJ4_toString_0e30d 0 = .ok (.new 18, 3) := by decide +kernel
theorem dJ4_toString_0e30d_3 : decode cJ4_toString_0e30d 3 = .ok (.dup, 1) := by decide +kernel
theorem dJ4_toString_0e30d_4 : decode cJ4_toString_0e30d 4 = .ok (.aload_n 0, 1) := by decide +kernel
theorem dJ4_toString_0e30d_5 : decode cJ4_toString_0e30d 5 = .ok (.invokespecial 137, 3) := by decide +kernel
theorem dJ4_toString_0e30d_8 : decode cJ4_toString_0e30d 8 = .ok (.areturn, 1) := by decide +kernel
theorem dJ4_length_8abf5_0 : decode cJ4_length_8abf5 0 = .ok (.aload_n 0, 1) := by decide +kernel
theorem dJ4_length_8abf5_1 : decode cJ4_length_8abf5 1 = .ok (.invokespecial 343, 3) := by decide +kernel
theorem dJ4_length_8abf5_4 : decode cJ4_length_8abf5 4 = .ok (.ireturn, 1) := by decide +kernel
theorem dJ1_canEncode_fc78d_0 : decode cJ1_canEncode_fc78d 0 = .ok (.iload_n 0, 1) := by decide +kernel
theorem dJ1_canEncode_fc78d_1 : decode cJ1_canEncode_fc78d 1 = .ok (.sipush 255, 3) := by decide +kernel
theorem dJ1_canEncode_fc78d_4 : decode cJ1_canEncode_fc78d 4 = .ok (.if_icmp .gt 7, 3) := by decide +kernel
theorem dJ1_canEncode_fc78d_7 : decode cJ1_canEncode_fc78d 7 = .ok (.iconst 1, 1) := by decide +kernel
theorem dJ1_canEncode_fc78d_8 : decode cJ1_canEncode_fc78d 8 = .ok (.goto 4, 3) := by decide +kernel
theorem dJ1_canEncode_fc78d_12 : decode cJ1_canEncode_fc78d 12 = .ok (.ireturn, 1) := by decide +kernel
theorem dJ7_copyOf_9075b_0 : decode cJ7_copyOf_9075b 0 = .ok (.iload_n 1, 1) := by decide +kernel
theorem dJ7_copyOf_9075b_1 : decode cJ7_copyOf_9075b 1 = .ok (.aload_n 0, 1) := by decide +kernel
theorem dJ7_copyOf_9075b_2 : decode cJ7_copyOf_9075b 2 = .ok (.arraylength, 1) := by decide +kernel
theorem dJ7_copyOf_9075b_3 : decode cJ7_copyOf_9075b 3 = .ok (.if_icmp .ne 11, 3) := by decide +kernel
theorem dJ7_copyOf_9075b_14 : decode cJ7_copyOf_9075b 14 = .ok (.iload_n 1, 1) := by decide +kernel
theorem dJ7_copyOf_9075b_15 : decode cJ7_copyOf_9075b 15 = .ok (.newarray .byte, 2) := by decide +kernel
theorem dJ7_copyOf_9075b_17 : decode cJ7_copyOf_9075b 17 = .ok (.astore_n 2, 1) := by decide +kernel
theorem dJ7_copyOf_9075b_18 : decode cJ7_copyOf_9075b 18 = .ok (.aload_n 0, 1) := by decide +kernel
theorem dJ7_copyOf_9075b_19 : decode cJ7_copyOf_9075b 19 = .ok (.iconst 0, 1) := by decide +kernel
theorem dJ7_copyOf_9075b_20 : decode cJ7_copyOf_9075b 20 = .ok (.aload_n 2, 1) := by decide +kernel
theorem dJ7_copyOf_9075b_21 : decode cJ7_copyOf_9075b 21 = .ok (.iconst 0, 1) := by decide +kernel
theorem dJ7_copyOf_9075b_22 : decode cJ7_copyOf_9075b 22 = .ok (.aload_n 0, 1) := by decide +kernel
theorem dJ7_copyOf_9075b_23 : decode cJ7_copyOf_9075b 23 = .ok (.arraylength, 1) := by decide +kernel
theorem dJ7_copyOf_9075b_24 : decode cJ7_copyOf_9075b 24 = .ok (.iload_n 1, 1) := by decide +kernel
theorem dJ7_copyOf_9075b_25 : decode cJ7_copyOf_9075b 25 = .ok (.invokestatic 304, 3) := by decide +kernel
theorem dJ7_copyOf_9075b_28 : decode cJ7_copyOf_9075b 28 = .ok (.invokestatic 150, 3) := by decide +kernel
theorem dJ7_copyOf_9075b_31 : decode cJ7_copyOf_9075b 31 = .ok (.aload_n 2, 1) := by decide +kernel
theorem dJ7_copyOf_9075b_32 : decode cJ7_copyOf_9075b 32 = .ok (.areturn, 1) := by decide +kernel
theorem dJ7_checkLength_df160_0 : decode cJ7_checkLength_df160 0 = .ok (.iload_n 1, 1) := by decide +kernel
theorem dJ7_checkLength_df160_1 : decode cJ7_checkLength_df160 1 = .ok (.iload_n 0, 1) := by decide +kernel
theorem dJ7_checkLength_df160_2 : decode cJ7_checkLength_df160 2 = .ok (.if_icmp .ge 35, 3) := by decide +kernel
theorem dJ7_checkLength_df160_37 : decode cJ7_checkLength_df160 37 = .ok (.return_, 1) := by decide +kernel
theorem dJ7_copyOfRange_39247_0 : decode cJ7_copyOfRange_39247 0 = .ok (.iload_n 1, 1) := by decide +kernel
theorem dJ7_copyOfRange_39247_1 : decode cJ7_copyOfRange_39247 1 = .ok (.ifCond .ne 9, 3) := by decide +kernel
theorem dJ7_copyOfRange_39247_4 : decode cJ7_copyOfRange_39247 4 = .ok (.iload_n 2, 1) := by decide +kernel
theorem dJ7_copyOfRange_39247_5 : decode cJ7_copyOfRange_39247 5 = .ok (.aload_n 0, 1) := by decide +kernel
theorem dJ7_copyOfRange_39247_6 : decode cJ7_copyOfRange_39247 6 = .ok (.arraylength, 1) := by decide +kernel
theorem dJ7_copyOfRange_39247_7 : decode cJ7_copyOfRange_39247 7 = .ok (.if_icmp .eq 10, 3) := by decide +kernel
theorem dJ7_copyOfRange_39247_10 : decode cJ7_copyOfRange_39247 10 = .ok (.aload_n 0, 1) := by decide +kernel
theorem dJ7_copyOfRange_39247_11 : decode cJ7_copyOfRange_39247 11 = .ok (.iload_n 1, 1) := by decide +kernel
theorem dJ7_copyOfRange_39247_12 : decode cJ7_copyOfRange_39247 12 = .ok (.iload_n 2, 1) := by decide +kernel
theorem dJ7_copyOfRange_39247_13 : decode cJ7_copyOfRange_39247 13 = .ok (.invokestatic 339, 3) := by decide +kernel
theorem dJ7_copyOfRange_39247_16 : decode cJ7_copyOfRange_39247 16 = .ok (.areturn, 1) := by decide +kernel
theorem dJ7_copyOfRange_39247_17 : decode cJ7_copyOfRange_39247 17 = .ok (.aload_n 0, 1) := by decide +kernel
theorem dJ7_copyOfRange_39247_18 : decode cJ7_copyOfRange_39247 18 = .ok (.invokevirtual 310, 3) := by decide +kernel
theorem dJ7_copyOfRange_39247_21 : decode cJ7_copyOfRange_39247 21 = .ok (.checkcast 311, 3) := by decide +kernel
theorem dJ7_copyOfRange_39247_24 : decode cJ7_copyOfRange_39247 24 = .ok (.areturn, 1) := by decide +kernel
theorem dJ7_copyOfRangeByte_39247_0 : decode cJ7_copyOfRangeByte_39247 0 = .ok (.iload_n 1, 1) := by decide +kernel
theorem dJ7_copyOfRangeByte_39247_1 : decode cJ7_copyOfRangeByte_39247 1 = .ok (.iload_n 2, 1) := by decide +kernel
theorem dJ7_copyOfRangeByte_39247_2 : decode cJ7_copyOfRangeByte_39247 2 = .ok (.invokestatic 343, 3) := by decide +kernel
theorem dJ7_copyOfRangeByte_39247_5 : decode cJ7_copyOfRangeByte_39247 5 = .ok (.iload_n 2, 1) := by decide +kernel
theorem dJ7_copyOfRangeByte_39247_6 : decode cJ7_copyOfRangeByte_39247 6 = .ok (.iload_n 1, 1) := by decide +kernel
theorem dJ7_copyOfRangeByte_39247_7 : decode cJ7_copyOfRangeByte_39247 7 = .ok (.isub, 1) := by decide +kernel
theorem dJ7_copyOfRangeByte_39247_8 : decode cJ7_copyOfRangeByte_39247 8 = .ok (.istore_n 3, 1) := by decide +kernel
theorem dJ7_copyOfRangeByte_39247_9 : decode cJ7_copyOfRangeByte_39247 9 = .ok (.iload_n 3, 1) := by decide +kernel
theorem dJ7_copyOfRangeByte_39247_10 : decode cJ7_copyOfRangeByte_39247 10 = .ok (.newarray .byte, 2) := by decide +kernel
theorem dJ7_copyOfRangeByte_39247_12 : decode cJ7_copyOfRangeByte_39247 12 = .ok (.astore 4, 2) := by decide +kernel
theorem dJ7_copyOfRangeByte_39247_14 : decode cJ7_copyOfRangeByte_39247 14 = .ok (.aload_n 0, 1) := by decide +kernel
theorem dJ7_copyOfRangeByte_39247_15 : decode cJ7_copyOfRangeByte_39247 15 = .ok (.iload_n 1, 1) := by decide +kernel
theorem dJ7_copyOfRangeByte_39247_16 : decode cJ7_copyOfRangeByte_39247 16 = .ok (.aload 4, 2) := by decide +kernel
theorem dJ7_copyOfRangeByte_39247_18 : decode cJ7_copyOfRangeByte_39247 18 = .ok (.iconst 0, 1) := by decide +kernel
theorem dJ7_copyOfRangeByte_39247_19 : decode cJ7_copyOfRangeByte_39247 19 = .ok (.aload_n 0, 1) := by decide +kernel
theorem dJ7_copyOfRangeByte_39247_20 : decode cJ7_copyOfRangeByte_39247 20 = .ok (.arraylength, 1) := by decide +kernel
theorem dJ7_copyOfRangeByte_39247_21 : decode cJ7_copyOfRangeByte_39247 21 = .ok (.iload_n 1, 1) := by decide +kernel
theorem dJ7_copyOfRangeByte_39247_22 : decode cJ7_copyOfRangeByte_39247 22 = .ok (.isub, 1) := by decide +kernel
theorem dJ7_copyOfRangeByte_39247_23 : decode cJ7_copyOfRangeByte_39247 23 = .ok (.iload_n 3, 1) := by decide +kernel
theorem dJ7_copyOfRangeByte_39247_24 : decode cJ7_copyOfRangeByte_39247 24 = .ok (.invokestatic 304, 3) := by decide +kernel
theorem dJ7_copyOfRangeByte_39247_27 : decode cJ7_copyOfRangeByte_39247 27 = .ok (.invokestatic 150, 3) := by decide +kernel
theorem dJ7_copyOfRangeByte_39247_30 : decode cJ7_copyOfRangeByte_39247 30 = .ok (.aload 4, 2) := by decide +kernel
theorem dJ7_copyOfRangeByte_39247_32 : decode cJ7_copyOfRangeByte_39247 32 = .ok (.areturn, 1) := by decide +kernel
theorem dJ8_newLength_cabcc_0 : decode cJ8_newLength_cabcc 0 = .ok (.iload_n 0, 1) := by decide +kernel
theorem dJ8_newLength_cabcc_1 : decode cJ8_newLength_cabcc 1 = .ok (.iload_n 1, 1) := by decide +kernel
theorem dJ8_newLength_cabcc_2 : decode cJ8_newLength_cabcc 2 = .ok (.iload_n 2, 1) := by decide +kernel
theorem dJ8_newLength_cabcc_3 : decode cJ8_newLength_cabcc 3 = .ok (.invokestatic 194, 3) := by decide +kernel
theorem dJ8_newLength_cabcc_6 : decode cJ8_newLength_cabcc 6 = .ok (.iadd, 1) := by decide +kernel
theorem dJ8_newLength_cabcc_7 : decode cJ8_newLength_cabcc 7 = .ok (.istore_n 3, 1) := by decide +kernel
theorem dJ8_newLength_cabcc_8 : decode cJ8_newLength_cabcc 8 = .ok (.iconst 0, 1) := by decide +kernel
theorem dJ8_newLength_cabcc_9 : decode cJ8_newLength_cabcc 9 = .ok (.iload_n 3, 1) := by decide +kernel
theorem dJ8_newLength_cabcc_10 : decode cJ8_newLength_cabcc 10 = .ok (.if_icmp .ge 11, 3) := by decide +kernel
theorem dJ8_newLength_cabcc_13 : decode cJ8_newLength_cabcc 13 = .ok (.iload_n 3, 1) := by decide +kernel
theorem dJ8_newLength_cabcc_14 : decode cJ8_newLength_cabcc 14 = .ok (.ldc 200, 2) := by decide +kernel
theorem dJ8_newLength_cabcc_16 : decode cJ8_newLength_cabcc 16 = .ok (.if_icmp .gt 5, 3) := by decide +kernel
theorem dJ8_newLength_cabcc_19 : decode cJ8_newLength_cabcc 19 = .ok (.iload_n 3, 1) := by decide +kernel
theorem dJ8_newLength_cabcc_20 : decode cJ8_newLength_cabcc 20 = .ok (.ireturn, 1) := by decide +kernel
