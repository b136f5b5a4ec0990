theorem dX0_far_0 : decode cX0_far 0 = .ok (.iload_n 0, 1) := by decide +kernel
theorem dX0_far_1 : decode cX0_far 1 = .ok (.i2l, 1) := by decide +kernel
theorem dX0_far_2 : decode cX0_far 2 = .ok (.ldc2_w 9, 3) := by decide +kernel
theorem dX0_far_5 : decode cX0_far 5 = .ok (.lmul, 1) := by decide +kernel
theorem dX0_far_6 : decode cX0_far 6 = .ok (.lreturn, 1) := by decide +kernel
theorem dX0_holdsPlace_0 : decode cX0_holdsPlace 0 = .ok (.lconst 0, 1) := by decide +kernel
theorem dX0_holdsPlace_1 : decode cX0_holdsPlace 1 = .ok (.lload_n 0, 1) := by decide +kernel
theorem dX0_holdsPlace_2 : decode cX0_holdsPlace 2 = .ok (.lcmp, 1) := by decide +kernel
theorem dX0_holdsPlace_3 : decode cX0_holdsPlace 3 = .ok (.ifCond .gt 13, 3) := by decide +kernel
theorem dX0_holdsPlace_6 : decode cX0_holdsPlace 6 = .ok (.lload_n 0, 1) := by decide +kernel
theorem dX0_holdsPlace_7 : decode cX0_holdsPlace 7 = .ok (.lload_n 2, 1) := by decide +kernel
theorem dX0_holdsPlace_8 : decode cX0_holdsPlace 8 = .ok (.lcmp, 1) := by decide +kernel
theorem dX0_holdsPlace_9 : decode cX0_holdsPlace 9 = .ok (.ifCond .ge 7, 3) := by decide +kernel
theorem dX0_holdsPlace_12 : decode cX0_holdsPlace 12 = .ok (.iconst 1, 1) := by decide +kernel
theorem dX0_holdsPlace_13 : decode cX0_holdsPlace 13 = .ok (.goto 4, 3) := by decide +kernel
theorem dX0_holdsPlace_16 : decode cX0_holdsPlace 16 = .ok (.iconst 0, 1) := by decide +kernel
theorem dX0_holdsPlace_17 : decode cX0_holdsPlace 17 = .ok (.ireturn, 1) := by decide +kernel
theorem dX0_holdsSpan_0 : decode cX0_holdsSpan 0 = .ok (.lconst 0, 1) := by decide +kernel
theorem dX0_holdsSpan_1 : decode cX0_holdsSpan 1 = .ok (.lload_n 0, 1) := by decide +kernel
theorem dX0_holdsSpan_2 : decode cX0_holdsSpan 2 = .ok (.lcmp, 1) := by decide +kernel
theorem dX0_holdsSpan_3 : decode cX0_holdsSpan 3 = .ok (.ifCond .gt 20, 3) := by decide +kernel
theorem dX0_holdsSpan_6 : decode cX0_holdsSpan 6 = .ok (.lload_n 0, 1) := by decide +kernel
theorem dX0_holdsSpan_7 : decode cX0_holdsSpan 7 = .ok (.lload_n 2, 1) := by decide +kernel
theorem dX0_holdsSpan_8 : decode cX0_holdsSpan 8 = .ok (.lcmp, 1) := by decide +kernel
theorem dX0_holdsSpan_9 : decode cX0_holdsSpan 9 = .ok (.ifCond .gt 14, 3) := by decide +kernel
theorem dX0_holdsSpan_12 : decode cX0_holdsSpan 12 = .ok (.lload_n 2, 1) := by decide +kernel
theorem dX0_holdsSpan_13 : decode cX0_holdsSpan 13 = .ok (.lload 4, 2) := by decide +kernel
theorem dX0_holdsSpan_15 : decode cX0_holdsSpan 15 = .ok (.lcmp, 1) := by decide +kernel
theorem dX0_holdsSpan_16 : decode cX0_holdsSpan 16 = .ok (.ifCond .gt 7, 3) := by decide +kernel
theorem dX0_holdsSpan_19 : decode cX0_holdsSpan 19 = .ok (.iconst 1, 1) := by decide +kernel
theorem dX0_holdsSpan_20 : decode cX0_holdsSpan 20 = .ok (.goto 4, 3) := by decide +kernel
theorem dX0_holdsSpan_23 : decode cX0_holdsSpan 23 = .ok (.iconst 0, 1) := by decide +kernel
theorem dX0_holdsSpan_24 : decode cX0_holdsSpan 24 = .ok (.ireturn, 1) := by decide +kernel
theorem dX0_holdsStretch_0 : decode cX0_holdsStretch 0 = .ok (.lconst 0, 1) := by decide +kernel
theorem dX0_holdsStretch_1 : decode cX0_holdsStretch 1 = .ok (.lload_n 0, 1) := by decide +kernel
theorem dX0_holdsStretch_2 : decode cX0_holdsStretch 2 = .ok (.lcmp, 1) := by decide +kernel
theorem dX0_holdsStretch_3 : decode cX0_holdsStretch 3 = .ok (.ifCond .gt 29, 3) := by decide +kernel
theorem dX0_holdsStretch_6 : decode cX0_holdsStretch 6 = .ok (.lconst 0, 1) := by decide +kernel
theorem dX0_holdsStretch_7 : decode cX0_holdsStretch 7 = .ok (.lload_n 2, 1) := by decide +kernel
theorem dX0_holdsStretch_8 : decode cX0_holdsStretch 8 = .ok (.lcmp, 1) := by decide +kernel
theorem dX0_holdsStretch_9 : decode cX0_holdsStretch 9 = .ok (.ifCond .gt 23, 3) := by decide +kernel
theorem dX0_holdsStretch_12 : decode cX0_holdsStretch 12 = .ok (.lconst 0, 1) := by decide +kernel
theorem dX0_holdsStretch_13 : decode cX0_holdsStretch 13 = .ok (.lload 4, 2) := by decide +kernel
theorem dX0_holdsStretch_15 : decode cX0_holdsStretch 15 = .ok (.lcmp, 1) := by decide +kernel
theorem dX0_holdsStretch_16 : decode cX0_holdsStretch 16 = .ok (.ifCond .gt 16, 3) := by decide +kernel
theorem dX0_holdsStretch_19 : decode cX0_holdsStretch 19 = .ok (.lload_n 0, 1) := by decide +kernel
theorem dX0_holdsStretch_20 : decode cX0_holdsStretch 20 = .ok (.lload 4, 2) := by decide +kernel
theorem dX0_holdsStretch_22 : decode cX0_holdsStretch 22 = .ok (.lload_n 2, 1) := by decide +kernel
theorem dX0_holdsStretch_23 : decode cX0_holdsStretch 23 = .ok (.lsub, 1) := by decide +kernel
theorem dX0_holdsStretch_24 : decode cX0_holdsStretch 24 = .ok (.lcmp, 1) := by decide +kernel
theorem dX0_holdsStretch_25 : decode cX0_holdsStretch 25 = .ok (.ifCond .gt 7, 3) := by decide +kernel
theorem dX0_holdsStretch_28 : decode cX0_holdsStretch 28 = .ok (.iconst 1, 1) := by decide +kernel
theorem dX0_holdsStretch_29 : decode cX0_holdsStretch 29 = .ok (.goto 4, 3) := by decide +kernel
theorem dX0_holdsStretch_32 : decode cX0_holdsStretch 32 = .ok (.iconst 0, 1) := by decide +kernel
theorem dX0_holdsStretch_33 : decode cX0_holdsStretch 33 = .ok (.ireturn, 1) := by decide +kernel
theorem dX0_countPlaces_0 : decode cX0_countPlaces 0 = .ok (.iconst 0, 1) := by decide +kernel
theorem dX0_countPlaces_1 : decode cX0_countPlaces 1 = .ok (.istore_n 1, 1) := by decide +kernel
theorem dX0_countPlaces_2 : decode cX0_countPlaces 2 = .ok (.bipush (-2), 2) := by decide +kernel
theorem dX0_countPlaces_4 : decode cX0_countPlaces 4 = .ok (.istore_n 2, 1) := by decide +kernel
theorem dX0_countPlaces_5 : decode cX0_countPlaces 5 = .ok (.iload_n 2, 1) := by decide +kernel
theorem dX0_countPlaces_6 : decode cX0_countPlaces 6 = .ok (.bipush 26, 2) := by decide +kernel
theorem dX0_countPlaces_8 : decode cX0_countPlaces 8 = .ok (.if_icmp .gt 22, 3) := by decide +kernel
theorem dX0_countPlaces_11 : decode cX0_countPlaces 11 = .ok (.iload_n 2, 1) := by decide +kernel
theorem dX0_countPlaces_12 : decode cX0_countPlaces 12 = .ok (.i2l, 1) := by decide +kernel
theorem dX0_countPlaces_13 : decode cX0_countPlaces 13 = .ok (.iload_n 0, 1) := by decide +kernel
theorem dX0_countPlaces_14 : decode cX0_countPlaces 14 = .ok (.i2l, 1) := by decide +kernel
theorem dX0_countPlaces_15 : decode cX0_countPlaces 15 = .ok (.invokestatic 13, 3) := by decide +kernel
theorem dX0_countPlaces_18 : decode cX0_countPlaces 18 = .ok (.ifCond .eq 6, 3) := by decide +kernel
theorem dX0_countPlaces_21 : decode cX0_countPlaces 21 = .ok (.iinc 1 1, 3) := by decide +kernel
theorem dX0_countPlaces_24 : decode cX0_countPlaces 24 = .ok (.iinc 2 1, 3) := by decide +kernel
theorem dX0_countPlaces_27 : decode cX0_countPlaces 27 = .ok (.goto (-22), 3) := by decide +kernel
theorem dX0_countPlaces_30 : decode cX0_countPlaces 30 = .ok (.iload_n 1, 1) := by decide +kernel
theorem dX0_countPlaces_31 : decode cX0_countPlaces 31 = .ok (.ireturn, 1) := by decide +kernel
theorem dX0_countSpans_0 : decode cX0_countSpans 0 = .ok (.iconst 0, 1) := by decide +kernel
theorem dX0_countSpans_1 : decode cX0_countSpans 1 = .ok (.istore_n 1, 1) := by decide +kernel
theorem dX0_countSpans_2 : decode cX0_countSpans 2 = .ok (.bipush (-2), 2) := by decide +kernel
theorem dX0_countSpans_4 : decode cX0_countSpans 4 = .ok (.istore_n 2, 1) := by decide +kernel
theorem dX0_countSpans_5 : decode cX0_countSpans 5 = .ok (.iload_n 2, 1) := by decide +kernel
theorem dX0_countSpans_6 : decode cX0_countSpans 6 = .ok (.bipush 26, 2) := by decide +kernel
theorem dX0_countSpans_8 : decode cX0_countSpans 8 = .ok (.if_icmp .gt 39, 3) := by decide +kernel
theorem dX0_countSpans_11 : decode cX0_countSpans 11 = .ok (.bipush (-2), 2) := by decide +kernel
theorem dX0_countSpans_13 : decode cX0_countSpans 13 = .ok (.istore_n 3, 1) := by decide +kernel
theorem dX0_countSpans_14 : decode cX0_countSpans 14 = .ok (.iload_n 3, 1) := by decide +kernel
theorem dX0_countSpans_15 : decode cX0_countSpans 15 = .ok (.bipush 26, 2) := by decide +kernel
theorem dX0_countSpans_17 : decode cX0_countSpans 17 = .ok (.if_icmp .gt 24, 3) := by decide +kernel
theorem dX0_countSpans_20 : decode cX0_countSpans 20 = .ok (.iload_n 2, 1) := by decide +kernel
theorem dX0_countSpans_21 : decode cX0_countSpans 21 = .ok (.i2l, 1) := by decide +kernel
theorem dX0_countSpans_22 : decode cX0_countSpans 22 = .ok (.iload_n 3, 1) := by decide +kernel
theorem dX0_countSpans_23 : decode cX0_countSpans 23 = .ok (.i2l, 1) := by decide +kernel
theorem dX0_countSpans_24 : decode cX0_countSpans 24 = .ok (.iload_n 0, 1) := by decide +kernel
theorem dX0_countSpans_25 : decode cX0_countSpans 25 = .ok (.i2l, 1) := by decide +kernel
theorem dX0_countSpans_26 : decode cX0_countSpans 26 = .ok (.invokestatic 17, 3) := by decide +kernel
theorem dX0_countSpans_29 : decode cX0_countSpans 29 = .ok (.ifCond .eq 6, 3) := by decide +kernel
theorem dX0_countSpans_32 : decode cX0_countSpans 32 = .ok (.iinc 1 1, 3) := by decide +kernel
theorem dX0_countSpans_35 : decode cX0_countSpans 35 = .ok (.iinc 3 1, 3) := by decide +kernel
theorem dX0_countSpans_38 : decode cX0_countSpans 38 = .ok (.goto (-24), 3) := by decide +kernel
theorem dX0_countSpans_41 : decode cX0_countSpans 41 = .ok (.iinc 2 1, 3) := by decide +kernel
theorem dX0_countSpans_44 : decode cX0_countSpans 44 = .ok (.goto (-39), 3) := by decide +kernel
theorem dX0_countSpans_47 : decode cX0_countSpans 47 = .ok (.iload_n 1, 1) := by decide +kernel
theorem dX0_countSpans_48 : decode cX0_countSpans 48 = .ok (.ireturn, 1) := by decide +kernel
theorem dX0_countStretches_0 : decode cX0_countStretches 0 = .ok (.iconst 0, 1) := by decide +kernel
theorem dX0_countStretches_1 : decode cX0_countStretches 1 = .ok (.istore_n 1, 1) := by decide +kernel
theorem dX0_countStretches_2 : decode cX0_countStretches 2 = .ok (.bipush (-2), 2) := by decide +kernel
theorem dX0_countStretches_4 : decode cX0_countStretches 4 = .ok (.istore_n 2, 1) := by decide +kernel
theorem dX0_countStretches_5 : decode cX0_countStretches 5 = .ok (.iload_n 2, 1) := by decide +kernel
theorem dX0_countStretches_6 : decode cX0_countStretches 6 = .ok (.bipush 26, 2) := by decide +kernel
theorem dX0_countStretches_8 : decode cX0_countStretches 8 = .ok (.if_icmp .gt 39, 3) := by decide +kernel
theorem dX0_countStretches_11 : decode cX0_countStretches 11 = .ok (.bipush (-2), 2) := by decide +kernel
theorem dX0_countStretches_13 : decode cX0_countStretches 13 = .ok (.istore_n 3, 1) := by decide +kernel
theorem dX0_countStretches_14 : decode cX0_countStretches 14 = .ok (.iload_n 3, 1) := by decide +kernel
theorem dX0_countStretches_15 : decode cX0_countStretches 15 = .ok (.bipush 26, 2) := by decide +kernel
theorem dX0_countStretches_17 : decode cX0_countStretches 17 = .ok (.if_icmp .gt 24, 3) := by decide +kernel
theorem dX0_countStretches_20 : decode cX0_countStretches 20 = .ok (.iload_n 2, 1) := by decide +kernel
theorem dX0_countStretches_21 : decode cX0_countStretches 21 = .ok (.i2l, 1) := by decide +kernel
theorem dX0_countStretches_22 : decode cX0_countStretches 22 = .ok (.iload_n 3, 1) := by decide +kernel
theorem dX0_countStretches_23 : decode cX0_countStretches 23 = .ok (.i2l, 1) := by decide +kernel
theorem dX0_countStretches_24 : decode cX0_countStretches 24 = .ok (.iload_n 0, 1) := by decide +kernel
theorem dX0_countStretches_25 : decode cX0_countStretches 25 = .ok (.i2l, 1) := by decide +kernel
theorem dX0_countStretches_26 : decode cX0_countStretches 26 = .ok (.invokestatic 21, 3) := by decide +kernel
theorem dX0_countStretches_29 : decode cX0_countStretches 29 = .ok (.ifCond .eq 6, 3) := by decide +kernel
theorem dX0_countStretches_32 : decode cX0_countStretches 32 = .ok (.iinc 1 1, 3) := by decide +kernel
theorem dX0_countStretches_35 : decode cX0_countStretches 35 = .ok (.iinc 3 1, 3) := by decide +kernel
theorem dX0_countStretches_38 : decode cX0_countStretches 38 = .ok (.goto (-24), 3) := by decide +kernel
theorem dX0_countStretches_41 : decode cX0_countStretches 41 = .ok (.iinc 2 1, 3) := by decide +kernel
theorem dX0_countStretches_44 : decode cX0_countStretches 44 = .ok (.goto (-39), 3) := by decide +kernel
theorem dX0_countStretches_47 : decode cX0_countStretches 47 = .ok (.iload_n 1, 1) := by decide +kernel
theorem dX0_countStretches_48 : decode cX0_countStretches 48 = .ok (.ireturn, 1) := by decide +kernel
theorem dX1_holds_0 : decode cX1_holds 0 = .ok (.iconst 0, 1) := by decide +kernel
theorem dX1_holds_1 : decode cX1_holds 1 = .ok (.istore_n 1, 1) := by decide +kernel
theorem dX1_holds_2 : decode cX1_holds 2 = .ok (.iload_n 1, 1) := by decide +kernel
theorem dX1_holds_3 : decode cX1_holds 3 = .ok (.bipush 9, 2) := by decide +kernel
theorem dX1_holds_5 : decode cX1_holds 5 = .ok (.if_icmp .ge 52, 3) := by decide +kernel
theorem dX1_holds_8 : decode cX1_holds 8 = .ok (.aload_n 0, 1) := by decide +kernel
theorem dX1_holds_9 : decode cX1_holds 9 = .ok (.iload_n 1, 1) := by decide +kernel
theorem dX1_holds_10 : decode cX1_holds 10 = .ok (.invokevirtual 9, 3) := by decide +kernel
theorem dX1_holds_13 : decode cX1_holds 13 = .ok (.ifCond .ne 13, 3) := by decide +kernel
theorem dX1_holds_16 : decode cX1_holds 16 = .ok (.aload_n 0, 1) := by decide +kernel
theorem dX1_holds_17 : decode cX1_holds 17 = .ok (.iload_n 1, 1) := by decide +kernel
theorem dX1_holds_18 : decode cX1_holds 18 = .ok (.invokestatic 15, 3) := by decide +kernel
theorem dX1_holds_21 : decode cX1_holds 21 = .ok (.ifCond .ne 5, 3) := by decide +kernel
theorem dX1_holds_24 : decode cX1_holds 24 = .ok (.iconst 0, 1) := by decide +kernel
theorem dX1_holds_25 : decode cX1_holds 25 = .ok (.ireturn, 1) := by decide +kernel
theorem dX1_holds_26 : decode cX1_holds 26 = .ok (.iconst 0, 1) := by decide +kernel
theorem dX1_holds_27 : decode cX1_holds 27 = .ok (.istore_n 2, 1) := by decide +kernel
theorem dX1_holds_28 : decode cX1_holds 28 = .ok (.iload_n 2, 1) := by decide +kernel
theorem dX1_holds_29 : decode cX1_holds 29 = .ok (.bipush 9, 2) := by decide +kernel
theorem dX1_holds_31 : decode cX1_holds 31 = .ok (.if_icmp .ge 20, 3) := by decide +kernel
theorem dX1_holds_34 : decode cX1_holds 34 = .ok (.aload_n 0, 1) := by decide +kernel
theorem dX1_holds_35 : decode cX1_holds 35 = .ok (.iload_n 1, 1) := by decide +kernel
theorem dX1_holds_36 : decode cX1_holds 36 = .ok (.iload_n 2, 1) := by decide +kernel
theorem dX1_holds_37 : decode cX1_holds 37 = .ok (.invokestatic 21, 3) := by decide +kernel
theorem dX1_holds_40 : decode cX1_holds 40 = .ok (.ifCond .ne 5, 3) := by decide +kernel
theorem dX1_holds_43 : decode cX1_holds 43 = .ok (.iconst 0, 1) := by decide +kernel
theorem dX1_holds_44 : decode cX1_holds 44 = .ok (.ireturn, 1) := by decide +kernel
theorem dX1_holds_45 : decode cX1_holds 45 = .ok (.iinc 2 1, 3) := by decide +kernel
theorem dX1_holds_48 : decode cX1_holds 48 = .ok (.goto (-20), 3) := by decide +kernel
theorem dX1_holds_51 : decode cX1_holds 51 = .ok (.iinc 1 1, 3) := by decide +kernel
theorem dX1_holds_54 : decode cX1_holds 54 = .ok (.goto (-52), 3) := by decide +kernel
theorem dX1_holds_57 : decode cX1_holds 57 = .ok (.aload_n 0, 1) := by decide +kernel
theorem dX1_holds_58 : decode cX1_holds 58 = .ok (.invokestatic 25, 3) := by decide +kernel
theorem dX1_holds_61 : decode cX1_holds 61 = .ok (.ireturn, 1) := by decide +kernel
theorem dX1_isSoundAlone_0 : decode cX1_isSoundAlone 0 = .ok (.aload_n 0, 1) := by decide +kernel
theorem dX1_isSoundAlone_1 : decode cX1_isSoundAlone 1 = .ok (.iload_n 1, 1) := by decide +kernel
theorem dX1_isSoundAlone_2 : decode cX1_isSoundAlone 2 = .ok (.invokevirtual 29, 3) := by decide +kernel
theorem dX1_isSoundAlone_5 : decode cX1_isSoundAlone 5 = .ok (.istore_n 2, 1) := by decide +kernel
theorem dX1_isSoundAlone_6 : decode cX1_isSoundAlone 6 = .ok (.bipush (-2), 2) := by decide +kernel
theorem dX1_isSoundAlone_8 : decode cX1_isSoundAlone 8 = .ok (.istore_n 3, 1) := by decide +kernel
theorem dX1_isSoundAlone_9 : decode cX1_isSoundAlone 9 = .ok (.iload_n 3, 1) := by decide +kernel
theorem dX1_isSoundAlone_10 : decode cX1_isSoundAlone 10 = .ok (.bipush 26, 2) := by decide +kernel
theorem dX1_isSoundAlone_12 : decode cX1_isSoundAlone 12 = .ok (.if_icmp .gt 49, 3) := by decide +kernel
theorem dX1_isSoundAlone_15 : decode cX1_isSoundAlone 15 = .ok (.iload_n 3, 1) := by decide +kernel
theorem dX1_isSoundAlone_16 : decode cX1_isSoundAlone 16 = .ok (.iload_n 2, 1) := by decide +kernel
theorem dX1_isSoundAlone_17 : decode cX1_isSoundAlone 17 = .ok (.invokestatic 35, 3) := by decide +kernel
theorem dX1_isSoundAlone_20 : decode cX1_isSoundAlone 20 = .ok (.ifCond .ne 5, 3) := by decide +kernel
theorem dX1_isSoundAlone_23 : decode cX1_isSoundAlone 23 = .ok (.iconst 0, 1) := by decide +kernel
theorem dX1_isSoundAlone_24 : decode cX1_isSoundAlone 24 = .ok (.ireturn, 1) := by decide +kernel
theorem dX1_isSoundAlone_25 : decode cX1_isSoundAlone 25 = .ok (.bipush (-2), 2) := by decide +kernel
theorem dX1_isSoundAlone_27 : decode cX1_isSoundAlone 27 = .ok (.istore 4, 2) := by decide +kernel
theorem dX1_isSoundAlone_29 : decode cX1_isSoundAlone 29 = .ok (.iload 4, 2) := by decide +kernel
theorem dX1_isSoundAlone_31 : decode cX1_isSoundAlone 31 = .ok (.bipush 26, 2) := by decide +kernel
theorem dX1_isSoundAlone_33 : decode cX1_isSoundAlone 33 = .ok (.if_icmp .gt 22, 3) := by decide +kernel
theorem dX1_isSoundAlone_36 : decode cX1_isSoundAlone 36 = .ok (.aload_n 0, 1) := by decide +kernel
theorem dX1_isSoundAlone_37 : decode cX1_isSoundAlone 37 = .ok (.iload_n 1, 1) := by decide +kernel
theorem dX1_isSoundAlone_38 : decode cX1_isSoundAlone 38 = .ok (.iload_n 3, 1) := by decide +kernel
theorem dX1_isSoundAlone_39 : decode cX1_isSoundAlone 39 = .ok (.iload 4, 2) := by decide +kernel
theorem dX1_isSoundAlone_41 : decode cX1_isSoundAlone 41 = .ok (.invokestatic 39, 3) := by decide +kernel
theorem dX1_isSoundAlone_44 : decode cX1_isSoundAlone 44 = .ok (.ifCond .ne 5, 3) := by decide +kernel
theorem dX1_isSoundAlone_47 : decode cX1_isSoundAlone 47 = .ok (.iconst 0, 1) := by decide +kernel
theorem dX1_isSoundAlone_48 : decode cX1_isSoundAlone 48 = .ok (.ireturn, 1) := by decide +kernel
theorem dX1_isSoundAlone_49 : decode cX1_isSoundAlone 49 = .ok (.iinc 4 1, 3) := by decide +kernel
theorem dX1_isSoundAlone_52 : decode cX1_isSoundAlone 52 = .ok (.goto (-23), 3) := by decide +kernel
theorem dX1_isSoundAlone_55 : decode cX1_isSoundAlone 55 = .ok (.iinc 3 1, 3) := by decide +kernel
theorem dX1_isSoundAlone_58 : decode cX1_isSoundAlone 58 = .ok (.goto (-49), 3) := by decide +kernel
theorem dX1_isSoundAlone_61 : decode cX1_isSoundAlone 61 = .ok (.aload_n 0, 1) := by decide +kernel
theorem dX1_isSoundAlone_62 : decode cX1_isSoundAlone 62 = .ok (.iload_n 1, 1) := by decide +kernel
theorem dX1_isSoundAlone_63 : decode cX1_isSoundAlone 63 = .ok (.invokestatic 43, 3) := by decide +kernel
theorem dX1_isSoundAlone_66 : decode cX1_isSoundAlone 66 = .ok (.ireturn, 1) := by decide +kernel
theorem dX1_isSoundPlace_0 : decode cX1_isSoundPlace 0 = .ok (.iload_n 0, 1) := by decide +kernel
theorem dX1_isSoundPlace_1 : decode cX1_isSoundPlace 1 = .ok (.i2l, 1) := by decide +kernel
theorem dX1_isSoundPlace_2 : decode cX1_isSoundPlace 2 = .ok (.iload_n 1, 1) := by decide +kernel
theorem dX1_isSoundPlace_3 : decode cX1_isSoundPlace 3 = .ok (.i2l, 1) := by decide +kernel
theorem dX1_isSoundPlace_4 : decode cX1_isSoundPlace 4 = .ok (.invokestatic 46, 3) := by decide +kernel
theorem dX1_isSoundPlace_7 : decode cX1_isSoundPlace 7 = .ok (.istore_n 2, 1) := by decide +kernel
theorem dX1_isSoundPlace_8 : decode cX1_isSoundPlace 8 = .ok (.iload_n 0, 1) := by decide +kernel
theorem dX1_isSoundPlace_9 : decode cX1_isSoundPlace 9 = .ok (.invokestatic 50, 3) := by decide +kernel
theorem dX1_isSoundPlace_12 : decode cX1_isSoundPlace 12 = .ok (.lstore_n 3, 1) := by decide +kernel
theorem dX1_isSoundPlace_13 : decode cX1_isSoundPlace 13 = .ok (.iload_n 0, 1) := by decide +kernel
theorem dX1_isSoundPlace_14 : decode cX1_isSoundPlace 14 = .ok (.iconst 1, 1) := by decide +kernel
theorem dX1_isSoundPlace_15 : decode cX1_isSoundPlace 15 = .ok (.iadd, 1) := by decide +kernel
theorem dX1_isSoundPlace_16 : decode cX1_isSoundPlace 16 = .ok (.invokestatic 50, 3) := by decide +kernel
theorem dX1_isSoundPlace_19 : decode cX1_isSoundPlace 19 = .ok (.lstore 5, 2) := by decide +kernel
theorem dX1_isSoundPlace_21 : decode cX1_isSoundPlace 21 = .ok (.iload_n 1, 1) := by decide +kernel
theorem dX1_isSoundPlace_22 : decode cX1_isSoundPlace 22 = .ok (.invokestatic 50, 3) := by decide +kernel
theorem dX1_isSoundPlace_25 : decode cX1_isSoundPlace 25 = .ok (.lstore 7, 2) := by decide +kernel
theorem dX1_isSoundPlace_27 : decode cX1_isSoundPlace 27 = .ok (.iload_n 0, 1) := by decide +kernel
theorem dX1_isSoundPlace_28 : decode cX1_isSoundPlace 28 = .ok (.i2l, 1) := by decide +kernel
theorem dX1_isSoundPlace_29 : decode cX1_isSoundPlace 29 = .ok (.iload_n 0, 1) := by decide +kernel
theorem dX1_isSoundPlace_30 : decode cX1_isSoundPlace 30 = .ok (.iconst 1, 1) := by decide +kernel
theorem dX1_isSoundPlace_31 : decode cX1_isSoundPlace 31 = .ok (.iadd, 1) := by decide +kernel
theorem dX1_isSoundPlace_32 : decode cX1_isSoundPlace 32 = .ok (.i2l, 1) := by decide +kernel
theorem dX1_isSoundPlace_33 : decode cX1_isSoundPlace 33 = .ok (.iload_n 1, 1) := by decide +kernel
theorem dX1_isSoundPlace_34 : decode cX1_isSoundPlace 34 = .ok (.i2l, 1) := by decide +kernel
theorem dX1_isSoundPlace_35 : decode cX1_isSoundPlace 35 = .ok (.invokestatic 54, 3) := by decide +kernel
theorem dX1_isSoundPlace_38 : decode cX1_isSoundPlace 38 = .ok (.iload_n 2, 1) := by decide +kernel
theorem dX1_isSoundPlace_39 : decode cX1_isSoundPlace 39 = .ok (.if_icmp .ne 55, 3) := by decide +kernel
theorem dX1_isSoundPlace_42 : decode cX1_isSoundPlace 42 = .ok (.iload_n 0, 1) := by decide +kernel
theorem dX1_isSoundPlace_43 : decode cX1_isSoundPlace 43 = .ok (.i2l, 1) := by decide +kernel
theorem dX1_isSoundPlace_44 : decode cX1_isSoundPlace 44 = .ok (.lconst 1, 1) := by decide +kernel
theorem dX1_isSoundPlace_45 : decode cX1_isSoundPlace 45 = .ok (.iload_n 1, 1) := by decide +kernel
theorem dX1_isSoundPlace_46 : decode cX1_isSoundPlace 46 = .ok (.i2l, 1) := by decide +kernel
theorem dX1_isSoundPlace_47 : decode cX1_isSoundPlace 47 = .ok (.invokestatic 58, 3) := by decide +kernel
theorem dX1_isSoundPlace_50 : decode cX1_isSoundPlace 50 = .ok (.iload_n 2, 1) := by decide +kernel
theorem dX1_isSoundPlace_51 : decode cX1_isSoundPlace 51 = .ok (.if_icmp .ne 43, 3) := by decide +kernel
theorem dX1_isSoundPlace_54 : decode cX1_isSoundPlace 54 = .ok (.lload_n 3, 1) := by decide +kernel
theorem dX1_isSoundPlace_55 : decode cX1_isSoundPlace 55 = .ok (.lload 7, 2) := by decide +kernel
theorem dX1_isSoundPlace_57 : decode cX1_isSoundPlace 57 = .ok (.invokestatic 46, 3) := by decide +kernel
theorem dX1_isSoundPlace_60 : decode cX1_isSoundPlace 60 = .ok (.iload_n 2, 1) := by decide +kernel
theorem dX1_isSoundPlace_61 : decode cX1_isSoundPlace 61 = .ok (.if_icmp .ne 33, 3) := by decide +kernel
theorem dX1_isSoundPlace_64 : decode cX1_isSoundPlace 64 = .ok (.lload_n 3, 1) := by decide +kernel
theorem dX1_isSoundPlace_65 : decode cX1_isSoundPlace 65 = .ok (.lload 5, 2) := by decide +kernel
theorem dX1_isSoundPlace_67 : decode cX1_isSoundPlace 67 = .ok (.lload 7, 2) := by decide +kernel
theorem dX1_isSoundPlace_69 : decode cX1_isSoundPlace 69 = .ok (.invokestatic 54, 3) := by decide +kernel
theorem dX1_isSoundPlace_72 : decode cX1_isSoundPlace 72 = .ok (.iload_n 2, 1) := by decide +kernel
theorem dX1_isSoundPlace_73 : decode cX1_isSoundPlace 73 = .ok (.if_icmp .ne 21, 3) := by decide +kernel
theorem dX1_isSoundPlace_76 : decode cX1_isSoundPlace 76 = .ok (.lload_n 3, 1) := by decide +kernel
theorem dX1_isSoundPlace_77 : decode cX1_isSoundPlace 77 = .ok (.iconst 1, 1) := by decide +kernel
theorem dX1_isSoundPlace_78 : decode cX1_isSoundPlace 78 = .ok (.invokestatic 50, 3) := by decide +kernel
theorem dX1_isSoundPlace_81 : decode cX1_isSoundPlace 81 = .ok (.lload 7, 2) := by decide +kernel
theorem dX1_isSoundPlace_83 : decode cX1_isSoundPlace 83 = .ok (.invokestatic 58, 3) := by decide +kernel
theorem dX1_isSoundPlace_86 : decode cX1_isSoundPlace 86 = .ok (.iload_n 2, 1) := by decide +kernel
theorem dX1_isSoundPlace_87 : decode cX1_isSoundPlace 87 = .ok (.if_icmp .ne 7, 3) := by decide +kernel
theorem dX1_isSoundPlace_90 : decode cX1_isSoundPlace 90 = .ok (.iconst 1, 1) := by decide +kernel
theorem dX1_isSoundPlace_91 : decode cX1_isSoundPlace 91 = .ok (.goto 4, 3) := by decide +kernel
theorem dX1_isSoundPlace_94 : decode cX1_isSoundPlace 94 = .ok (.iconst 0, 1) := by decide +kernel
theorem dX1_isSoundPlace_95 : decode cX1_isSoundPlace 95 = .ok (.ireturn, 1) := by decide +kernel
theorem dX1_isSoundSpan_0 : decode cX1_isSoundSpan 0 = .ok (.aload_n 0, 1) := by decide +kernel
theorem dX1_isSoundSpan_1 : decode cX1_isSoundSpan 1 = .ok (.iload_n 1, 1) := by decide +kernel
theorem dX1_isSoundSpan_2 : decode cX1_isSoundSpan 2 = .ok (.invokevirtual 29, 3) := by decide +kernel
theorem dX1_isSoundSpan_5 : decode cX1_isSoundSpan 5 = .ok (.istore 4, 2) := by decide +kernel
theorem dX1_isSoundSpan_7 : decode cX1_isSoundSpan 7 = .ok (.iload_n 2, 1) := by decide +kernel
theorem dX1_isSoundSpan_8 : decode cX1_isSoundSpan 8 = .ok (.i2l, 1) := by decide +kernel
theorem dX1_isSoundSpan_9 : decode cX1_isSoundSpan 9 = .ok (.iload_n 3, 1) := by decide +kernel
theorem dX1_isSoundSpan_10 : decode cX1_isSoundSpan 10 = .ok (.i2l, 1) := by decide +kernel
theorem dX1_isSoundSpan_11 : decode cX1_isSoundSpan 11 = .ok (.iload 4, 2) := by decide +kernel
theorem dX1_isSoundSpan_13 : decode cX1_isSoundSpan 13 = .ok (.i2l, 1) := by decide +kernel
theorem dX1_isSoundSpan_14 : decode cX1_isSoundSpan 14 = .ok (.invokestatic 54, 3) := by decide +kernel
theorem dX1_isSoundSpan_17 : decode cX1_isSoundSpan 17 = .ok (.istore 5, 2) := by decide +kernel
theorem dX1_isSoundSpan_19 : decode cX1_isSoundSpan 19 = .ok (.iload_n 2, 1) := by decide +kernel
theorem dX1_isSoundSpan_20 : decode cX1_isSoundSpan 20 = .ok (.i2l, 1) := by decide +kernel
theorem dX1_isSoundSpan_21 : decode cX1_isSoundSpan 21 = .ok (.iload_n 3, 1) := by decide +kernel
theorem dX1_isSoundSpan_22 : decode cX1_isSoundSpan 22 = .ok (.iload_n 2, 1) := by decide +kernel
theorem dX1_isSoundSpan_23 : decode cX1_isSoundSpan 23 = .ok (.isub, 1) := by decide +kernel
theorem dX1_isSoundSpan_24 : decode cX1_isSoundSpan 24 = .ok (.i2l, 1) := by decide +kernel
theorem dX1_isSoundSpan_25 : decode cX1_isSoundSpan 25 = .ok (.iload 4, 2) := by decide +kernel
theorem dX1_isSoundSpan_27 : decode cX1_isSoundSpan 27 = .ok (.i2l, 1) := by decide +kernel
theorem dX1_isSoundSpan_28 : decode cX1_isSoundSpan 28 = .ok (.invokestatic 58, 3) := by decide +kernel
theorem dX1_isSoundSpan_31 : decode cX1_isSoundSpan 31 = .ok (.iload 5, 2) := by decide +kernel
theorem dX1_isSoundSpan_33 : decode cX1_isSoundSpan 33 = .ok (.if_icmp .eq 5, 3) := by decide +kernel
theorem dX1_isSoundSpan_36 : decode cX1_isSoundSpan 36 = .ok (.iconst 0, 1) := by decide +kernel
theorem dX1_isSoundSpan_37 : decode cX1_isSoundSpan 37 = .ok (.ireturn, 1) := by decide +kernel
theorem dX1_isSoundSpan_38 : decode cX1_isSoundSpan 38 = .ok (.iload 5, 2) := by decide +kernel
theorem dX1_isSoundSpan_40 : decode cX1_isSoundSpan 40 = .ok (.ifCond .eq 16, 3) := by decide +kernel
theorem dX1_isSoundSpan_43 : decode cX1_isSoundSpan 43 = .ok (.aload_n 0, 1) := by decide +kernel
theorem dX1_isSoundSpan_44 : decode cX1_isSoundSpan 44 = .ok (.iload_n 1, 1) := by decide +kernel
theorem dX1_isSoundSpan_45 : decode cX1_isSoundSpan 45 = .ok (.iload_n 2, 1) := by decide +kernel
theorem dX1_isSoundSpan_46 : decode cX1_isSoundSpan 46 = .ok (.iload_n 3, 1) := by decide +kernel
theorem dX1_isSoundSpan_47 : decode cX1_isSoundSpan 47 = .ok (.invokevirtual 61, 3) := by decide +kernel
theorem dX1_isSoundSpan_50 : decode cX1_isSoundSpan 50 = .ok (.iload_n 3, 1) := by decide +kernel
theorem dX1_isSoundSpan_51 : decode cX1_isSoundSpan 51 = .ok (.iload_n 2, 1) := by decide +kernel
theorem dX1_isSoundSpan_52 : decode cX1_isSoundSpan 52 = .ok (.isub, 1) := by decide +kernel
theorem dX1_isSoundSpan_53 : decode cX1_isSoundSpan 53 = .ok (.if_icmp .ne 7, 3) := by decide +kernel
theorem dX1_isSoundSpan_56 : decode cX1_isSoundSpan 56 = .ok (.iconst 1, 1) := by decide +kernel
theorem dX1_isSoundSpan_57 : decode cX1_isSoundSpan 57 = .ok (.goto 4, 3) := by decide +kernel
theorem dX1_isSoundSpan_60 : decode cX1_isSoundSpan 60 = .ok (.iconst 0, 1) := by decide +kernel
theorem dX1_isSoundSpan_61 : decode cX1_isSoundSpan 61 = .ok (.ireturn, 1) := by decide +kernel
theorem dX1_isBehindItsBeginnings_0 : decode cX1_isBehindItsBeginnings 0 = .ok (.aload_n 0, 1) := by decide +kernel
theorem dX1_isBehindItsBeginnings_1 : decode cX1_isBehindItsBeginnings 1 = .ok (.iload_n 1, 1) := by decide +kernel
theorem dX1_isBehindItsBeginnings_2 : decode cX1_isBehindItsBeginnings 2 = .ok (.invokevirtual 29, 3) := by decide +kernel
theorem dX1_isBehindItsBeginnings_5 : decode cX1_isBehindItsBeginnings 5 = .ok (.istore_n 2, 1) := by decide +kernel
theorem dX1_isBehindItsBeginnings_6 : decode cX1_isBehindItsBeginnings 6 = .ok (.iconst 0, 1) := by decide +kernel
theorem dX1_isBehindItsBeginnings_7 : decode cX1_isBehindItsBeginnings 7 = .ok (.istore_n 3, 1) := by decide +kernel
theorem dX1_isBehindItsBeginnings_8 : decode cX1_isBehindItsBeginnings 8 = .ok (.iload_n 3, 1) := by decide +kernel
theorem dX1_isBehindItsBeginnings_9 : decode cX1_isBehindItsBeginnings 9 = .ok (.iload_n 2, 1) := by decide +kernel
theorem dX1_isBehindItsBeginnings_10 : decode cX1_isBehindItsBeginnings 10 = .ok (.if_icmp .ge 24, 3) := by decide +kernel
theorem dX1_isBehindItsBeginnings_13 : decode cX1_isBehindItsBeginnings 13 = .ok (.aload_n 0, 1) := by decide +kernel
theorem dX1_isBehindItsBeginnings_14 : decode cX1_isBehindItsBeginnings 14 = .ok (.iconst 0, 1) := by decide +kernel
theorem dX1_isBehindItsBeginnings_15 : decode cX1_isBehindItsBeginnings 15 = .ok (.iload_n 1, 1) := by decide +kernel
theorem dX1_isBehindItsBeginnings_16 : decode cX1_isBehindItsBeginnings 16 = .ok (.iload_n 2, 1) := by decide +kernel
theorem dX1_isBehindItsBeginnings_17 : decode cX1_isBehindItsBeginnings 17 = .ok (.iload_n 1, 1) := by decide +kernel
theorem dX1_isBehindItsBeginnings_18 : decode cX1_isBehindItsBeginnings 18 = .ok (.iload_n 3, 1) := by decide +kernel
theorem dX1_isBehindItsBeginnings_19 : decode cX1_isBehindItsBeginnings 19 = .ok (.invokevirtual 65, 3) := by decide +kernel
theorem dX1_isBehindItsBeginnings_22 : decode cX1_isBehindItsBeginnings 22 = .ok (.iconst 1, 1) := by decide +kernel
theorem dX1_isBehindItsBeginnings_23 : decode cX1_isBehindItsBeginnings 23 = .ok (.if_icmp .eq 5, 3) := by decide +kernel
theorem dX1_isBehindItsBeginnings_26 : decode cX1_isBehindItsBeginnings 26 = .ok (.iconst 0, 1) := by decide +kernel
theorem dX1_isBehindItsBeginnings_27 : decode cX1_isBehindItsBeginnings 27 = .ok (.ireturn, 1) := by decide +kernel
theorem dX1_isBehindItsBeginnings_28 : decode cX1_isBehindItsBeginnings 28 = .ok (.iinc 3 1, 3) := by decide +kernel
theorem dX1_isBehindItsBeginnings_31 : decode cX1_isBehindItsBeginnings 31 = .ok (.goto (-23), 3) := by decide +kernel
theorem dX1_isBehindItsBeginnings_34 : decode cX1_isBehindItsBeginnings 34 = .ok (.iconst 1, 1) := by decide +kernel
theorem dX1_isBehindItsBeginnings_35 : decode cX1_isBehindItsBeginnings 35 = .ok (.ireturn, 1) := by decide +kernel
theorem dX1_isSoundPair_0 : decode cX1_isSoundPair 0 = .ok (.iconst 0, 1) := by decide +kernel
theorem dX1_isSoundPair_1 : decode cX1_isSoundPair 1 = .ok (.istore_n 3, 1) := by decide +kernel
theorem dX1_isSoundPair_2 : decode cX1_isSoundPair 2 = .ok (.iload_n 3, 1) := by decide +kernel
theorem dX1_isSoundPair_3 : decode cX1_isSoundPair 3 = .ok (.iconst 3, 1) := by decide +kernel
theorem dX1_isSoundPair_4 : decode cX1_isSoundPair 4 = .ok (.if_icmp .gt 29, 3) := by decide +kernel
theorem dX1_isSoundPair_7 : decode cX1_isSoundPair 7 = .ok (.aload_n 0, 1) := by decide +kernel
theorem dX1_isSoundPair_8 : decode cX1_isSoundPair 8 = .ok (.iload_n 1, 1) := by decide +kernel
theorem dX1_isSoundPair_9 : decode cX1_isSoundPair 9 = .ok (.iload_n 2, 1) := by decide +kernel
theorem dX1_isSoundPair_10 : decode cX1_isSoundPair 10 = .ok (.iload_n 3, 1) := by decide +kernel
theorem dX1_isSoundPair_11 : decode cX1_isSoundPair 11 = .ok (.invokevirtual 69, 3) := by decide +kernel
theorem dX1_isSoundPair_14 : decode cX1_isSoundPair 14 = .ok (.aload_n 0, 1) := by decide +kernel
theorem dX1_isSoundPair_15 : decode cX1_isSoundPair 15 = .ok (.iload_n 2, 1) := by decide +kernel
theorem dX1_isSoundPair_16 : decode cX1_isSoundPair 16 = .ok (.iload_n 1, 1) := by decide +kernel
theorem dX1_isSoundPair_17 : decode cX1_isSoundPair 17 = .ok (.iload_n 3, 1) := by decide +kernel
theorem dX1_isSoundPair_18 : decode cX1_isSoundPair 18 = .ok (.invokevirtual 69, 3) := by decide +kernel
theorem dX1_isSoundPair_21 : decode cX1_isSoundPair 21 = .ok (.ineg, 1) := by decide +kernel
theorem dX1_isSoundPair_22 : decode cX1_isSoundPair 22 = .ok (.if_icmp .eq 5, 3) := by decide +kernel
theorem dX1_isSoundPair_25 : decode cX1_isSoundPair 25 = .ok (.iconst 0, 1) := by decide +kernel
theorem dX1_isSoundPair_26 : decode cX1_isSoundPair 26 = .ok (.ireturn, 1) := by decide +kernel
theorem dX1_isSoundPair_27 : decode cX1_isSoundPair 27 = .ok (.iinc 3 1, 3) := by decide +kernel
theorem dX1_isSoundPair_30 : decode cX1_isSoundPair 30 = .ok (.goto (-28), 3) := by decide +kernel
theorem dX1_isSoundPair_33 : decode cX1_isSoundPair 33 = .ok (.aload_n 0, 1) := by decide +kernel
theorem dX1_isSoundPair_34 : decode cX1_isSoundPair 34 = .ok (.iload_n 1, 1) := by decide +kernel
theorem dX1_isSoundPair_35 : decode cX1_isSoundPair 35 = .ok (.invokevirtual 9, 3) := by decide +kernel
theorem dX1_isSoundPair_38 : decode cX1_isSoundPair 38 = .ok (.ifCond .ne 20, 3) := by decide +kernel
theorem dX1_isSoundPair_41 : decode cX1_isSoundPair 41 = .ok (.aload_n 0, 1) := by decide +kernel
theorem dX1_isSoundPair_42 : decode cX1_isSoundPair 42 = .ok (.iload_n 2, 1) := by decide +kernel
theorem dX1_isSoundPair_43 : decode cX1_isSoundPair 43 = .ok (.invokevirtual 9, 3) := by decide +kernel
theorem dX1_isSoundPair_46 : decode cX1_isSoundPair 46 = .ok (.ifCond .ne 12, 3) := by decide +kernel
theorem dX1_isSoundPair_49 : decode cX1_isSoundPair 49 = .ok (.aload_n 0, 1) := by decide +kernel
theorem dX1_isSoundPair_50 : decode cX1_isSoundPair 50 = .ok (.iload_n 1, 1) := by decide +kernel
theorem dX1_isSoundPair_51 : decode cX1_isSoundPair 51 = .ok (.iload_n 2, 1) := by decide +kernel
theorem dX1_isSoundPair_52 : decode cX1_isSoundPair 52 = .ok (.invokestatic 72, 3) := by decide +kernel
theorem dX1_isSoundPair_55 : decode cX1_isSoundPair 55 = .ok (.ifCond .eq 7, 3) := by decide +kernel
theorem dX1_isSoundPair_58 : decode cX1_isSoundPair 58 = .ok (.iconst 1, 1) := by decide +kernel
theorem dX1_isSoundPair_59 : decode cX1_isSoundPair 59 = .ok (.goto 4, 3) := by decide +kernel
theorem dX1_isSoundPair_62 : decode cX1_isSoundPair 62 = .ok (.iconst 0, 1) := by decide +kernel
theorem dX1_isSoundPair_63 : decode cX1_isSoundPair 63 = .ok (.ireturn, 1) := by decide +kernel
theorem dX1_isSoundPairThere_0 : decode cX1_isSoundPairThere 0 = .ok (.aload_n 0, 1) := by decide +kernel
theorem dX1_isSoundPairThere_1 : decode cX1_isSoundPairThere 1 = .ok (.iload_n 1, 1) := by decide +kernel
theorem dX1_isSoundPairThere_2 : decode cX1_isSoundPairThere 2 = .ok (.iload_n 2, 1) := by decide +kernel
theorem dX1_isSoundPairThere_3 : decode cX1_isSoundPairThere 3 = .ok (.invokevirtual 75, 3) := by decide +kernel
theorem dX1_isSoundPairThere_6 : decode cX1_isSoundPairThere 6 = .ok (.istore_n 3, 1) := by decide +kernel
theorem dX1_isSoundPairThere_7 : decode cX1_isSoundPairThere 7 = .ok (.aload_n 0, 1) := by decide +kernel
theorem dX1_isSoundPairThere_8 : decode cX1_isSoundPairThere 8 = .ok (.iload_n 1, 1) := by decide +kernel
theorem dX1_isSoundPairThere_9 : decode cX1_isSoundPairThere 9 = .ok (.iload_n 2, 1) := by decide +kernel
theorem dX1_isSoundPairThere_10 : decode cX1_isSoundPairThere 10 = .ok (.invokevirtual 79, 3) := by decide +kernel
theorem dX1_isSoundPairThere_13 : decode cX1_isSoundPairThere 13 = .ok (.istore 4, 2) := by decide +kernel
theorem dX1_isSoundPairThere_15 : decode cX1_isSoundPairThere 15 = .ok (.iload_n 3, 1) := by decide +kernel
theorem dX1_isSoundPairThere_16 : decode cX1_isSoundPairThere 16 = .ok (.aload_n 0, 1) := by decide +kernel
theorem dX1_isSoundPairThere_17 : decode cX1_isSoundPairThere 17 = .ok (.iload_n 2, 1) := by decide +kernel
theorem dX1_isSoundPairThere_18 : decode cX1_isSoundPairThere 18 = .ok (.iload_n 1, 1) := by decide +kernel
theorem dX1_isSoundPairThere_19 : decode cX1_isSoundPairThere 19 = .ok (.invokevirtual 75, 3) := by decide +kernel
theorem dX1_isSoundPairThere_22 : decode cX1_isSoundPairThere 22 = .ok (.ineg, 1) := by decide +kernel
theorem dX1_isSoundPairThere_23 : decode cX1_isSoundPairThere 23 = .ok (.if_icmp .ne 39, 3) := by decide +kernel
theorem dX1_isSoundPairThere_26 : decode cX1_isSoundPairThere 26 = .ok (.iload_n 3, 1) := by decide +kernel
theorem dX1_isSoundPairThere_27 : decode cX1_isSoundPairThere 27 = .ok (.ifCond .ne 7, 3) := by decide +kernel
theorem dX1_isSoundPairThere_30 : decode cX1_isSoundPairThere 30 = .ok (.iconst 1, 1) := by decide +kernel
theorem dX1_isSoundPairThere_31 : decode cX1_isSoundPairThere 31 = .ok (.goto 4, 3) := by decide +kernel
theorem dX1_isSoundPairThere_34 : decode cX1_isSoundPairThere 34 = .ok (.iconst 0, 1) := by decide +kernel
theorem dX1_isSoundPairThere_35 : decode cX1_isSoundPairThere 35 = .ok (.iload 4, 2) := by decide +kernel
theorem dX1_isSoundPairThere_37 : decode cX1_isSoundPairThere 37 = .ok (.if_icmp .ne 25, 3) := by decide +kernel
theorem dX1_isSoundPairThere_40 : decode cX1_isSoundPairThere 40 = .ok (.iload 4, 2) := by decide +kernel
theorem dX1_isSoundPairThere_42 : decode cX1_isSoundPairThere 42 = .ok (.ifCond .eq 16, 3) := by decide +kernel
theorem dX1_isSoundPairThere_45 : decode cX1_isSoundPairThere 45 = .ok (.aload_n 0, 1) := by decide +kernel
theorem dX1_isSoundPairThere_46 : decode cX1_isSoundPairThere 46 = .ok (.iload_n 1, 1) := by decide +kernel
theorem dX1_isSoundPairThere_47 : decode cX1_isSoundPairThere 47 = .ok (.invokevirtual 82, 3) := by decide +kernel
theorem dX1_isSoundPairThere_50 : decode cX1_isSoundPairThere 50 = .ok (.aload_n 0, 1) := by decide +kernel
theorem dX1_isSoundPairThere_51 : decode cX1_isSoundPairThere 51 = .ok (.iload_n 2, 1) := by decide +kernel
theorem dX1_isSoundPairThere_52 : decode cX1_isSoundPairThere 52 = .ok (.invokevirtual 82, 3) := by decide +kernel
theorem dX1_isSoundPairThere_55 : decode cX1_isSoundPairThere 55 = .ok (.if_icmp .ne 7, 3) := by decide +kernel
theorem dX1_isSoundPairThere_58 : decode cX1_isSoundPairThere 58 = .ok (.iconst 1, 1) := by decide +kernel
theorem dX1_isSoundPairThere_59 : decode cX1_isSoundPairThere 59 = .ok (.goto 4, 3) := by decide +kernel
theorem dX1_isSoundPairThere_62 : decode cX1_isSoundPairThere 62 = .ok (.iconst 0, 1) := by decide +kernel
theorem dX1_isSoundPairThere_63 : decode cX1_isSoundPairThere 63 = .ok (.ireturn, 1) := by decide +kernel
theorem dX1_areChainsSound_0 : decode cX1_areChainsSound 0 = .ok (.iconst 0, 1) := by decide +kernel
theorem dX1_areChainsSound_1 : decode cX1_areChainsSound 1 = .ok (.istore_n 1, 1) := by decide +kernel
theorem dX1_areChainsSound_2 : decode cX1_areChainsSound 2 = .ok (.iload_n 1, 1) := by decide +kernel
theorem dX1_areChainsSound_3 : decode cX1_areChainsSound 3 = .ok (.bipush 9, 2) := by decide +kernel
theorem dX1_areChainsSound_5 : decode cX1_areChainsSound 5 = .ok (.if_icmp .ge 69, 3) := by decide +kernel
theorem dX1_areChainsSound_8 : decode cX1_areChainsSound 8 = .ok (.iconst 0, 1) := by decide +kernel
theorem dX1_areChainsSound_9 : decode cX1_areChainsSound 9 = .ok (.istore_n 2, 1) := by decide +kernel
theorem dX1_areChainsSound_10 : decode cX1_areChainsSound 10 = .ok (.iload_n 2, 1) := by decide +kernel
theorem dX1_areChainsSound_11 : decode cX1_areChainsSound 11 = .ok (.bipush 9, 2) := by decide +kernel
theorem dX1_areChainsSound_13 : decode cX1_areChainsSound 13 = .ok (.if_icmp .ge 55, 3) := by decide +kernel
theorem dX1_areChainsSound_16 : decode cX1_areChainsSound 16 = .ok (.aload_n 0, 1) := by decide +kernel
theorem dX1_areChainsSound_17 : decode cX1_areChainsSound 17 = .ok (.iload_n 1, 1) := by decide +kernel
theorem dX1_areChainsSound_18 : decode cX1_areChainsSound 18 = .ok (.iload_n 2, 1) := by decide +kernel
theorem dX1_areChainsSound_19 : decode cX1_areChainsSound 19 = .ok (.invokestatic 85, 3) := by decide +kernel
theorem dX1_areChainsSound_22 : decode cX1_areChainsSound 22 = .ok (.ifCond .ne 6, 3) := by decide +kernel
theorem dX1_areChainsSound_25 : decode cX1_areChainsSound 25 = .ok (.goto 37, 3) := by decide +kernel
theorem dX1_areChainsSound_28 : decode cX1_areChainsSound 28 = .ok (.iconst 0, 1) := by decide +kernel
theorem dX1_areChainsSound_29 : decode cX1_areChainsSound 29 = .ok (.istore_n 3, 1) := by decide +kernel
theorem dX1_areChainsSound_30 : decode cX1_areChainsSound 30 = .ok (.iload_n 3, 1) := by decide +kernel
theorem dX1_areChainsSound_31 : decode cX1_areChainsSound 31 = .ok (.bipush 9, 2) := by decide +kernel
theorem dX1_areChainsSound_33 : decode cX1_areChainsSound 33 = .ok (.if_icmp .ge 29, 3) := by decide +kernel
theorem dX1_areChainsSound_36 : decode cX1_areChainsSound 36 = .ok (.aload_n 0, 1) := by decide +kernel
theorem dX1_areChainsSound_37 : decode cX1_areChainsSound 37 = .ok (.iload_n 2, 1) := by decide +kernel
theorem dX1_areChainsSound_38 : decode cX1_areChainsSound 38 = .ok (.iload_n 3, 1) := by decide +kernel
theorem dX1_areChainsSound_39 : decode cX1_areChainsSound 39 = .ok (.invokestatic 85, 3) := by decide +kernel
theorem dX1_areChainsSound_42 : decode cX1_areChainsSound 42 = .ok (.ifCond .eq 14, 3) := by decide +kernel
theorem dX1_areChainsSound_45 : decode cX1_areChainsSound 45 = .ok (.aload_n 0, 1) := by decide +kernel
theorem dX1_areChainsSound_46 : decode cX1_areChainsSound 46 = .ok (.iload_n 1, 1) := by decide +kernel
theorem dX1_areChainsSound_47 : decode cX1_areChainsSound 47 = .ok (.iload_n 3, 1) := by decide +kernel
theorem dX1_areChainsSound_48 : decode cX1_areChainsSound 48 = .ok (.invokestatic 85, 3) := by decide +kernel
theorem dX1_areChainsSound_51 : decode cX1_areChainsSound 51 = .ok (.ifCond .ne 5, 3) := by decide +kernel
theorem dX1_areChainsSound_54 : decode cX1_areChainsSound 54 = .ok (.iconst 0, 1) := by decide +kernel
theorem dX1_areChainsSound_55 : decode cX1_areChainsSound 55 = .ok (.ireturn, 1) := by decide +kernel
theorem dX1_areChainsSound_56 : decode cX1_areChainsSound 56 = .ok (.iinc 3 1, 3) := by decide +kernel
theorem dX1_areChainsSound_59 : decode cX1_areChainsSound 59 = .ok (.goto (-29), 3) := by decide +kernel
theorem dX1_areChainsSound_62 : decode cX1_areChainsSound 62 = .ok (.iinc 2 1, 3) := by decide +kernel
theorem dX1_areChainsSound_65 : decode cX1_areChainsSound 65 = .ok (.goto (-55), 3) := by decide +kernel
theorem dX1_areChainsSound_68 : decode cX1_areChainsSound 68 = .ok (.iinc 1 1, 3) := by decide +kernel
theorem dX1_areChainsSound_71 : decode cX1_areChainsSound 71 = .ok (.goto (-69), 3) := by decide +kernel
theorem dX1_areChainsSound_74 : decode cX1_areChainsSound 74 = .ok (.iconst 1, 1) := by decide +kernel
theorem dX1_areChainsSound_75 : decode cX1_areChainsSound 75 = .ok (.ireturn, 1) := by decide +kernel
theorem dX1_isThereAhead_0 : decode cX1_isThereAhead 0 = .ok (.aload_n 0, 1) := by decide +kernel
theorem dX1_isThereAhead_1 : decode cX1_isThereAhead 1 = .ok (.iload_n 1, 1) := by decide +kernel
theorem dX1_isThereAhead_2 : decode cX1_isThereAhead 2 = .ok (.invokevirtual 9, 3) := by decide +kernel
theorem dX1_isThereAhead_5 : decode cX1_isThereAhead 5 = .ok (.ifCond .ne 24, 3) := by decide +kernel
theorem dX1_isThereAhead_8 : decode cX1_isThereAhead 8 = .ok (.aload_n 0, 1) := by decide +kernel
theorem dX1_isThereAhead_9 : decode cX1_isThereAhead 9 = .ok (.iload_n 2, 1) := by decide +kernel
theorem dX1_isThereAhead_10 : decode cX1_isThereAhead 10 = .ok (.invokevirtual 9, 3) := by decide +kernel
theorem dX1_isThereAhead_13 : decode cX1_isThereAhead 13 = .ok (.ifCond .ne 16, 3) := by decide +kernel
theorem dX1_isThereAhead_16 : decode cX1_isThereAhead 16 = .ok (.aload_n 0, 1) := by decide +kernel
theorem dX1_isThereAhead_17 : decode cX1_isThereAhead 17 = .ok (.iload_n 1, 1) := by decide +kernel
theorem dX1_isThereAhead_18 : decode cX1_isThereAhead 18 = .ok (.iload_n 2, 1) := by decide +kernel
theorem dX1_isThereAhead_19 : decode cX1_isThereAhead 19 = .ok (.invokevirtual 75, 3) := by decide +kernel
theorem dX1_isThereAhead_22 : decode cX1_isThereAhead 22 = .ok (.ifCond .ge 7, 3) := by decide +kernel
theorem dX1_isThereAhead_25 : decode cX1_isThereAhead 25 = .ok (.iconst 1, 1) := by decide +kernel
theorem dX1_isThereAhead_26 : decode cX1_isThereAhead 26 = .ok (.goto 4, 3) := by decide +kernel
theorem dX1_isThereAhead_29 : decode cX1_isThereAhead 29 = .ok (.iconst 0, 1) := by decide +kernel
theorem dX1_isThereAhead_30 : decode cX1_isThereAhead 30 = .ok (.ireturn, 1) := by decide +kernel
theorem dX2_init_0 : decode cX2_init 0 = .ok (.aload_n 0, 1) := by decide +kernel
theorem dX2_init_1 : decode cX2_init 1 = .ok (.invokespecial 3, 3) := by decide +kernel
theorem dX2_init_4 : decode cX2_init 4 = .ok (.aload_n 0, 1) := by decide +kernel
theorem dX2_init_5 : decode cX2_init 5 = .ok (.bipush 9, 2) := by decide +kernel
theorem dX2_init_7 : decode cX2_init 7 = .ok (.newarray .int, 2) := by decide +kernel
theorem dX2_init_9 : decode cX2_init 9 = .ok (.putfield 9, 3) := by decide +kernel
theorem dX2_init_12 : decode cX2_init 12 = .ok (.aload_n 0, 1) := by decide +kernel
theorem dX2_init_13 : decode cX2_init 13 = .ok (.sipush 216, 3) := by decide +kernel
theorem dX2_init_16 : decode cX2_init 16 = .ok (.newarray .int, 2) := by decide +kernel
theorem dX2_init_18 : decode cX2_init 18 = .ok (.putfield 15, 3) := by decide +kernel
theorem dX2_init_21 : decode cX2_init 21 = .ok (.aload_n 0, 1) := by decide +kernel
theorem dX2_init_22 : decode cX2_init 22 = .ok (.bipush 24, 2) := by decide +kernel
theorem dX2_init_24 : decode cX2_init 24 = .ok (.newarray .int, 2) := by decide +kernel
theorem dX2_init_26 : decode cX2_init 26 = .ok (.putfield 18, 3) := by decide +kernel
theorem dX2_init_29 : decode cX2_init 29 = .ok (.return_, 1) := by decide +kernel
theorem dX2_isAway_0 : decode cX2_isAway 0 = .ok (.aload_n 0, 1) := by decide +kernel
theorem dX2_isAway_1 : decode cX2_isAway 1 = .ok (.getfield 9, 3) := by decide +kernel
theorem dX2_isAway_4 : decode cX2_isAway 4 = .ok (.iload_n 1, 1) := by decide +kernel
theorem dX2_isAway_5 : decode cX2_isAway 5 = .ok (.iaload, 1) := by decide +kernel
theorem dX2_isAway_6 : decode cX2_isAway 6 = .ok (.iconst (-1), 1) := by decide +kernel
theorem dX2_isAway_7 : decode cX2_isAway 7 = .ok (.if_icmp .ne 7, 3) := by decide +kernel
theorem dX2_isAway_10 : decode cX2_isAway 10 = .ok (.iconst 1, 1) := by decide +kernel
theorem dX2_isAway_11 : decode cX2_isAway 11 = .ok (.goto 4, 3) := by decide +kernel
theorem dX2_isAway_14 : decode cX2_isAway 14 = .ok (.iconst 0, 1) := by decide +kernel
theorem dX2_isAway_15 : decode cX2_isAway 15 = .ok (.ireturn, 1) := by decide +kernel
theorem dX2_size_0 : decode cX2_size 0 = .ok (.aload_n 0, 1) := by decide +kernel
theorem dX2_size_1 : decode cX2_size 1 = .ok (.getfield 9, 3) := by decide +kernel
theorem dX2_size_4 : decode cX2_size 4 = .ok (.iload_n 1, 1) := by decide +kernel
theorem dX2_size_5 : decode cX2_size 5 = .ok (.iaload, 1) := by decide +kernel
theorem dX2_size_6 : decode cX2_size 6 = .ok (.ireturn, 1) := by decide +kernel
theorem dX2_sign_0 : decode cX2_sign 0 = .ok (.aload_n 0, 1) := by decide +kernel
theorem dX2_sign_1 : decode cX2_sign 1 = .ok (.getfield 15, 3) := by decide +kernel
theorem dX2_sign_4 : decode cX2_sign 4 = .ok (.iload_n 1, 1) := by decide +kernel
theorem dX2_sign_5 : decode cX2_sign 5 = .ok (.bipush 24, 2) := by decide +kernel
theorem dX2_sign_7 : decode cX2_sign 7 = .ok (.imul, 1) := by decide +kernel
theorem dX2_sign_8 : decode cX2_sign 8 = .ok (.iload_n 2, 1) := by decide +kernel
theorem dX2_sign_9 : decode cX2_sign 9 = .ok (.iadd, 1) := by decide +kernel
theorem dX2_sign_10 : decode cX2_sign 10 = .ok (.iaload, 1) := by decide +kernel
theorem dX2_sign_11 : decode cX2_sign 11 = .ok (.ireturn, 1) := by decide +kernel
theorem dX2_change_0 : decode cX2_change 0 = .ok (.aload_n 0, 1) := by decide +kernel
theorem dX2_change_1 : decode cX2_change 1 = .ok (.getfield 15, 3) := by decide +kernel
theorem dX2_change_4 : decode cX2_change 4 = .ok (.iload_n 1, 1) := by decide +kernel
theorem dX2_change_5 : decode cX2_change 5 = .ok (.bipush 24, 2) := by decide +kernel
theorem dX2_change_7 : decode cX2_change 7 = .ok (.imul, 1) := by decide +kernel
theorem dX2_change_8 : decode cX2_change 8 = .ok (.iload_n 2, 1) := by decide +kernel
theorem dX2_change_9 : decode cX2_change 9 = .ok (.iadd, 1) := by decide +kernel
theorem dX2_change_10 : decode cX2_change 10 = .ok (.iload_n 3, 1) := by decide +kernel
theorem dX2_change_11 : decode cX2_change 11 = .ok (.iastore, 1) := by decide +kernel
theorem dX2_change_12 : decode cX2_change 12 = .ok (.return_, 1) := by decide +kernel
theorem dX2_clear_0 : decode cX2_clear 0 = .ok (.aload_n 0, 1) := by decide +kernel
theorem dX2_clear_1 : decode cX2_clear 1 = .ok (.getfield 9, 3) := by decide +kernel
theorem dX2_clear_4 : decode cX2_clear 4 = .ok (.iload_n 1, 1) := by decide +kernel
theorem dX2_clear_5 : decode cX2_clear 5 = .ok (.iconst 0, 1) := by decide +kernel
theorem dX2_clear_6 : decode cX2_clear 6 = .ok (.iastore, 1) := by decide +kernel
theorem dX2_clear_7 : decode cX2_clear 7 = .ok (.return_, 1) := by decide +kernel
theorem dX2_remove_0 : decode cX2_remove 0 = .ok (.aload_n 0, 1) := by decide +kernel
theorem dX2_remove_1 : decode cX2_remove 1 = .ok (.getfield 9, 3) := by decide +kernel
theorem dX2_remove_4 : decode cX2_remove 4 = .ok (.iload_n 1, 1) := by decide +kernel
theorem dX2_remove_5 : decode cX2_remove 5 = .ok (.iconst (-1), 1) := by decide +kernel
theorem dX2_remove_6 : decode cX2_remove 6 = .ok (.iastore, 1) := by decide +kernel
theorem dX2_remove_7 : decode cX2_remove 7 = .ok (.return_, 1) := by decide +kernel
theorem dX2_add_0 : decode cX2_add 0 = .ok (.aload_n 0, 1) := by decide +kernel
theorem dX2_add_1 : decode cX2_add 1 = .ok (.iload_n 1, 1) := by decide +kernel
theorem dX2_add_2 : decode cX2_add 2 = .ok (.aload_n 0, 1) := by decide +kernel
theorem dX2_add_3 : decode cX2_add 3 = .ok (.getfield 9, 3) := by decide +kernel
theorem dX2_add_6 : decode cX2_add 6 = .ok (.iload_n 1, 1) := by decide +kernel
theorem dX2_add_7 : decode cX2_add 7 = .ok (.iaload, 1) := by decide +kernel
theorem dX2_add_8 : decode cX2_add 8 = .ok (.iload_n 2, 1) := by decide +kernel
theorem dX2_add_9 : decode cX2_add 9 = .ok (.invokevirtual 21, 3) := by decide +kernel
theorem dX2_add_12 : decode cX2_add 12 = .ok (.aload_n 0, 1) := by decide +kernel
theorem dX2_add_13 : decode cX2_add 13 = .ok (.getfield 9, 3) := by decide +kernel
theorem dX2_add_16 : decode cX2_add 16 = .ok (.iload_n 1, 1) := by decide +kernel
theorem dX2_add_17 : decode cX2_add 17 = .ok (.dup2, 1) := by decide +kernel
theorem dX2_add_18 : decode cX2_add 18 = .ok (.iaload, 1) := by decide +kernel
theorem dX2_add_19 : decode cX2_add 19 = .ok (.iconst 1, 1) := by decide +kernel
theorem dX2_add_20 : decode cX2_add 20 = .ok (.iadd, 1) := by decide +kernel
theorem dX2_add_21 : decode cX2_add 21 = .ok (.iastore, 1) := by decide +kernel
theorem dX2_add_22 : decode cX2_add 22 = .ok (.return_, 1) := by decide +kernel
theorem dX2_become_0 : decode cX2_become 0 = .ok (.iconst 0, 1) := by decide +kernel
theorem dX2_become_1 : decode cX2_become 1 = .ok (.istore_n 3, 1) := by decide +kernel
theorem dX2_become_2 : decode cX2_become 2 = .ok (.iload_n 3, 1) := by decide +kernel
theorem dX2_become_3 : decode cX2_become 3 = .ok (.aload_n 0, 1) := by decide +kernel
theorem dX2_become_4 : decode cX2_become 4 = .ok (.getfield 9, 3) := by decide +kernel
theorem dX2_become_7 : decode cX2_become 7 = .ok (.iload_n 2, 1) := by decide +kernel
theorem dX2_become_8 : decode cX2_become 8 = .ok (.iaload, 1) := by decide +kernel
theorem dX2_become_9 : decode cX2_become 9 = .ok (.if_icmp .ge 21, 3) := by decide +kernel
theorem dX2_become_12 : decode cX2_become 12 = .ok (.aload_n 0, 1) := by decide +kernel
theorem dX2_become_13 : decode cX2_become 13 = .ok (.iload_n 1, 1) := by decide +kernel
theorem dX2_become_14 : decode cX2_become 14 = .ok (.iload_n 3, 1) := by decide +kernel
theorem dX2_become_15 : decode cX2_become 15 = .ok (.aload_n 0, 1) := by decide +kernel
theorem dX2_become_16 : decode cX2_become 16 = .ok (.iload_n 2, 1) := by decide +kernel
theorem dX2_become_17 : decode cX2_become 17 = .ok (.iload_n 3, 1) := by decide +kernel
theorem dX2_become_18 : decode cX2_become 18 = .ok (.invokevirtual 25, 3) := by decide +kernel
theorem dX2_become_21 : decode cX2_become 21 = .ok (.invokevirtual 21, 3) := by decide +kernel
theorem dX2_become_24 : decode cX2_become 24 = .ok (.iinc 3 1, 3) := by decide +kernel
theorem dX2_become_27 : decode cX2_become 27 = .ok (.goto (-25), 3) := by decide +kernel
theorem dX2_become_30 : decode cX2_become 30 = .ok (.aload_n 0, 1) := by decide +kernel
theorem dX2_become_31 : decode cX2_become 31 = .ok (.getfield 9, 3) := by decide +kernel
theorem dX2_become_34 : decode cX2_become 34 = .ok (.iload_n 1, 1) := by decide +kernel
theorem dX2_become_35 : decode cX2_become 35 = .ok (.aload_n 0, 1) := by decide +kernel
theorem dX2_become_36 : decode cX2_become 36 = .ok (.getfield 9, 3) := by decide +kernel
theorem dX2_become_39 : decode cX2_become 39 = .ok (.iload_n 2, 1) := by decide +kernel
theorem dX2_become_40 : decode cX2_become 40 = .ok (.iaload, 1) := by decide +kernel
theorem dX2_become_41 : decode cX2_become 41 = .ok (.iastore, 1) := by decide +kernel
theorem dX2_become_42 : decode cX2_become 42 = .ok (.return_, 1) := by decide +kernel
theorem dX2_keep_0 : decode cX2_keep 0 = .ok (.aload_n 0, 1) := by decide +kernel
theorem dX2_keep_1 : decode cX2_keep 1 = .ok (.iload_n 1, 1) := by decide +kernel
theorem dX2_keep_2 : decode cX2_keep 2 = .ok (.iload_n 2, 1) := by decide +kernel
theorem dX2_keep_3 : decode cX2_keep 3 = .ok (.iload_n 3, 1) := by decide +kernel
theorem dX2_keep_4 : decode cX2_keep 4 = .ok (.invokevirtual 29, 3) := by decide +kernel
theorem dX2_keep_7 : decode cX2_keep 7 = .ok (.istore 4, 2) := by decide +kernel
theorem dX2_keep_9 : decode cX2_keep 9 = .ok (.iconst 0, 1) := by decide +kernel
theorem dX2_keep_10 : decode cX2_keep 10 = .ok (.istore 5, 2) := by decide +kernel
theorem dX2_keep_12 : decode cX2_keep 12 = .ok (.iload 5, 2) := by decide +kernel
theorem dX2_keep_14 : decode cX2_keep 14 = .ok (.iload 4, 2) := by decide +kernel
theorem dX2_keep_16 : decode cX2_keep 16 = .ok (.if_icmp .ge 23, 3) := by decide +kernel
theorem dX2_keep_19 : decode cX2_keep 19 = .ok (.aload_n 0, 1) := by decide +kernel
theorem dX2_keep_20 : decode cX2_keep 20 = .ok (.iload_n 1, 1) := by decide +kernel
theorem dX2_keep_21 : decode cX2_keep 21 = .ok (.iload 5, 2) := by decide +kernel
theorem dX2_keep_23 : decode cX2_keep 23 = .ok (.aload_n 0, 1) := by decide +kernel
theorem dX2_keep_24 : decode cX2_keep 24 = .ok (.getfield 18, 3) := by decide +kernel
theorem dX2_keep_27 : decode cX2_keep 27 = .ok (.iload 5, 2) := by decide +kernel
theorem dX2_keep_29 : decode cX2_keep 29 = .ok (.iaload, 1) := by decide +kernel
theorem dX2_keep_30 : decode cX2_keep 30 = .ok (.invokevirtual 21, 3) := by decide +kernel
theorem dX2_keep_33 : decode cX2_keep 33 = .ok (.iinc 5 1, 3) := by decide +kernel
theorem dX2_keep_36 : decode cX2_keep 36 = .ok (.goto (-24), 3) := by decide +kernel
theorem dX2_keep_39 : decode cX2_keep 39 = .ok (.aload_n 0, 1) := by decide +kernel
theorem dX2_keep_40 : decode cX2_keep 40 = .ok (.getfield 9, 3) := by decide +kernel
theorem dX2_keep_43 : decode cX2_keep 43 = .ok (.iload_n 1, 1) := by decide +kernel
theorem dX2_keep_44 : decode cX2_keep 44 = .ok (.iload 4, 2) := by decide +kernel
theorem dX2_keep_46 : decode cX2_keep 46 = .ok (.iastore, 1) := by decide +kernel
theorem dX2_keep_47 : decode cX2_keep 47 = .ok (.iload 4, 2) := by decide +kernel
theorem dX2_keep_49 : decode cX2_keep 49 = .ok (.ireturn, 1) := by decide +kernel
theorem dX2_lay_0 : decode cX2_lay 0 = .ok (.iconst 0, 1) := by decide +kernel
theorem dX2_lay_1 : decode cX2_lay 1 = .ok (.istore 4, 2) := by decide +kernel
theorem dX2_lay_3 : decode cX2_lay 3 = .ok (.iload_n 2, 1) := by decide +kernel
theorem dX2_lay_4 : decode cX2_lay 4 = .ok (.istore 5, 2) := by decide +kernel
theorem dX2_lay_6 : decode cX2_lay 6 = .ok (.iload 5, 2) := by decide +kernel
theorem dX2_lay_8 : decode cX2_lay 8 = .ok (.iload_n 3, 1) := by decide +kernel
theorem dX2_lay_9 : decode cX2_lay 9 = .ok (.if_icmp .ge 26, 3) := by decide +kernel
theorem dX2_lay_12 : decode cX2_lay 12 = .ok (.aload_n 0, 1) := by decide +kernel
theorem dX2_lay_13 : decode cX2_lay 13 = .ok (.getfield 18, 3) := by decide +kernel
theorem dX2_lay_16 : decode cX2_lay 16 = .ok (.iload 4, 2) := by decide +kernel
theorem dX2_lay_18 : decode cX2_lay 18 = .ok (.aload_n 0, 1) := by decide +kernel
theorem dX2_lay_19 : decode cX2_lay 19 = .ok (.iload_n 1, 1) := by decide +kernel
theorem dX2_lay_20 : decode cX2_lay 20 = .ok (.iload 5, 2) := by decide +kernel
theorem dX2_lay_22 : decode cX2_lay 22 = .ok (.invokevirtual 25, 3) := by decide +kernel
theorem dX2_lay_25 : decode cX2_lay 25 = .ok (.iastore, 1) := by decide +kernel
theorem dX2_lay_26 : decode cX2_lay 26 = .ok (.iinc 4 1, 3) := by decide +kernel
theorem dX2_lay_29 : decode cX2_lay 29 = .ok (.iinc 5 1, 3) := by decide +kernel
theorem dX2_lay_32 : decode cX2_lay 32 = .ok (.goto (-26), 3) := by decide +kernel
theorem dX2_lay_35 : decode cX2_lay 35 = .ok (.iload 4, 2) := by decide +kernel
theorem dX2_lay_37 : decode cX2_lay 37 = .ok (.ireturn, 1) := by decide +kernel
theorem dX2_spell_0 : decode cX2_spell 0 = .ok (.aload_n 0, 1) := by decide +kernel
theorem dX2_spell_1 : decode cX2_spell 1 = .ok (.iload_n 1, 1) := by decide +kernel
theorem dX2_spell_2 : decode cX2_spell 2 = .ok (.iload_n 2, 1) := by decide +kernel
theorem dX2_spell_3 : decode cX2_spell 3 = .ok (.iload_n 3, 1) := by decide +kernel
theorem dX2_spell_4 : decode cX2_spell 4 = .ok (.invokevirtual 29, 3) := by decide +kernel
theorem dX2_spell_7 : decode cX2_spell 7 = .ok (.istore 4, 2) := by decide +kernel
theorem dX2_spell_9 : decode cX2_spell 9 = .ok (.new 33, 3) := by decide +kernel
theorem dX2_spell_12 : decode cX2_spell 12 = .ok (.dup, 1) := by decide +kernel
theorem dX2_spell_13 : decode cX2_spell 13 = .ok (.invokespecial 35, 3) := by decide +kernel
theorem dX2_spell_16 : decode cX2_spell 16 = .ok (.astore 5, 2) := by decide +kernel
theorem dX2_spell_18 : decode cX2_spell 18 = .ok (.iconst 0, 1) := by decide +kernel
theorem dX2_spell_19 : decode cX2_spell 19 = .ok (.istore 6, 2) := by decide +kernel
theorem dX2_spell_21 : decode cX2_spell 21 = .ok (.iload 6, 2) := by decide +kernel
theorem dX2_spell_23 : decode cX2_spell 23 = .ok (.iload 4, 2) := by decide +kernel
theorem dX2_spell_25 : decode cX2_spell 25 = .ok (.if_icmp .ge 27, 3) := by decide +kernel
theorem dX2_spell_28 : decode cX2_spell 28 = .ok (.aload 5, 2) := by decide +kernel
theorem dX2_spell_30 : decode cX2_spell 30 = .ok (.getstatic 36, 3) := by decide +kernel
theorem dX2_spell_33 : decode cX2_spell 33 = .ok (.aload_n 0, 1) := by decide +kernel
theorem dX2_spell_34 : decode cX2_spell 34 = .ok (.getfield 18, 3) := by decide +kernel
theorem dX2_spell_37 : decode cX2_spell 37 = .ok (.iload 6, 2) := by decide +kernel
theorem dX2_spell_39 : decode cX2_spell 39 = .ok (.iaload, 1) := by decide +kernel
theorem dX2_spell_40 : decode cX2_spell 40 = .ok (.iaload, 1) := by decide +kernel
theorem dX2_spell_41 : decode cX2_spell 41 = .ok (.i2c, 1) := by decide +kernel
theorem dX2_spell_42 : decode cX2_spell 42 = .ok (.invokevirtual 39, 3) := by decide +kernel
theorem dX2_spell_45 : decode cX2_spell 45 = .ok (.pop, 1) := by decide +kernel
theorem dX2_spell_46 : decode cX2_spell 46 = .ok (.iinc 6 1, 3) := by decide +kernel
theorem dX2_spell_49 : decode cX2_spell 49 = .ok (.goto (-28), 3) := by decide +kernel
theorem dX2_spell_52 : decode cX2_spell 52 = .ok (.aload 5, 2) := by decide +kernel
theorem dX2_spell_54 : decode cX2_spell 54 = .ok (.invokevirtual 43, 3) := by decide +kernel
theorem dX2_spell_57 : decode cX2_spell 57 = .ok (.areturn, 1) := by decide +kernel
theorem dX2_spellAll_0 : decode cX2_spellAll 0 = .ok (.aload_n 0, 1) := by decide +kernel
theorem dX2_spellAll_1 : decode cX2_spellAll 1 = .ok (.iload_n 1, 1) := by decide +kernel
theorem dX2_spellAll_2 : decode cX2_spellAll 2 = .ok (.iconst 0, 1) := by decide +kernel
theorem dX2_spellAll_3 : decode cX2_spellAll 3 = .ok (.aload_n 0, 1) := by decide +kernel
theorem dX2_spellAll_4 : decode cX2_spellAll 4 = .ok (.getfield 9, 3) := by decide +kernel
theorem dX2_spellAll_7 : decode cX2_spellAll 7 = .ok (.iload_n 1, 1) := by decide +kernel
theorem dX2_spellAll_8 : decode cX2_spellAll 8 = .ok (.iaload, 1) := by decide +kernel
theorem dX2_spellAll_9 : decode cX2_spellAll 9 = .ok (.invokevirtual 47, 3) := by decide +kernel
theorem dX2_spellAll_12 : decode cX2_spellAll 12 = .ok (.areturn, 1) := by decide +kernel
theorem dX2_compared_0 : decode cX2_compared 0 = .ok (.aload_n 0, 1) := by decide +kernel
theorem dX2_compared_1 : decode cX2_compared 1 = .ok (.iconst 0, 1) := by decide +kernel
theorem dX2_compared_2 : decode cX2_compared 2 = .ok (.iload_n 1, 1) := by decide +kernel
theorem dX2_compared_3 : decode cX2_compared 3 = .ok (.aload_n 0, 1) := by decide +kernel
theorem dX2_compared_4 : decode cX2_compared 4 = .ok (.getfield 9, 3) := by decide +kernel
theorem dX2_compared_7 : decode cX2_compared 7 = .ok (.iload_n 1, 1) := by decide +kernel
theorem dX2_compared_8 : decode cX2_compared 8 = .ok (.iaload, 1) := by decide +kernel
theorem dX2_compared_9 : decode cX2_compared 9 = .ok (.iload_n 2, 1) := by decide +kernel
theorem dX2_compared_10 : decode cX2_compared 10 = .ok (.aload_n 0, 1) := by decide +kernel
theorem dX2_compared_11 : decode cX2_compared 11 = .ok (.getfield 9, 3) := by decide +kernel
theorem dX2_compared_14 : decode cX2_compared 14 = .ok (.iload_n 2, 1) := by decide +kernel
theorem dX2_compared_15 : decode cX2_compared 15 = .ok (.iaload, 1) := by decide +kernel
theorem dX2_compared_16 : decode cX2_compared 16 = .ok (.invokevirtual 51, 3) := by decide +kernel
theorem dX2_compared_19 : decode cX2_compared 19 = .ok (.ireturn, 1) := by decide +kernel
theorem dX2_comparedFrom_0 : decode cX2_comparedFrom 0 = .ok (.iload_n 3, 1) := by decide +kernel
theorem dX2_comparedFrom_1 : decode cX2_comparedFrom 1 = .ok (.iload 5, 2) := by decide +kernel
theorem dX2_comparedFrom_3 : decode cX2_comparedFrom 3 = .ok (.invokestatic 55, 3) := by decide +kernel
theorem dX2_comparedFrom_6 : decode cX2_comparedFrom 6 = .ok (.istore 6, 2) := by decide +kernel
theorem dX2_comparedFrom_8 : decode cX2_comparedFrom 8 = .ok (.iload_n 1, 1) := by decide +kernel
theorem dX2_comparedFrom_9 : decode cX2_comparedFrom 9 = .ok (.istore 7, 2) := by decide +kernel
theorem dX2_comparedFrom_11 : decode cX2_comparedFrom 11 = .ok (.iload 7, 2) := by decide +kernel
theorem dX2_comparedFrom_13 : decode cX2_comparedFrom 13 = .ok (.iload 6, 2) := by decide +kernel
theorem dX2_comparedFrom_15 : decode cX2_comparedFrom 15 = .ok (.if_icmp .ge 37, 3) := by decide +kernel
theorem dX2_comparedFrom_18 : decode cX2_comparedFrom 18 = .ok (.aload_n 0, 1) := by decide +kernel
theorem dX2_comparedFrom_19 : decode cX2_comparedFrom 19 = .ok (.iload_n 2, 1) := by decide +kernel
theorem dX2_comparedFrom_20 : decode cX2_comparedFrom 20 = .ok (.iload 7, 2) := by decide +kernel
theorem dX2_comparedFrom_22 : decode cX2_comparedFrom 22 = .ok (.invokevirtual 25, 3) := by decide +kernel
theorem dX2_comparedFrom_25 : decode cX2_comparedFrom 25 = .ok (.aload_n 0, 1) := by decide +kernel
theorem dX2_comparedFrom_26 : decode cX2_comparedFrom 26 = .ok (.iload 4, 2) := by decide +kernel
theorem dX2_comparedFrom_28 : decode cX2_comparedFrom 28 = .ok (.iload 7, 2) := by decide +kernel
theorem dX2_comparedFrom_30 : decode cX2_comparedFrom 30 = .ok (.invokevirtual 25, 3) := by decide +kernel
theorem dX2_comparedFrom_33 : decode cX2_comparedFrom 33 = .ok (.invokestatic 60, 3) := by decide +kernel
theorem dX2_comparedFrom_36 : decode cX2_comparedFrom 36 = .ok (.istore 8, 2) := by decide +kernel
theorem dX2_comparedFrom_38 : decode cX2_comparedFrom 38 = .ok (.iload 8, 2) := by decide +kernel
theorem dX2_comparedFrom_40 : decode cX2_comparedFrom 40 = .ok (.ifCond .eq 6, 3) := by decide +kernel
theorem dX2_comparedFrom_43 : decode cX2_comparedFrom 43 = .ok (.iload 8, 2) := by decide +kernel
theorem dX2_comparedFrom_45 : decode cX2_comparedFrom 45 = .ok (.ireturn, 1) := by decide +kernel
theorem dX2_comparedFrom_46 : decode cX2_comparedFrom 46 = .ok (.iinc 7 1, 3) := by decide +kernel
theorem dX2_comparedFrom_49 : decode cX2_comparedFrom 49 = .ok (.goto (-38), 3) := by decide +kernel
theorem dX2_comparedFrom_52 : decode cX2_comparedFrom 52 = .ok (.iload_n 3, 1) := by decide +kernel
theorem dX2_comparedFrom_53 : decode cX2_comparedFrom 53 = .ok (.iload 5, 2) := by decide +kernel
theorem dX2_comparedFrom_55 : decode cX2_comparedFrom 55 = .ok (.invokestatic 60, 3) := by decide +kernel
theorem dX2_comparedFrom_58 : decode cX2_comparedFrom 58 = .ok (.ireturn, 1) := by decide +kernel
theorem dX2_ordered_0 : decode cX2_ordered 0 = .ok (.aload_n 0, 1) := by decide +kernel
theorem dX2_ordered_1 : decode cX2_ordered 1 = .ok (.iload_n 1, 1) := by decide +kernel
theorem dX2_ordered_2 : decode cX2_ordered 2 = .ok (.invokevirtual 63, 3) := by decide +kernel
theorem dX2_ordered_5 : decode cX2_ordered 5 = .ok (.ifCond .ne 11, 3) := by decide +kernel
theorem dX2_ordered_8 : decode cX2_ordered 8 = .ok (.aload_n 0, 1) := by decide +kernel
theorem dX2_ordered_9 : decode cX2_ordered 9 = .ok (.iload_n 2, 1) := by decide +kernel
theorem dX2_ordered_10 : decode cX2_ordered 10 = .ok (.invokevirtual 63, 3) := by decide +kernel
theorem dX2_ordered_13 : decode cX2_ordered 13 = .ok (.ifCond .eq 33, 3) := by decide +kernel
theorem dX2_ordered_16 : decode cX2_ordered 16 = .ok (.aload_n 0, 1) := by decide +kernel
theorem dX2_ordered_17 : decode cX2_ordered 17 = .ok (.iload_n 1, 1) := by decide +kernel
theorem dX2_ordered_18 : decode cX2_ordered 18 = .ok (.invokevirtual 63, 3) := by decide +kernel
theorem dX2_ordered_21 : decode cX2_ordered 21 = .ok (.ifCond .eq 7, 3) := by decide +kernel
theorem dX2_ordered_24 : decode cX2_ordered 24 = .ok (.iconst 0, 1) := by decide +kernel
theorem dX2_ordered_25 : decode cX2_ordered 25 = .ok (.goto 4, 3) := by decide +kernel
theorem dX2_ordered_28 : decode cX2_ordered 28 = .ok (.iconst 1, 1) := by decide +kernel
theorem dX2_ordered_29 : decode cX2_ordered 29 = .ok (.aload_n 0, 1) := by decide +kernel
theorem dX2_ordered_30 : decode cX2_ordered 30 = .ok (.iload_n 2, 1) := by decide +kernel
theorem dX2_ordered_31 : decode cX2_ordered 31 = .ok (.invokevirtual 63, 3) := by decide +kernel
theorem dX2_ordered_34 : decode cX2_ordered 34 = .ok (.ifCond .eq 7, 3) := by decide +kernel
theorem dX2_ordered_37 : decode cX2_ordered 37 = .ok (.iconst 0, 1) := by decide +kernel
theorem dX2_ordered_38 : decode cX2_ordered 38 = .ok (.goto 4, 3) := by decide +kernel
theorem dX2_ordered_41 : decode cX2_ordered 41 = .ok (.iconst 1, 1) := by decide +kernel
theorem dX2_ordered_42 : decode cX2_ordered 42 = .ok (.invokestatic 60, 3) := by decide +kernel
theorem dX2_ordered_45 : decode cX2_ordered 45 = .ok (.ireturn, 1) := by decide +kernel
theorem dX2_ordered_46 : decode cX2_ordered 46 = .ok (.iload_n 3, 1) := by decide +kernel
theorem dX2_ordered_47 : decode cX2_ordered 47 = .ok (.tableswitch 79 0 2 #[25, 32, 39], 25) := by decide +kernel
theorem dX2_ordered_72 : decode cX2_ordered 72 = .ok (.aload_n 0, 1) := by decide +kernel
theorem dX2_ordered_73 : decode cX2_ordered 73 = .ok (.iload_n 1, 1) := by decide +kernel
theorem dX2_ordered_74 : decode cX2_ordered 74 = .ok (.iload_n 2, 1) := by decide +kernel
theorem dX2_ordered_75 : decode cX2_ordered 75 = .ok (.invokevirtual 67, 3) := by decide +kernel
theorem dX2_ordered_78 : decode cX2_ordered 78 = .ok (.ireturn, 1) := by decide +kernel
theorem dX2_ordered_79 : decode cX2_ordered 79 = .ok (.aload_n 0, 1) := by decide +kernel
theorem dX2_ordered_80 : decode cX2_ordered 80 = .ok (.iload_n 2, 1) := by decide +kernel
theorem dX2_ordered_81 : decode cX2_ordered 81 = .ok (.iload_n 1, 1) := by decide +kernel
theorem dX2_ordered_82 : decode cX2_ordered 82 = .ok (.invokevirtual 67, 3) := by decide +kernel
theorem dX2_ordered_85 : decode cX2_ordered 85 = .ok (.ireturn, 1) := by decide +kernel
theorem dX2_ordered_86 : decode cX2_ordered 86 = .ok (.aload_n 0, 1) := by decide +kernel
theorem dX2_ordered_87 : decode cX2_ordered 87 = .ok (.getfield 9, 3) := by decide +kernel
theorem dX2_ordered_90 : decode cX2_ordered 90 = .ok (.iload_n 1, 1) := by decide +kernel
theorem dX2_ordered_91 : decode cX2_ordered 91 = .ok (.iaload, 1) := by decide +kernel
theorem dX2_ordered_92 : decode cX2_ordered 92 = .ok (.aload_n 0, 1) := by decide +kernel
theorem dX2_ordered_93 : decode cX2_ordered 93 = .ok (.getfield 9, 3) := by decide +kernel
theorem dX2_ordered_96 : decode cX2_ordered 96 = .ok (.iload_n 2, 1) := by decide +kernel
theorem dX2_ordered_97 : decode cX2_ordered 97 = .ok (.iaload, 1) := by decide +kernel
theorem dX2_ordered_98 : decode cX2_ordered 98 = .ok (.if_icmp .ne 12, 3) := by decide +kernel
theorem dX2_ordered_101 : decode cX2_ordered 101 = .ok (.aload_n 0, 1) := by decide +kernel
theorem dX2_ordered_102 : decode cX2_ordered 102 = .ok (.iload_n 1, 1) := by decide +kernel
theorem dX2_ordered_103 : decode cX2_ordered 103 = .ok (.iload_n 2, 1) := by decide +kernel
theorem dX2_ordered_104 : decode cX2_ordered 104 = .ok (.invokevirtual 67, 3) := by decide +kernel
theorem dX2_ordered_107 : decode cX2_ordered 107 = .ok (.goto 18, 3) := by decide +kernel
theorem dX2_ordered_110 : decode cX2_ordered 110 = .ok (.aload_n 0, 1) := by decide +kernel
theorem dX2_ordered_111 : decode cX2_ordered 111 = .ok (.getfield 9, 3) := by decide +kernel
theorem dX2_ordered_114 : decode cX2_ordered 114 = .ok (.iload_n 1, 1) := by decide +kernel
theorem dX2_ordered_115 : decode cX2_ordered 115 = .ok (.iaload, 1) := by decide +kernel
theorem dX2_ordered_116 : decode cX2_ordered 116 = .ok (.aload_n 0, 1) := by decide +kernel
theorem dX2_ordered_117 : decode cX2_ordered 117 = .ok (.getfield 9, 3) := by decide +kernel
theorem dX2_ordered_120 : decode cX2_ordered 120 = .ok (.iload_n 2, 1) := by decide +kernel
theorem dX2_ordered_121 : decode cX2_ordered 121 = .ok (.iaload, 1) := by decide +kernel
theorem dX2_ordered_122 : decode cX2_ordered 122 = .ok (.invokestatic 60, 3) := by decide +kernel
theorem dX2_ordered_125 : decode cX2_ordered 125 = .ok (.ireturn, 1) := by decide +kernel
theorem dX2_ordered_126 : decode cX2_ordered 126 = .ok (.aload_n 0, 1) := by decide +kernel
theorem dX2_ordered_127 : decode cX2_ordered 127 = .ok (.iload_n 1, 1) := by decide +kernel
theorem dX2_ordered_128 : decode cX2_ordered 128 = .ok (.bipush 6, 2) := by decide +kernel
theorem dX2_ordered_130 : decode cX2_ordered 130 = .ok (.invokevirtual 70, 3) := by decide +kernel
theorem dX2_ordered_133 : decode cX2_ordered 133 = .ok (.aload_n 0, 1) := by decide +kernel
theorem dX2_ordered_134 : decode cX2_ordered 134 = .ok (.iload_n 2, 1) := by decide +kernel
theorem dX2_ordered_135 : decode cX2_ordered 135 = .ok (.bipush 6, 2) := by decide +kernel
theorem dX2_ordered_137 : decode cX2_ordered 137 = .ok (.invokevirtual 70, 3) := by decide +kernel
theorem dX2_ordered_140 : decode cX2_ordered 140 = .ok (.invokestatic 60, 3) := by decide +kernel
theorem dX2_ordered_143 : decode cX2_ordered 143 = .ok (.ireturn, 1) := by decide +kernel
theorem dX2_haveSameSigns_0 : decode cX2_haveSameSigns 0 = .ok (.aload_n 0, 1) := by decide +kernel
theorem dX2_haveSameSigns_1 : decode cX2_haveSameSigns 1 = .ok (.getfield 9, 3) := by decide +kernel
theorem dX2_haveSameSigns_4 : decode cX2_haveSameSigns 4 = .ok (.iload_n 1, 1) := by decide +kernel
theorem dX2_haveSameSigns_5 : decode cX2_haveSameSigns 5 = .ok (.iaload, 1) := by decide +kernel
theorem dX2_haveSameSigns_6 : decode cX2_haveSameSigns 6 = .ok (.aload_n 0, 1) := by decide +kernel
theorem dX2_haveSameSigns_7 : decode cX2_haveSameSigns 7 = .ok (.getfield 9, 3) := by decide +kernel
theorem dX2_haveSameSigns_10 : decode cX2_haveSameSigns 10 = .ok (.iload_n 2, 1) := by decide +kernel
theorem dX2_haveSameSigns_11 : decode cX2_haveSameSigns 11 = .ok (.iaload, 1) := by decide +kernel
theorem dX2_haveSameSigns_12 : decode cX2_haveSameSigns 12 = .ok (.if_icmp .eq 5, 3) := by decide +kernel
theorem dX2_haveSameSigns_15 : decode cX2_haveSameSigns 15 = .ok (.iconst 0, 1) := by decide +kernel
theorem dX2_haveSameSigns_16 : decode cX2_haveSameSigns 16 = .ok (.ireturn, 1) := by decide +kernel
theorem dX2_haveSameSigns_17 : decode cX2_haveSameSigns 17 = .ok (.iconst 0, 1) := by decide +kernel
theorem dX2_haveSameSigns_18 : decode cX2_haveSameSigns 18 = .ok (.istore_n 3, 1) := by decide +kernel
theorem dX2_haveSameSigns_19 : decode cX2_haveSameSigns 19 = .ok (.iload_n 3, 1) := by decide +kernel
theorem dX2_haveSameSigns_20 : decode cX2_haveSameSigns 20 = .ok (.aload_n 0, 1) := by decide +kernel
theorem dX2_haveSameSigns_21 : decode cX2_haveSameSigns 21 = .ok (.getfield 9, 3) := by decide +kernel
theorem dX2_haveSameSigns_24 : decode cX2_haveSameSigns 24 = .ok (.iload_n 1, 1) := by decide +kernel
theorem dX2_haveSameSigns_25 : decode cX2_haveSameSigns 25 = .ok (.iaload, 1) := by decide +kernel
theorem dX2_haveSameSigns_26 : decode cX2_haveSameSigns 26 = .ok (.if_icmp .ge 26, 3) := by decide +kernel
theorem dX2_haveSameSigns_29 : decode cX2_haveSameSigns 29 = .ok (.aload_n 0, 1) := by decide +kernel
theorem dX2_haveSameSigns_30 : decode cX2_haveSameSigns 30 = .ok (.iload_n 1, 1) := by decide +kernel
theorem dX2_haveSameSigns_31 : decode cX2_haveSameSigns 31 = .ok (.iload_n 3, 1) := by decide +kernel
theorem dX2_haveSameSigns_32 : decode cX2_haveSameSigns 32 = .ok (.invokevirtual 25, 3) := by decide +kernel
theorem dX2_haveSameSigns_35 : decode cX2_haveSameSigns 35 = .ok (.aload_n 0, 1) := by decide +kernel
theorem dX2_haveSameSigns_36 : decode cX2_haveSameSigns 36 = .ok (.iload_n 2, 1) := by decide +kernel
theorem dX2_haveSameSigns_37 : decode cX2_haveSameSigns 37 = .ok (.iload_n 3, 1) := by decide +kernel
theorem dX2_haveSameSigns_38 : decode cX2_haveSameSigns 38 = .ok (.invokevirtual 25, 3) := by decide +kernel
theorem dX2_haveSameSigns_41 : decode cX2_haveSameSigns 41 = .ok (.if_icmp .eq 5, 3) := by decide +kernel
theorem dX2_haveSameSigns_44 : decode cX2_haveSameSigns 44 = .ok (.iconst 0, 1) := by decide +kernel
theorem dX2_haveSameSigns_45 : decode cX2_haveSameSigns 45 = .ok (.ireturn, 1) := by decide +kernel
theorem dX2_haveSameSigns_46 : decode cX2_haveSameSigns 46 = .ok (.iinc 3 1, 3) := by decide +kernel
theorem dX2_haveSameSigns_49 : decode cX2_haveSameSigns 49 = .ok (.goto (-30), 3) := by decide +kernel
theorem dX2_haveSameSigns_52 : decode cX2_haveSameSigns 52 = .ok (.iconst 1, 1) := by decide +kernel
theorem dX2_haveSameSigns_53 : decode cX2_haveSameSigns 53 = .ok (.ireturn, 1) := by decide +kernel
theorem dX2_codeOf_0 : decode cX2_codeOf 0 = .ok (.iconst 0, 1) := by decide +kernel
theorem dX2_codeOf_1 : decode cX2_codeOf 1 = .ok (.istore_n 2, 1) := by decide +kernel
theorem dX2_codeOf_2 : decode cX2_codeOf 2 = .ok (.iconst 0, 1) := by decide +kernel
theorem dX2_codeOf_3 : decode cX2_codeOf 3 = .ok (.istore_n 3, 1) := by decide +kernel
theorem dX2_codeOf_4 : decode cX2_codeOf 4 = .ok (.iload_n 3, 1) := by decide +kernel
theorem dX2_codeOf_5 : decode cX2_codeOf 5 = .ok (.aload_n 0, 1) := by decide +kernel
theorem dX2_codeOf_6 : decode cX2_codeOf 6 = .ok (.getfield 9, 3) := by decide +kernel
theorem dX2_codeOf_9 : decode cX2_codeOf 9 = .ok (.iload_n 1, 1) := by decide +kernel
theorem dX2_codeOf_10 : decode cX2_codeOf 10 = .ok (.iaload, 1) := by decide +kernel
theorem dX2_codeOf_11 : decode cX2_codeOf 11 = .ok (.if_icmp .ge 25, 3) := by decide +kernel
theorem dX2_codeOf_14 : decode cX2_codeOf 14 = .ok (.iload_n 2, 1) := by decide +kernel
theorem dX2_codeOf_15 : decode cX2_codeOf 15 = .ok (.bipush 31, 2) := by decide +kernel
theorem dX2_codeOf_17 : decode cX2_codeOf 17 = .ok (.imul, 1) := by decide +kernel
theorem dX2_codeOf_18 : decode cX2_codeOf 18 = .ok (.getstatic 36, 3) := by decide +kernel
theorem dX2_codeOf_21 : decode cX2_codeOf 21 = .ok (.aload_n 0, 1) := by decide +kernel
theorem dX2_codeOf_22 : decode cX2_codeOf 22 = .ok (.iload_n 1, 1) := by decide +kernel
theorem dX2_codeOf_23 : decode cX2_codeOf 23 = .ok (.iload_n 3, 1) := by decide +kernel
theorem dX2_codeOf_24 : decode cX2_codeOf 24 = .ok (.invokevirtual 25, 3) := by decide +kernel
theorem dX2_codeOf_27 : decode cX2_codeOf 27 = .ok (.iaload, 1) := by decide +kernel
theorem dX2_codeOf_28 : decode cX2_codeOf 28 = .ok (.iadd, 1) := by decide +kernel
theorem dX2_codeOf_29 : decode cX2_codeOf 29 = .ok (.istore_n 2, 1) := by decide +kernel
theorem dX2_codeOf_30 : decode cX2_codeOf 30 = .ok (.iinc 3 1, 3) := by decide +kernel
theorem dX2_codeOf_33 : decode cX2_codeOf 33 = .ok (.goto (-29), 3) := by decide +kernel
theorem dX2_codeOf_36 : decode cX2_codeOf 36 = .ok (.iload_n 2, 1) := by decide +kernel
theorem dX2_codeOf_37 : decode cX2_codeOf 37 = .ok (.ireturn, 1) := by decide +kernel
theorem dX2_codeOfThree_0 : decode cX2_codeOfThree 0 = .ok (.bipush 31, 2) := by decide +kernel
theorem dX2_codeOfThree_2 : decode cX2_codeOfThree 2 = .ok (.aload_n 0, 1) := by decide +kernel
theorem dX2_codeOfThree_3 : decode cX2_codeOfThree 3 = .ok (.iload_n 1, 1) := by decide +kernel
theorem dX2_codeOfThree_4 : decode cX2_codeOfThree 4 = .ok (.invokevirtual 73, 3) := by decide +kernel
theorem dX2_codeOfThree_7 : decode cX2_codeOfThree 7 = .ok (.iadd, 1) := by decide +kernel
theorem dX2_codeOfThree_8 : decode cX2_codeOfThree 8 = .ok (.istore 4, 2) := by decide +kernel
theorem dX2_codeOfThree_10 : decode cX2_codeOfThree 10 = .ok (.iload 4, 2) := by decide +kernel
theorem dX2_codeOfThree_12 : decode cX2_codeOfThree 12 = .ok (.bipush 31, 2) := by decide +kernel
theorem dX2_codeOfThree_14 : decode cX2_codeOfThree 14 = .ok (.imul, 1) := by decide +kernel
theorem dX2_codeOfThree_15 : decode cX2_codeOfThree 15 = .ok (.aload_n 0, 1) := by decide +kernel
theorem dX2_codeOfThree_16 : decode cX2_codeOfThree 16 = .ok (.iload_n 2, 1) := by decide +kernel
theorem dX2_codeOfThree_17 : decode cX2_codeOfThree 17 = .ok (.invokevirtual 73, 3) := by decide +kernel
theorem dX2_codeOfThree_20 : decode cX2_codeOfThree 20 = .ok (.iadd, 1) := by decide +kernel
theorem dX2_codeOfThree_21 : decode cX2_codeOfThree 21 = .ok (.istore 4, 2) := by decide +kernel
theorem dX2_codeOfThree_23 : decode cX2_codeOfThree 23 = .ok (.iload 4, 2) := by decide +kernel
theorem dX2_codeOfThree_25 : decode cX2_codeOfThree 25 = .ok (.bipush 31, 2) := by decide +kernel
theorem dX2_codeOfThree_27 : decode cX2_codeOfThree 27 = .ok (.imul, 1) := by decide +kernel
theorem dX2_codeOfThree_28 : decode cX2_codeOfThree 28 = .ok (.aload_n 0, 1) := by decide +kernel
theorem dX2_codeOfThree_29 : decode cX2_codeOfThree 29 = .ok (.iload_n 3, 1) := by decide +kernel
theorem dX2_codeOfThree_30 : decode cX2_codeOfThree 30 = .ok (.invokevirtual 73, 3) := by decide +kernel
theorem dX2_codeOfThree_33 : decode cX2_codeOfThree 33 = .ok (.iadd, 1) := by decide +kernel
theorem dX2_codeOfThree_34 : decode cX2_codeOfThree 34 = .ok (.ireturn, 1) := by decide +kernel
theorem dX2_countOf_0 : decode cX2_countOf 0 = .ok (.iconst 0, 1) := by decide +kernel
theorem dX2_countOf_1 : decode cX2_countOf 1 = .ok (.istore_n 3, 1) := by decide +kernel
theorem dX2_countOf_2 : decode cX2_countOf 2 = .ok (.iconst 0, 1) := by decide +kernel
theorem dX2_countOf_3 : decode cX2_countOf 3 = .ok (.istore 4, 2) := by decide +kernel
theorem dX2_countOf_5 : decode cX2_countOf 5 = .ok (.iload 4, 2) := by decide +kernel
theorem dX2_countOf_7 : decode cX2_countOf 7 = .ok (.aload_n 0, 1) := by decide +kernel
theorem dX2_countOf_8 : decode cX2_countOf 8 = .ok (.getfield 9, 3) := by decide +kernel
theorem dX2_countOf_11 : decode cX2_countOf 11 = .ok (.iload_n 1, 1) := by decide +kernel
theorem dX2_countOf_12 : decode cX2_countOf 12 = .ok (.iaload, 1) := by decide +kernel
theorem dX2_countOf_13 : decode cX2_countOf 13 = .ok (.if_icmp .ge 23, 3) := by decide +kernel
theorem dX2_countOf_16 : decode cX2_countOf 16 = .ok (.aload_n 0, 1) := by decide +kernel
theorem dX2_countOf_17 : decode cX2_countOf 17 = .ok (.iload_n 1, 1) := by decide +kernel
theorem dX2_countOf_18 : decode cX2_countOf 18 = .ok (.iload 4, 2) := by decide +kernel
theorem dX2_countOf_20 : decode cX2_countOf 20 = .ok (.invokevirtual 25, 3) := by decide +kernel
theorem dX2_countOf_23 : decode cX2_countOf 23 = .ok (.iload_n 2, 1) := by decide +kernel
theorem dX2_countOf_24 : decode cX2_countOf 24 = .ok (.if_icmp .ne 6, 3) := by decide +kernel
theorem dX2_countOf_27 : decode cX2_countOf 27 = .ok (.iinc 3 1, 3) := by decide +kernel
theorem dX2_countOf_30 : decode cX2_countOf 30 = .ok (.iinc 4 1, 3) := by decide +kernel
theorem dX2_countOf_33 : decode cX2_countOf 33 = .ok (.goto (-28), 3) := by decide +kernel
theorem dX2_countOf_36 : decode cX2_countOf 36 = .ok (.iload_n 3, 1) := by decide +kernel
theorem dX2_countOf_37 : decode cX2_countOf 37 = .ok (.ireturn, 1) := by decide +kernel
theorem dX2_countSigns_0 : decode cX2_countSigns 0 = .ok (.iconst 0, 1) := by decide +kernel
theorem dX2_countSigns_1 : decode cX2_countSigns 1 = .ok (.istore_n 1, 1) := by decide +kernel
theorem dX2_countSigns_2 : decode cX2_countSigns 2 = .ok (.iconst 0, 1) := by decide +kernel
theorem dX2_countSigns_3 : decode cX2_countSigns 3 = .ok (.istore_n 2, 1) := by decide +kernel
theorem dX2_countSigns_4 : decode cX2_countSigns 4 = .ok (.iload_n 2, 1) := by decide +kernel
theorem dX2_countSigns_5 : decode cX2_countSigns 5 = .ok (.bipush 9, 2) := by decide +kernel
theorem dX2_countSigns_7 : decode cX2_countSigns 7 = .ok (.if_icmp .ge 22, 3) := by decide +kernel
theorem dX2_countSigns_10 : decode cX2_countSigns 10 = .ok (.iload_n 1, 1) := by decide +kernel
theorem dX2_countSigns_11 : decode cX2_countSigns 11 = .ok (.aload_n 0, 1) := by decide +kernel
theorem dX2_countSigns_12 : decode cX2_countSigns 12 = .ok (.getfield 9, 3) := by decide +kernel
theorem dX2_countSigns_15 : decode cX2_countSigns 15 = .ok (.iload_n 2, 1) := by decide +kernel
theorem dX2_countSigns_16 : decode cX2_countSigns 16 = .ok (.iaload, 1) := by decide +kernel
theorem dX2_countSigns_17 : decode cX2_countSigns 17 = .ok (.iconst 0, 1) := by decide +kernel
theorem dX2_countSigns_18 : decode cX2_countSigns 18 = .ok (.invokestatic 77, 3) := by decide +kernel
theorem dX2_countSigns_21 : decode cX2_countSigns 21 = .ok (.iadd, 1) := by decide +kernel
theorem dX2_countSigns_22 : decode cX2_countSigns 22 = .ok (.istore_n 1, 1) := by decide +kernel
theorem dX2_countSigns_23 : decode cX2_countSigns 23 = .ok (.iinc 2 1, 3) := by decide +kernel
theorem dX2_countSigns_26 : decode cX2_countSigns 26 = .ok (.goto (-22), 3) := by decide +kernel
theorem dX2_countSigns_29 : decode cX2_countSigns 29 = .ok (.iload_n 1, 1) := by decide +kernel
theorem dX2_countSigns_30 : decode cX2_countSigns 30 = .ok (.ireturn, 1) := by decide +kernel
theorem dX2_countAway_0 : decode cX2_countAway 0 = .ok (.iconst 0, 1) := by decide +kernel
theorem dX2_countAway_1 : decode cX2_countAway 1 = .ok (.istore_n 1, 1) := by decide +kernel
theorem dX2_countAway_2 : decode cX2_countAway 2 = .ok (.iconst 0, 1) := by decide +kernel
theorem dX2_countAway_3 : decode cX2_countAway 3 = .ok (.istore_n 2, 1) := by decide +kernel
theorem dX2_countAway_4 : decode cX2_countAway 4 = .ok (.iload_n 2, 1) := by decide +kernel
theorem dX2_countAway_5 : decode cX2_countAway 5 = .ok (.bipush 9, 2) := by decide +kernel
theorem dX2_countAway_7 : decode cX2_countAway 7 = .ok (.if_icmp .ge 20, 3) := by decide +kernel
theorem dX2_countAway_10 : decode cX2_countAway 10 = .ok (.aload_n 0, 1) := by decide +kernel
theorem dX2_countAway_11 : decode cX2_countAway 11 = .ok (.iload_n 2, 1) := by decide +kernel
theorem dX2_countAway_12 : decode cX2_countAway 12 = .ok (.invokevirtual 63, 3) := by decide +kernel
theorem dX2_countAway_15 : decode cX2_countAway 15 = .ok (.ifCond .eq 6, 3) := by decide +kernel
theorem dX2_countAway_18 : decode cX2_countAway 18 = .ok (.iinc 1 1, 3) := by decide +kernel
theorem dX2_countAway_21 : decode cX2_countAway 21 = .ok (.iinc 2 1, 3) := by decide +kernel
theorem dX2_countAway_24 : decode cX2_countAway 24 = .ok (.goto (-20), 3) := by decide +kernel
theorem dX2_countAway_27 : decode cX2_countAway 27 = .ok (.iload_n 1, 1) := by decide +kernel
theorem dX2_countAway_28 : decode cX2_countAway 28 = .ok (.ireturn, 1) := by decide +kernel
theorem dX2_smaller_0 : decode cX2_smaller 0 = .ok (.iload_n 0, 1) := by decide +kernel
theorem dX2_smaller_1 : decode cX2_smaller 1 = .ok (.iload_n 1, 1) := by decide +kernel
theorem dX2_smaller_2 : decode cX2_smaller 2 = .ok (.if_icmp .ge 7, 3) := by decide +kernel
theorem dX2_smaller_5 : decode cX2_smaller 5 = .ok (.iconst (-1), 1) := by decide +kernel
theorem dX2_smaller_6 : decode cX2_smaller 6 = .ok (.goto 13, 3) := by decide +kernel
theorem dX2_smaller_9 : decode cX2_smaller 9 = .ok (.iload_n 0, 1) := by decide +kernel
theorem dX2_smaller_10 : decode cX2_smaller 10 = .ok (.iload_n 1, 1) := by decide +kernel
theorem dX2_smaller_11 : decode cX2_smaller 11 = .ok (.if_icmp .le 7, 3) := by decide +kernel
theorem dX2_smaller_14 : decode cX2_smaller 14 = .ok (.iconst 1, 1) := by decide +kernel
theorem dX2_smaller_15 : decode cX2_smaller 15 = .ok (.goto 4, 3) := by decide +kernel
theorem dX2_smaller_18 : decode cX2_smaller 18 = .ok (.iconst 0, 1) := by decide +kernel
theorem dX2_smaller_19 : decode cX2_smaller 19 = .ok (.ireturn, 1) := by decide +kernel
theorem dX3_init_0 : decode cX3_init 0 = .ok (.aload_n 0, 1) := by decide +kernel
theorem dX3_init_1 : decode cX3_init 1 = .ok (.invokespecial 1, 3) := by decide +kernel
theorem dX3_init_4 : decode cX3_init 4 = .ok (.aload_n 0, 1) := by decide +kernel
theorem dX3_init_5 : decode cX3_init 5 = .ok (.new 7, 3) := by decide +kernel
theorem dX3_init_8 : decode cX3_init 8 = .ok (.dup, 1) := by decide +kernel
theorem dX3_init_9 : decode cX3_init 9 = .ok (.invokespecial 9, 3) := by decide +kernel
theorem dX3_init_12 : decode cX3_init 12 = .ok (.putfield 10, 3) := by decide +kernel
theorem dX3_init_15 : decode cX3_init 15 = .ok (.return_, 1) := by decide +kernel
theorem dX3_write_0 : decode cX3_write 0 = .ok (.iload_n 1, 1) := by decide +kernel
theorem dX3_write_1 : decode cX3_write 1 = .ok (.invokestatic 16, 3) := by decide +kernel
theorem dX3_write_4 : decode cX3_write 4 = .ok (.iload_n 2, 1) := by decide +kernel
theorem dX3_write_5 : decode cX3_write 5 = .ok (.invokestatic 20, 3) := by decide +kernel
theorem dX3_write_8 : decode cX3_write 8 = .ok (.iload_n 3, 1) := by decide +kernel
theorem dX3_write_9 : decode cX3_write 9 = .ok (.invokestatic 20, 3) := by decide +kernel
theorem dX3_write_12 : decode cX3_write 12 = .ok (.iload 4, 2) := by decide +kernel
theorem dX3_write_14 : decode cX3_write 14 = .ok (.invokestatic 20, 3) := by decide +kernel
theorem dX3_write_17 : decode cX3_write 17 = .ok (.aload_n 0, 1) := by decide +kernel
theorem dX3_write_18 : decode cX3_write 18 = .ok (.iload_n 1, 1) := by decide +kernel
theorem dX3_write_19 : decode cX3_write 19 = .ok (.invokevirtual 23, 3) := by decide +kernel
theorem dX3_write_22 : decode cX3_write 22 = .ok (.iload_n 2, 1) := by decide +kernel
theorem dX3_write_23 : decode cX3_write 23 = .ok (.iconst (-1), 1) := by decide +kernel
theorem dX3_write_24 : decode cX3_write 24 = .ok (.if_icmp .ne 7, 3) := by decide +kernel
theorem dX3_write_27 : decode cX3_write 27 = .ok (.iconst 0, 1) := by decide +kernel
theorem dX3_write_28 : decode cX3_write 28 = .ok (.goto 23, 3) := by decide +kernel
theorem dX3_write_31 : decode cX3_write 31 = .ok (.iload_n 3, 1) := by decide +kernel
theorem dX3_write_32 : decode cX3_write 32 = .ok (.iconst (-1), 1) := by decide +kernel
theorem dX3_write_33 : decode cX3_write 33 = .ok (.if_icmp .ne 7, 3) := by decide +kernel
theorem dX3_write_36 : decode cX3_write 36 = .ok (.iconst 1, 1) := by decide +kernel
theorem dX3_write_37 : decode cX3_write 37 = .ok (.goto 14, 3) := by decide +kernel
theorem dX3_write_40 : decode cX3_write 40 = .ok (.iload 4, 2) := by decide +kernel
theorem dX3_write_42 : decode cX3_write 42 = .ok (.iconst (-1), 1) := by decide +kernel
theorem dX3_write_43 : decode cX3_write 43 = .ok (.if_icmp .ne 7, 3) := by decide +kernel
theorem dX3_write_46 : decode cX3_write 46 = .ok (.iconst 2, 1) := by decide +kernel
theorem dX3_write_47 : decode cX3_write 47 = .ok (.goto 4, 3) := by decide +kernel
theorem dX3_write_50 : decode cX3_write 50 = .ok (.iconst 3, 1) := by decide +kernel
theorem dX3_write_51 : decode cX3_write 51 = .ok (.istore 5, 2) := by decide +kernel
theorem dX3_write_53 : decode cX3_write 53 = .ok (.aload_n 0, 1) := by decide +kernel
theorem dX3_write_54 : decode cX3_write 54 = .ok (.iload_n 1, 1) := by decide +kernel
theorem dX3_write_55 : decode cX3_write 55 = .ok (.iload 5, 2) := by decide +kernel
theorem dX3_write_57 : decode cX3_write 57 = .ok (.invokevirtual 26, 3) := by decide +kernel
theorem dX3_write_60 : decode cX3_write 60 = .ok (.iload 5, 2) := by decide +kernel
theorem dX3_write_62 : decode cX3_write 62 = .ok (.ifCond .le 12, 3) := by decide +kernel
theorem dX3_write_65 : decode cX3_write 65 = .ok (.aload_n 0, 1) := by decide +kernel
theorem dX3_write_66 : decode cX3_write 66 = .ok (.getfield 10, 3) := by decide +kernel
theorem dX3_write_69 : decode cX3_write 69 = .ok (.iload_n 1, 1) := by decide +kernel
theorem dX3_write_70 : decode cX3_write 70 = .ok (.iload_n 2, 1) := by decide +kernel
theorem dX3_write_71 : decode cX3_write 71 = .ok (.invokevirtual 30, 3) := by decide +kernel
theorem dX3_write_74 : decode cX3_write 74 = .ok (.iload 5, 2) := by decide +kernel
theorem dX3_write_76 : decode cX3_write 76 = .ok (.iconst 1, 1) := by decide +kernel
theorem dX3_write_77 : decode cX3_write 77 = .ok (.if_icmp .le 12, 3) := by decide +kernel
theorem dX3_write_80 : decode cX3_write 80 = .ok (.aload_n 0, 1) := by decide +kernel
theorem dX3_write_81 : decode cX3_write 81 = .ok (.getfield 10, 3) := by decide +kernel
theorem dX3_write_84 : decode cX3_write 84 = .ok (.iload_n 1, 1) := by decide +kernel
theorem dX3_write_85 : decode cX3_write 85 = .ok (.iload_n 3, 1) := by decide +kernel
theorem dX3_write_86 : decode cX3_write 86 = .ok (.invokevirtual 30, 3) := by decide +kernel
theorem dX3_write_89 : decode cX3_write 89 = .ok (.iload 5, 2) := by decide +kernel
theorem dX3_write_91 : decode cX3_write 91 = .ok (.iconst 2, 1) := by decide +kernel
theorem dX3_write_92 : decode cX3_write 92 = .ok (.if_icmp .le 13, 3) := by decide +kernel
theorem dX3_write_95 : decode cX3_write 95 = .ok (.aload_n 0, 1) := by decide +kernel
theorem dX3_write_96 : decode cX3_write 96 = .ok (.getfield 10, 3) := by decide +kernel
theorem dX3_write_99 : decode cX3_write 99 = .ok (.iload_n 1, 1) := by decide +kernel
theorem dX3_write_100 : decode cX3_write 100 = .ok (.iload 4, 2) := by decide +kernel
theorem dX3_write_102 : decode cX3_write 102 = .ok (.invokevirtual 30, 3) := by decide +kernel
theorem dX3_write_105 : decode cX3_write 105 = .ok (.aload_n 0, 1) := by decide +kernel
theorem dX3_write_106 : decode cX3_write 106 = .ok (.getfield 10, 3) := by decide +kernel
theorem dX3_write_109 : decode cX3_write 109 = .ok (.iload_n 1, 1) := by decide +kernel
theorem dX3_write_110 : decode cX3_write 110 = .ok (.invokevirtual 33, 3) := by decide +kernel
theorem dX3_write_113 : decode cX3_write 113 = .ok (.ireturn, 1) := by decide +kernel
theorem dX3_fill_0 : decode cX3_fill 0 = .ok (.iload_n 1, 1) := by decide +kernel
theorem dX3_fill_1 : decode cX3_fill 1 = .ok (.invokestatic 16, 3) := by decide +kernel
theorem dX3_fill_4 : decode cX3_fill 4 = .ok (.iload_n 2, 1) := by decide +kernel
theorem dX3_fill_5 : decode cX3_fill 5 = .ok (.invokestatic 37, 3) := by decide +kernel
theorem dX3_fill_8 : decode cX3_fill 8 = .ok (.iload_n 3, 1) := by decide +kernel
theorem dX3_fill_9 : decode cX3_fill 9 = .ok (.bipush 24, 2) := by decide +kernel
theorem dX3_fill_11 : decode cX3_fill 11 = .ok (.invokestatic 40, 3) := by decide +kernel
theorem dX3_fill_14 : decode cX3_fill 14 = .ok (.aload_n 0, 1) := by decide +kernel
theorem dX3_fill_15 : decode cX3_fill 15 = .ok (.getfield 10, 3) := by decide +kernel
theorem dX3_fill_18 : decode cX3_fill 18 = .ok (.iload_n 1, 1) := by decide +kernel
theorem dX3_fill_19 : decode cX3_fill 19 = .ok (.invokevirtual 33, 3) := by decide +kernel
theorem dX3_fill_22 : decode cX3_fill 22 = .ok (.istore 4, 2) := by decide +kernel
theorem dX3_fill_24 : decode cX3_fill 24 = .ok (.aload_n 0, 1) := by decide +kernel
theorem dX3_fill_25 : decode cX3_fill 25 = .ok (.getfield 10, 3) := by decide +kernel
theorem dX3_fill_28 : decode cX3_fill 28 = .ok (.iload_n 1, 1) := by decide +kernel
theorem dX3_fill_29 : decode cX3_fill 29 = .ok (.invokevirtual 43, 3) := by decide +kernel
theorem dX3_fill_32 : decode cX3_fill 32 = .ok (.iconst 0, 1) := by decide +kernel
theorem dX3_fill_33 : decode cX3_fill 33 = .ok (.istore 5, 2) := by decide +kernel
theorem dX3_fill_35 : decode cX3_fill 35 = .ok (.iload 5, 2) := by decide +kernel
theorem dX3_fill_37 : decode cX3_fill 37 = .ok (.iload_n 3, 1) := by decide +kernel
theorem dX3_fill_38 : decode cX3_fill 38 = .ok (.if_icmp .ge 18, 3) := by decide +kernel
theorem dX3_fill_41 : decode cX3_fill 41 = .ok (.aload_n 0, 1) := by decide +kernel
theorem dX3_fill_42 : decode cX3_fill 42 = .ok (.getfield 10, 3) := by decide +kernel
theorem dX3_fill_45 : decode cX3_fill 45 = .ok (.iload_n 1, 1) := by decide +kernel
theorem dX3_fill_46 : decode cX3_fill 46 = .ok (.iload_n 2, 1) := by decide +kernel
theorem dX3_fill_47 : decode cX3_fill 47 = .ok (.invokevirtual 30, 3) := by decide +kernel
theorem dX3_fill_50 : decode cX3_fill 50 = .ok (.iinc 5 1, 3) := by decide +kernel
theorem dX3_fill_53 : decode cX3_fill 53 = .ok (.goto (-18), 3) := by decide +kernel
theorem dX3_fill_56 : decode cX3_fill 56 = .ok (.iload 4, 2) := by decide +kernel
theorem dX3_fill_58 : decode cX3_fill 58 = .ok (.ireturn, 1) := by decide +kernel
theorem dX3_cut_0 : decode cX3_cut 0 = .ok (.iload_n 1, 1) := by decide +kernel
theorem dX3_cut_1 : decode cX3_cut 1 = .ok (.invokestatic 16, 3) := by decide +kernel
theorem dX3_cut_4 : decode cX3_cut 4 = .ok (.aload_n 0, 1) := by decide +kernel
theorem dX3_cut_5 : decode cX3_cut 5 = .ok (.iload_n 1, 1) := by decide +kernel
theorem dX3_cut_6 : decode cX3_cut 6 = .ok (.invokevirtual 23, 3) := by decide +kernel
theorem dX3_cut_9 : decode cX3_cut 9 = .ok (.iload_n 2, 1) := by decide +kernel
theorem dX3_cut_10 : decode cX3_cut 10 = .ok (.i2l, 1) := by decide +kernel
theorem dX3_cut_11 : decode cX3_cut 11 = .ok (.iload_n 3, 1) := by decide +kernel
theorem dX3_cut_12 : decode cX3_cut 12 = .ok (.i2l, 1) := by decide +kernel
theorem dX3_cut_13 : decode cX3_cut 13 = .ok (.aload_n 0, 1) := by decide +kernel
theorem dX3_cut_14 : decode cX3_cut 14 = .ok (.getfield 10, 3) := by decide +kernel
theorem dX3_cut_17 : decode cX3_cut 17 = .ok (.iload_n 1, 1) := by decide +kernel
theorem dX3_cut_18 : decode cX3_cut 18 = .ok (.invokevirtual 33, 3) := by decide +kernel
theorem dX3_cut_21 : decode cX3_cut 21 = .ok (.i2l, 1) := by decide +kernel
theorem dX3_cut_22 : decode cX3_cut 22 = .ok (.invokestatic 46, 3) := by decide +kernel
theorem dX3_cut_25 : decode cX3_cut 25 = .ok (.ifCond .ne 8, 3) := by decide +kernel
theorem dX3_cut_28 : decode cX3_cut 28 = .ok (.aload_n 0, 1) := by decide +kernel
theorem dX3_cut_29 : decode cX3_cut 29 = .ok (.invokevirtual 52, 3) := by decide +kernel
theorem dX3_cut_32 : decode cX3_cut 32 = .ok (.ireturn, 1) := by decide +kernel
theorem dX3_cut_33 : decode cX3_cut 33 = .ok (.aload_n 0, 1) := by decide +kernel
theorem dX3_cut_34 : decode cX3_cut 34 = .ok (.getfield 10, 3) := by decide +kernel
theorem dX3_cut_37 : decode cX3_cut 37 = .ok (.iload_n 1, 1) := by decide +kernel
theorem dX3_cut_38 : decode cX3_cut 38 = .ok (.iload_n 2, 1) := by decide +kernel
theorem dX3_cut_39 : decode cX3_cut 39 = .ok (.iload_n 3, 1) := by decide +kernel
theorem dX3_cut_40 : decode cX3_cut 40 = .ok (.invokevirtual 56, 3) := by decide +kernel
theorem dX3_cut_43 : decode cX3_cut 43 = .ok (.ireturn, 1) := by decide +kernel
theorem dX3_take_0 : decode cX3_take 0 = .ok (.iload_n 1, 1) := by decide +kernel
theorem dX3_take_1 : decode cX3_take 1 = .ok (.invokestatic 16, 3) := by decide +kernel
theorem dX3_take_4 : decode cX3_take 4 = .ok (.aload_n 0, 1) := by decide +kernel
theorem dX3_take_5 : decode cX3_take 5 = .ok (.iload_n 1, 1) := by decide +kernel
theorem dX3_take_6 : decode cX3_take 6 = .ok (.invokevirtual 23, 3) := by decide +kernel
theorem dX3_take_9 : decode cX3_take 9 = .ok (.iload_n 2, 1) := by decide +kernel
theorem dX3_take_10 : decode cX3_take 10 = .ok (.i2l, 1) := by decide +kernel
theorem dX3_take_11 : decode cX3_take 11 = .ok (.iload_n 3, 1) := by decide +kernel
theorem dX3_take_12 : decode cX3_take 12 = .ok (.i2l, 1) := by decide +kernel
theorem dX3_take_13 : decode cX3_take 13 = .ok (.aload_n 0, 1) := by decide +kernel
theorem dX3_take_14 : decode cX3_take 14 = .ok (.getfield 10, 3) := by decide +kernel
theorem dX3_take_17 : decode cX3_take 17 = .ok (.iload_n 1, 1) := by decide +kernel
theorem dX3_take_18 : decode cX3_take 18 = .ok (.invokevirtual 33, 3) := by decide +kernel
theorem dX3_take_21 : decode cX3_take 21 = .ok (.i2l, 1) := by decide +kernel
theorem dX3_take_22 : decode cX3_take 22 = .ok (.invokestatic 60, 3) := by decide +kernel
theorem dX3_take_25 : decode cX3_take 25 = .ok (.ifCond .ne 8, 3) := by decide +kernel
theorem dX3_take_28 : decode cX3_take 28 = .ok (.aload_n 0, 1) := by decide +kernel
theorem dX3_take_29 : decode cX3_take 29 = .ok (.invokevirtual 52, 3) := by decide +kernel
theorem dX3_take_32 : decode cX3_take 32 = .ok (.ireturn, 1) := by decide +kernel
theorem dX3_take_33 : decode cX3_take 33 = .ok (.aload_n 0, 1) := by decide +kernel
theorem dX3_take_34 : decode cX3_take 34 = .ok (.getfield 10, 3) := by decide +kernel
theorem dX3_take_37 : decode cX3_take 37 = .ok (.iload_n 1, 1) := by decide +kernel
theorem dX3_take_38 : decode cX3_take 38 = .ok (.iload_n 2, 1) := by decide +kernel
theorem dX3_take_39 : decode cX3_take 39 = .ok (.iload_n 2, 1) := by decide +kernel
theorem dX3_take_40 : decode cX3_take 40 = .ok (.iload_n 3, 1) := by decide +kernel
theorem dX3_take_41 : decode cX3_take 41 = .ok (.iadd, 1) := by decide +kernel
theorem dX3_take_42 : decode cX3_take 42 = .ok (.invokevirtual 56, 3) := by decide +kernel
theorem dX3_take_45 : decode cX3_take 45 = .ok (.ireturn, 1) := by decide +kernel
theorem dX3_put_0 : decode cX3_put 0 = .ok (.iload_n 1, 1) := by decide +kernel
theorem dX3_put_1 : decode cX3_put 1 = .ok (.invokestatic 16, 3) := by decide +kernel
theorem dX3_put_4 : decode cX3_put 4 = .ok (.iload_n 3, 1) := by decide +kernel
theorem dX3_put_5 : decode cX3_put 5 = .ok (.invokestatic 37, 3) := by decide +kernel
theorem dX3_put_8 : decode cX3_put 8 = .ok (.aload_n 0, 1) := by decide +kernel
theorem dX3_put_9 : decode cX3_put 9 = .ok (.iload_n 1, 1) := by decide +kernel
theorem dX3_put_10 : decode cX3_put 10 = .ok (.invokevirtual 23, 3) := by decide +kernel
theorem dX3_put_13 : decode cX3_put 13 = .ok (.iload_n 2, 1) := by decide +kernel
theorem dX3_put_14 : decode cX3_put 14 = .ok (.i2l, 1) := by decide +kernel
theorem dX3_put_15 : decode cX3_put 15 = .ok (.aload_n 0, 1) := by decide +kernel
theorem dX3_put_16 : decode cX3_put 16 = .ok (.getfield 10, 3) := by decide +kernel
theorem dX3_put_19 : decode cX3_put 19 = .ok (.iload_n 1, 1) := by decide +kernel
theorem dX3_put_20 : decode cX3_put 20 = .ok (.invokevirtual 33, 3) := by decide +kernel
theorem dX3_put_23 : decode cX3_put 23 = .ok (.i2l, 1) := by decide +kernel
theorem dX3_put_24 : decode cX3_put 24 = .ok (.invokestatic 63, 3) := by decide +kernel
theorem dX3_put_27 : decode cX3_put 27 = .ok (.ifCond .ne 8, 3) := by decide +kernel
theorem dX3_put_30 : decode cX3_put 30 = .ok (.aload_n 0, 1) := by decide +kernel
theorem dX3_put_31 : decode cX3_put 31 = .ok (.invokevirtual 52, 3) := by decide +kernel
theorem dX3_put_34 : decode cX3_put 34 = .ok (.ireturn, 1) := by decide +kernel
theorem dX3_put_35 : decode cX3_put 35 = .ok (.aload_n 0, 1) := by decide +kernel
theorem dX3_put_36 : decode cX3_put 36 = .ok (.getfield 10, 3) := by decide +kernel
theorem dX3_put_39 : decode cX3_put 39 = .ok (.iload_n 1, 1) := by decide +kernel
theorem dX3_put_40 : decode cX3_put 40 = .ok (.iload_n 2, 1) := by decide +kernel
theorem dX3_put_41 : decode cX3_put 41 = .ok (.invokevirtual 67, 3) := by decide +kernel
theorem dX3_put_44 : decode cX3_put 44 = .ok (.istore 4, 2) := by decide +kernel
theorem dX3_put_46 : decode cX3_put 46 = .ok (.aload_n 0, 1) := by decide +kernel
theorem dX3_put_47 : decode cX3_put 47 = .ok (.getfield 10, 3) := by decide +kernel
theorem dX3_put_50 : decode cX3_put 50 = .ok (.iload_n 1, 1) := by decide +kernel
theorem dX3_put_51 : decode cX3_put 51 = .ok (.iload_n 2, 1) := by decide +kernel
theorem dX3_put_52 : decode cX3_put 52 = .ok (.iload_n 3, 1) := by decide +kernel
theorem dX3_put_53 : decode cX3_put 53 = .ok (.invokevirtual 71, 3) := by decide +kernel
theorem dX3_put_56 : decode cX3_put 56 = .ok (.iload 4, 2) := by decide +kernel
theorem dX3_put_58 : decode cX3_put 58 = .ok (.ireturn, 1) := by decide +kernel
theorem dX3_copy_0 : decode cX3_copy 0 = .ok (.iload_n 1, 1) := by decide +kernel
theorem dX3_copy_1 : decode cX3_copy 1 = .ok (.invokestatic 16, 3) := by decide +kernel
theorem dX3_copy_4 : decode cX3_copy 4 = .ok (.iload_n 2, 1) := by decide +kernel
theorem dX3_copy_5 : decode cX3_copy 5 = .ok (.invokestatic 16, 3) := by decide +kernel
theorem dX3_copy_8 : decode cX3_copy 8 = .ok (.aload_n 0, 1) := by decide +kernel
theorem dX3_copy_9 : decode cX3_copy 9 = .ok (.getfield 10, 3) := by decide +kernel
theorem dX3_copy_12 : decode cX3_copy 12 = .ok (.iload_n 1, 1) := by decide +kernel
theorem dX3_copy_13 : decode cX3_copy 13 = .ok (.iload_n 2, 1) := by decide +kernel
theorem dX3_copy_14 : decode cX3_copy 14 = .ok (.invokevirtual 75, 3) := by decide +kernel
theorem dX3_copy_17 : decode cX3_copy 17 = .ok (.aload_n 0, 1) := by decide +kernel
theorem dX3_copy_18 : decode cX3_copy 18 = .ok (.getfield 10, 3) := by decide +kernel
theorem dX3_copy_21 : decode cX3_copy 21 = .ok (.iload_n 1, 1) := by decide +kernel
theorem dX3_copy_22 : decode cX3_copy 22 = .ok (.invokevirtual 33, 3) := by decide +kernel
theorem dX3_copy_25 : decode cX3_copy 25 = .ok (.ireturn, 1) := by decide +kernel
theorem dX3_leave_0 : decode cX3_leave 0 = .ok (.iload_n 1, 1) := by decide +kernel
theorem dX3_leave_1 : decode cX3_leave 1 = .ok (.invokestatic 16, 3) := by decide +kernel
theorem dX3_leave_4 : decode cX3_leave 4 = .ok (.aload_n 0, 1) := by decide +kernel
theorem dX3_leave_5 : decode cX3_leave 5 = .ok (.getfield 10, 3) := by decide +kernel
theorem dX3_leave_8 : decode cX3_leave 8 = .ok (.iload_n 1, 1) := by decide +kernel
theorem dX3_leave_9 : decode cX3_leave 9 = .ok (.invokevirtual 33, 3) := by decide +kernel
theorem dX3_leave_12 : decode cX3_leave 12 = .ok (.istore_n 2, 1) := by decide +kernel
theorem dX3_leave_13 : decode cX3_leave 13 = .ok (.aload_n 0, 1) := by decide +kernel
theorem dX3_leave_14 : decode cX3_leave 14 = .ok (.getfield 10, 3) := by decide +kernel
theorem dX3_leave_17 : decode cX3_leave 17 = .ok (.iload_n 1, 1) := by decide +kernel
theorem dX3_leave_18 : decode cX3_leave 18 = .ok (.invokevirtual 78, 3) := by decide +kernel
theorem dX3_leave_21 : decode cX3_leave 21 = .ok (.iload_n 2, 1) := by decide +kernel
theorem dX3_leave_22 : decode cX3_leave 22 = .ok (.ireturn, 1) := by decide +kernel
theorem dX3_place_0 : decode cX3_place 0 = .ok (.iload_n 1, 1) := by decide +kernel
theorem dX3_place_1 : decode cX3_place 1 = .ok (.i2l, 1) := by decide +kernel
theorem dX3_place_2 : decode cX3_place 2 = .ok (.iload_n 2, 1) := by decide +kernel
theorem dX3_place_3 : decode cX3_place 3 = .ok (.i2l, 1) := by decide +kernel
theorem dX3_place_4 : decode cX3_place 4 = .ok (.invokestatic 63, 3) := by decide +kernel
theorem dX3_place_7 : decode cX3_place 7 = .ok (.ifCond .eq 7, 3) := by decide +kernel
theorem dX3_place_10 : decode cX3_place 10 = .ok (.iload_n 1, 1) := by decide +kernel
theorem dX3_place_11 : decode cX3_place 11 = .ok (.goto 7, 3) := by decide +kernel
theorem dX3_place_14 : decode cX3_place 14 = .ok (.aload_n 0, 1) := by decide +kernel
theorem dX3_place_15 : decode cX3_place 15 = .ok (.invokevirtual 52, 3) := by decide +kernel
theorem dX3_place_18 : decode cX3_place 18 = .ok (.ireturn, 1) := by decide +kernel
theorem dX3_span_0 : decode cX3_span 0 = .ok (.iload_n 1, 1) := by decide +kernel
theorem dX3_span_1 : decode cX3_span 1 = .ok (.i2l, 1) := by decide +kernel
theorem dX3_span_2 : decode cX3_span 2 = .ok (.iload_n 2, 1) := by decide +kernel
theorem dX3_span_3 : decode cX3_span 3 = .ok (.i2l, 1) := by decide +kernel
theorem dX3_span_4 : decode cX3_span 4 = .ok (.iload_n 3, 1) := by decide +kernel
theorem dX3_span_5 : decode cX3_span 5 = .ok (.i2l, 1) := by decide +kernel
theorem dX3_span_6 : decode cX3_span 6 = .ok (.invokestatic 46, 3) := by decide +kernel
theorem dX3_span_9 : decode cX3_span 9 = .ok (.ifCond .eq 7, 3) := by decide +kernel
theorem dX3_span_12 : decode cX3_span 12 = .ok (.iload_n 1, 1) := by decide +kernel
theorem dX3_span_13 : decode cX3_span 13 = .ok (.goto 7, 3) := by decide +kernel
theorem dX3_span_16 : decode cX3_span 16 = .ok (.aload_n 0, 1) := by decide +kernel
theorem dX3_span_17 : decode cX3_span 17 = .ok (.invokevirtual 52, 3) := by decide +kernel
theorem dX3_span_20 : decode cX3_span 20 = .ok (.ireturn, 1) := by decide +kernel
theorem dX3_stretch_0 : decode cX3_stretch 0 = .ok (.iload_n 1, 1) := by decide +kernel
theorem dX3_stretch_1 : decode cX3_stretch 1 = .ok (.i2l, 1) := by decide +kernel
theorem dX3_stretch_2 : decode cX3_stretch 2 = .ok (.iload_n 2, 1) := by decide +kernel
theorem dX3_stretch_3 : decode cX3_stretch 3 = .ok (.i2l, 1) := by decide +kernel
theorem dX3_stretch_4 : decode cX3_stretch 4 = .ok (.iload_n 3, 1) := by decide +kernel
theorem dX3_stretch_5 : decode cX3_stretch 5 = .ok (.i2l, 1) := by decide +kernel
theorem dX3_stretch_6 : decode cX3_stretch 6 = .ok (.invokestatic 60, 3) := by decide +kernel
theorem dX3_stretch_9 : decode cX3_stretch 9 = .ok (.ifCond .eq 7, 3) := by decide +kernel
theorem dX3_stretch_12 : decode cX3_stretch 12 = .ok (.iload_n 1, 1) := by decide +kernel
theorem dX3_stretch_13 : decode cX3_stretch 13 = .ok (.goto 7, 3) := by decide +kernel
theorem dX3_stretch_16 : decode cX3_stretch 16 = .ok (.aload_n 0, 1) := by decide +kernel
theorem dX3_stretch_17 : decode cX3_stretch 17 = .ok (.invokevirtual 52, 3) := by decide +kernel
theorem dX3_stretch_20 : decode cX3_stretch 20 = .ok (.ireturn, 1) := by decide +kernel
theorem dX3_isFarPlace_0 : decode cX3_isFarPlace 0 = .ok (.iload_n 1, 1) := by decide +kernel
theorem dX3_isFarPlace_1 : decode cX3_isFarPlace 1 = .ok (.invokestatic 81, 3) := by decide +kernel
theorem dX3_isFarPlace_4 : decode cX3_isFarPlace 4 = .ok (.iload_n 2, 1) := by decide +kernel
theorem dX3_isFarPlace_5 : decode cX3_isFarPlace 5 = .ok (.invokestatic 81, 3) := by decide +kernel
theorem dX3_isFarPlace_8 : decode cX3_isFarPlace 8 = .ok (.invokestatic 63, 3) := by decide +kernel
theorem dX3_isFarPlace_11 : decode cX3_isFarPlace 11 = .ok (.ireturn, 1) := by decide +kernel
theorem dX3_isFarSpan_0 : decode cX3_isFarSpan 0 = .ok (.iload_n 1, 1) := by decide +kernel
theorem dX3_isFarSpan_1 : decode cX3_isFarSpan 1 = .ok (.invokestatic 81, 3) := by decide +kernel
theorem dX3_isFarSpan_4 : decode cX3_isFarSpan 4 = .ok (.iload_n 2, 1) := by decide +kernel
theorem dX3_isFarSpan_5 : decode cX3_isFarSpan 5 = .ok (.invokestatic 81, 3) := by decide +kernel
theorem dX3_isFarSpan_8 : decode cX3_isFarSpan 8 = .ok (.iload_n 3, 1) := by decide +kernel
theorem dX3_isFarSpan_9 : decode cX3_isFarSpan 9 = .ok (.invokestatic 81, 3) := by decide +kernel
theorem dX3_isFarSpan_12 : decode cX3_isFarSpan 12 = .ok (.invokestatic 46, 3) := by decide +kernel
theorem dX3_isFarSpan_15 : decode cX3_isFarSpan 15 = .ok (.ireturn, 1) := by decide +kernel
theorem dX3_isFarStretch_0 : decode cX3_isFarStretch 0 = .ok (.iload_n 1, 1) := by decide +kernel
theorem dX3_isFarStretch_1 : decode cX3_isFarStretch 1 = .ok (.invokestatic 81, 3) := by decide +kernel
theorem dX3_isFarStretch_4 : decode cX3_isFarStretch 4 = .ok (.iload_n 2, 1) := by decide +kernel
theorem dX3_isFarStretch_5 : decode cX3_isFarStretch 5 = .ok (.invokestatic 81, 3) := by decide +kernel
theorem dX3_isFarStretch_8 : decode cX3_isFarStretch 8 = .ok (.iload_n 3, 1) := by decide +kernel
theorem dX3_isFarStretch_9 : decode cX3_isFarStretch 9 = .ok (.invokestatic 81, 3) := by decide +kernel
theorem dX3_isFarStretch_12 : decode cX3_isFarStretch 12 = .ok (.invokestatic 60, 3) := by decide +kernel
theorem dX3_isFarStretch_15 : decode cX3_isFarStretch 15 = .ok (.ireturn, 1) := by decide +kernel
theorem dX3_insides_0 : decode cX3_insides 0 = .ok (.iload_n 1, 1) := by decide +kernel
theorem dX3_insides_1 : decode cX3_insides 1 = .ok (.invokestatic 16, 3) := by decide +kernel
theorem dX3_insides_4 : decode cX3_insides 4 = .ok (.iload_n 2, 1) := by decide +kernel
theorem dX3_insides_5 : decode cX3_insides 5 = .ok (.iconst 2, 1) := by decide +kernel
theorem dX3_insides_6 : decode cX3_insides 6 = .ok (.invokestatic 40, 3) := by decide +kernel
theorem dX3_insides_9 : decode cX3_insides 9 = .ok (.aload_n 0, 1) := by decide +kernel
theorem dX3_insides_10 : decode cX3_insides 10 = .ok (.iload_n 1, 1) := by decide +kernel
theorem dX3_insides_11 : decode cX3_insides 11 = .ok (.invokevirtual 23, 3) := by decide +kernel
theorem dX3_insides_14 : decode cX3_insides 14 = .ok (.aload_n 0, 1) := by decide +kernel
theorem dX3_insides_15 : decode cX3_insides 15 = .ok (.getfield 10, 3) := by decide +kernel
theorem dX3_insides_18 : decode cX3_insides 18 = .ok (.iload_n 1, 1) := by decide +kernel
theorem dX3_insides_19 : decode cX3_insides 19 = .ok (.invokevirtual 33, 3) := by decide +kernel
theorem dX3_insides_22 : decode cX3_insides 22 = .ok (.istore_n 3, 1) := by decide +kernel
theorem dX3_insides_23 : decode cX3_insides 23 = .ok (.iload_n 2, 1) := by decide +kernel
theorem dX3_insides_24 : decode cX3_insides 24 = .ok (.lookupswitch 38 #[(0, 28), (1, 33)], 28) := by decide +kernel
theorem dX3_insides_52 : decode cX3_insides 52 = .ok (.iload_n 3, 1) := by decide +kernel
theorem dX3_insides_53 : decode cX3_insides 53 = .ok (.invokestatic 85, 3) := by decide +kernel
theorem dX3_insides_56 : decode cX3_insides 56 = .ok (.ireturn, 1) := by decide +kernel
theorem dX3_insides_57 : decode cX3_insides 57 = .ok (.iload_n 3, 1) := by decide +kernel
theorem dX3_insides_58 : decode cX3_insides 58 = .ok (.invokestatic 88, 3) := by decide +kernel
theorem dX3_insides_61 : decode cX3_insides 61 = .ok (.ireturn, 1) := by decide +kernel
theorem dX3_insides_62 : decode cX3_insides 62 = .ok (.iload_n 3, 1) := by decide +kernel
theorem dX3_insides_63 : decode cX3_insides 63 = .ok (.invokestatic 91, 3) := by decide +kernel
theorem dX3_insides_66 : decode cX3_insides 66 = .ok (.ireturn, 1) := by decide +kernel
theorem dX3_text_0 : decode cX3_text 0 = .ok (.iload_n 1, 1) := by decide +kernel
theorem dX3_text_1 : decode cX3_text 1 = .ok (.invokestatic 16, 3) := by decide +kernel
theorem dX3_text_4 : decode cX3_text 4 = .ok (.aload_n 0, 1) := by decide +kernel
theorem dX3_text_5 : decode cX3_text 5 = .ok (.getfield 10, 3) := by decide +kernel
theorem dX3_text_8 : decode cX3_text 8 = .ok (.iload_n 1, 1) := by decide +kernel
theorem dX3_text_9 : decode cX3_text 9 = .ok (.invokevirtual 94, 3) := by decide +kernel
theorem dX3_text_12 : decode cX3_text 12 = .ok (.ifCond .eq 8, 3) := by decide +kernel
theorem dX3_text_15 : decode cX3_text 15 = .ok (.ldc 98, 2) := by decide +kernel
theorem dX3_text_17 : decode cX3_text 17 = .ok (.goto 11, 3) := by decide +kernel
theorem dX3_text_20 : decode cX3_text 20 = .ok (.aload_n 0, 1) := by decide +kernel
theorem dX3_text_21 : decode cX3_text 21 = .ok (.getfield 10, 3) := by decide +kernel
theorem dX3_text_24 : decode cX3_text 24 = .ok (.iload_n 1, 1) := by decide +kernel
theorem dX3_text_25 : decode cX3_text 25 = .ok (.invokevirtual 100, 3) := by decide +kernel
theorem dX3_text_28 : decode cX3_text 28 = .ok (.areturn, 1) := by decide +kernel
theorem dX3_length_0 : decode cX3_length 0 = .ok (.iload_n 1, 1) := by decide +kernel
theorem dX3_length_1 : decode cX3_length 1 = .ok (.invokestatic 16, 3) := by decide +kernel
theorem dX3_length_4 : decode cX3_length 4 = .ok (.aload_n 0, 1) := by decide +kernel
theorem dX3_length_5 : decode cX3_length 5 = .ok (.getfield 10, 3) := by decide +kernel
theorem dX3_length_8 : decode cX3_length 8 = .ok (.iload_n 1, 1) := by decide +kernel
theorem dX3_length_9 : decode cX3_length 9 = .ok (.invokevirtual 33, 3) := by decide +kernel
theorem dX3_length_12 : decode cX3_length 12 = .ok (.ireturn, 1) := by decide +kernel
theorem dX3_signAt_0 : decode cX3_signAt 0 = .ok (.iload_n 1, 1) := by decide +kernel
theorem dX3_signAt_1 : decode cX3_signAt 1 = .ok (.invokestatic 16, 3) := by decide +kernel
theorem dX3_signAt_4 : decode cX3_signAt 4 = .ok (.aload_n 0, 1) := by decide +kernel
theorem dX3_signAt_5 : decode cX3_signAt 5 = .ok (.getfield 10, 3) := by decide +kernel
theorem dX3_signAt_8 : decode cX3_signAt 8 = .ok (.iload_n 1, 1) := by decide +kernel
theorem dX3_signAt_9 : decode cX3_signAt 9 = .ok (.invokevirtual 94, 3) := by decide +kernel
theorem dX3_signAt_12 : decode cX3_signAt 12 = .ok (.ifCond .ne 20, 3) := by decide +kernel
theorem dX3_signAt_15 : decode cX3_signAt 15 = .ok (.iload_n 2, 1) := by decide +kernel
theorem dX3_signAt_16 : decode cX3_signAt 16 = .ok (.i2l, 1) := by decide +kernel
theorem dX3_signAt_17 : decode cX3_signAt 17 = .ok (.aload_n 0, 1) := by decide +kernel
theorem dX3_signAt_18 : decode cX3_signAt 18 = .ok (.getfield 10, 3) := by decide +kernel
theorem dX3_signAt_21 : decode cX3_signAt 21 = .ok (.iload_n 1, 1) := by decide +kernel
theorem dX3_signAt_22 : decode cX3_signAt 22 = .ok (.invokevirtual 33, 3) := by decide +kernel
theorem dX3_signAt_25 : decode cX3_signAt 25 = .ok (.i2l, 1) := by decide +kernel
theorem dX3_signAt_26 : decode cX3_signAt 26 = .ok (.invokestatic 63, 3) := by decide +kernel
theorem dX3_signAt_29 : decode cX3_signAt 29 = .ok (.ifCond .ne 8, 3) := by decide +kernel
theorem dX3_signAt_32 : decode cX3_signAt 32 = .ok (.aload_n 0, 1) := by decide +kernel
theorem dX3_signAt_33 : decode cX3_signAt 33 = .ok (.invokevirtual 52, 3) := by decide +kernel
theorem dX3_signAt_36 : decode cX3_signAt 36 = .ok (.ireturn, 1) := by decide +kernel
theorem dX3_signAt_37 : decode cX3_signAt 37 = .ok (.aload_n 0, 1) := by decide +kernel
theorem dX3_signAt_38 : decode cX3_signAt 38 = .ok (.getfield 10, 3) := by decide +kernel
theorem dX3_signAt_41 : decode cX3_signAt 41 = .ok (.iload_n 1, 1) := by decide +kernel
theorem dX3_signAt_42 : decode cX3_signAt 42 = .ok (.iload_n 2, 1) := by decide +kernel
theorem dX3_signAt_43 : decode cX3_signAt 43 = .ok (.invokevirtual 67, 3) := by decide +kernel
theorem dX3_signAt_46 : decode cX3_signAt 46 = .ok (.ireturn, 1) := by decide +kernel
theorem dX3_part_0 : decode cX3_part 0 = .ok (.iload_n 1, 1) := by decide +kernel
theorem dX3_part_1 : decode cX3_part 1 = .ok (.invokestatic 16, 3) := by decide +kernel
theorem dX3_part_4 : decode cX3_part 4 = .ok (.aload_n 0, 1) := by decide +kernel
theorem dX3_part_5 : decode cX3_part 5 = .ok (.getfield 10, 3) := by decide +kernel
theorem dX3_part_8 : decode cX3_part 8 = .ok (.iload_n 1, 1) := by decide +kernel
theorem dX3_part_9 : decode cX3_part 9 = .ok (.invokevirtual 94, 3) := by decide +kernel
theorem dX3_part_12 : decode cX3_part 12 = .ok (.ifCond .ne 22, 3) := by decide +kernel
theorem dX3_part_15 : decode cX3_part 15 = .ok (.iload_n 2, 1) := by decide +kernel
theorem dX3_part_16 : decode cX3_part 16 = .ok (.i2l, 1) := by decide +kernel
theorem dX3_part_17 : decode cX3_part 17 = .ok (.iload_n 3, 1) := by decide +kernel
theorem dX3_part_18 : decode cX3_part 18 = .ok (.i2l, 1) := by decide +kernel
theorem dX3_part_19 : decode cX3_part 19 = .ok (.aload_n 0, 1) := by decide +kernel
theorem dX3_part_20 : decode cX3_part 20 = .ok (.getfield 10, 3) := by decide +kernel
theorem dX3_part_23 : decode cX3_part 23 = .ok (.iload_n 1, 1) := by decide +kernel
theorem dX3_part_24 : decode cX3_part 24 = .ok (.invokevirtual 33, 3) := by decide +kernel
theorem dX3_part_27 : decode cX3_part 27 = .ok (.i2l, 1) := by decide +kernel
theorem dX3_part_28 : decode cX3_part 28 = .ok (.invokestatic 46, 3) := by decide +kernel
theorem dX3_part_31 : decode cX3_part 31 = .ok (.ifCond .ne 8, 3) := by decide +kernel
theorem dX3_part_34 : decode cX3_part 34 = .ok (.aload_n 0, 1) := by decide +kernel
theorem dX3_part_35 : decode cX3_part 35 = .ok (.invokevirtual 104, 3) := by decide +kernel
theorem dX3_part_38 : decode cX3_part 38 = .ok (.areturn, 1) := by decide +kernel
theorem dX3_part_39 : decode cX3_part 39 = .ok (.aload_n 0, 1) := by decide +kernel
theorem dX3_part_40 : decode cX3_part 40 = .ok (.getfield 10, 3) := by decide +kernel
theorem dX3_part_43 : decode cX3_part 43 = .ok (.iload_n 1, 1) := by decide +kernel
theorem dX3_part_44 : decode cX3_part 44 = .ok (.iload_n 2, 1) := by decide +kernel
theorem dX3_part_45 : decode cX3_part 45 = .ok (.iload_n 3, 1) := by decide +kernel
theorem dX3_part_46 : decode cX3_part 46 = .ok (.invokevirtual 108, 3) := by decide +kernel
theorem dX3_part_49 : decode cX3_part 49 = .ok (.areturn, 1) := by decide +kernel
theorem dX3_isEmpty_0 : decode cX3_isEmpty 0 = .ok (.iload_n 1, 1) := by decide +kernel
theorem dX3_isEmpty_1 : decode cX3_isEmpty 1 = .ok (.invokestatic 16, 3) := by decide +kernel
theorem dX3_isEmpty_4 : decode cX3_isEmpty 4 = .ok (.aload_n 0, 1) := by decide +kernel
theorem dX3_isEmpty_5 : decode cX3_isEmpty 5 = .ok (.iload_n 1, 1) := by decide +kernel
theorem dX3_isEmpty_6 : decode cX3_isEmpty 6 = .ok (.invokevirtual 23, 3) := by decide +kernel
theorem dX3_isEmpty_9 : decode cX3_isEmpty 9 = .ok (.aload_n 0, 1) := by decide +kernel
theorem dX3_isEmpty_10 : decode cX3_isEmpty 10 = .ok (.getfield 10, 3) := by decide +kernel
theorem dX3_isEmpty_13 : decode cX3_isEmpty 13 = .ok (.iload_n 1, 1) := by decide +kernel
theorem dX3_isEmpty_14 : decode cX3_isEmpty 14 = .ok (.invokevirtual 33, 3) := by decide +kernel
theorem dX3_isEmpty_17 : decode cX3_isEmpty 17 = .ok (.ifCond .ne 7, 3) := by decide +kernel
theorem dX3_isEmpty_20 : decode cX3_isEmpty 20 = .ok (.iconst 1, 1) := by decide +kernel
theorem dX3_isEmpty_21 : decode cX3_isEmpty 21 = .ok (.goto 4, 3) := by decide +kernel
theorem dX3_isEmpty_24 : decode cX3_isEmpty 24 = .ok (.iconst 0, 1) := by decide +kernel
theorem dX3_isEmpty_25 : decode cX3_isEmpty 25 = .ok (.ireturn, 1) := by decide +kernel
theorem dX3_compare_0 : decode cX3_compare 0 = .ok (.iload_n 1, 1) := by decide +kernel
theorem dX3_compare_1 : decode cX3_compare 1 = .ok (.invokestatic 16, 3) := by decide +kernel
theorem dX3_compare_4 : decode cX3_compare 4 = .ok (.iload_n 2, 1) := by decide +kernel
theorem dX3_compare_5 : decode cX3_compare 5 = .ok (.invokestatic 16, 3) := by decide +kernel
theorem dX3_compare_8 : decode cX3_compare 8 = .ok (.aload_n 0, 1) := by decide +kernel
theorem dX3_compare_9 : decode cX3_compare 9 = .ok (.getfield 10, 3) := by decide +kernel
theorem dX3_compare_12 : decode cX3_compare 12 = .ok (.iload_n 1, 1) := by decide +kernel
theorem dX3_compare_13 : decode cX3_compare 13 = .ok (.invokevirtual 94, 3) := by decide +kernel
theorem dX3_compare_16 : decode cX3_compare 16 = .ok (.ifCond .ne 14, 3) := by decide +kernel
theorem dX3_compare_19 : decode cX3_compare 19 = .ok (.aload_n 0, 1) := by decide +kernel
theorem dX3_compare_20 : decode cX3_compare 20 = .ok (.getfield 10, 3) := by decide +kernel
theorem dX3_compare_23 : decode cX3_compare 23 = .ok (.iload_n 2, 1) := by decide +kernel
theorem dX3_compare_24 : decode cX3_compare 24 = .ok (.invokevirtual 94, 3) := by decide +kernel
theorem dX3_compare_27 : decode cX3_compare 27 = .ok (.ifCond .eq 8, 3) := by decide +kernel
theorem dX3_compare_30 : decode cX3_compare 30 = .ok (.aload_n 0, 1) := by decide +kernel
theorem dX3_compare_31 : decode cX3_compare 31 = .ok (.invokevirtual 52, 3) := by decide +kernel
theorem dX3_compare_34 : decode cX3_compare 34 = .ok (.ireturn, 1) := by decide +kernel
theorem dX3_compare_35 : decode cX3_compare 35 = .ok (.aload_n 0, 1) := by decide +kernel
theorem dX3_compare_36 : decode cX3_compare 36 = .ok (.getfield 10, 3) := by decide +kernel
theorem dX3_compare_39 : decode cX3_compare 39 = .ok (.iload_n 1, 1) := by decide +kernel
theorem dX3_compare_40 : decode cX3_compare 40 = .ok (.iload_n 2, 1) := by decide +kernel
theorem dX3_compare_41 : decode cX3_compare 41 = .ok (.invokevirtual 112, 3) := by decide +kernel
theorem dX3_compare_44 : decode cX3_compare 44 = .ok (.ireturn, 1) := by decide +kernel
theorem dX3_compareParts_0 : decode cX3_compareParts 0 = .ok (.iload_n 1, 1) := by decide +kernel
theorem dX3_compareParts_1 : decode cX3_compareParts 1 = .ok (.invokestatic 16, 3) := by decide +kernel
theorem dX3_compareParts_4 : decode cX3_compareParts 4 = .ok (.iload_n 2, 1) := by decide +kernel
theorem dX3_compareParts_5 : decode cX3_compareParts 5 = .ok (.invokestatic 16, 3) := by decide +kernel
theorem dX3_compareParts_8 : decode cX3_compareParts 8 = .ok (.aload_n 0, 1) := by decide +kernel
theorem dX3_compareParts_9 : decode cX3_compareParts 9 = .ok (.getfield 10, 3) := by decide +kernel
theorem dX3_compareParts_12 : decode cX3_compareParts 12 = .ok (.iload_n 1, 1) := by decide +kernel
theorem dX3_compareParts_13 : decode cX3_compareParts 13 = .ok (.invokevirtual 94, 3) := by decide +kernel
theorem dX3_compareParts_16 : decode cX3_compareParts 16 = .ok (.ifCond .ne 14, 3) := by decide +kernel
theorem dX3_compareParts_19 : decode cX3_compareParts 19 = .ok (.aload_n 0, 1) := by decide +kernel
theorem dX3_compareParts_20 : decode cX3_compareParts 20 = .ok (.getfield 10, 3) := by decide +kernel
theorem dX3_compareParts_23 : decode cX3_compareParts 23 = .ok (.iload_n 2, 1) := by decide +kernel
theorem dX3_compareParts_24 : decode cX3_compareParts 24 = .ok (.invokevirtual 94, 3) := by decide +kernel
theorem dX3_compareParts_27 : decode cX3_compareParts 27 = .ok (.ifCond .eq 8, 3) := by decide +kernel
theorem dX3_compareParts_30 : decode cX3_compareParts 30 = .ok (.aload_n 0, 1) := by decide +kernel
theorem dX3_compareParts_31 : decode cX3_compareParts 31 = .ok (.invokevirtual 52, 3) := by decide +kernel
theorem dX3_compareParts_34 : decode cX3_compareParts 34 = .ok (.ireturn, 1) := by decide +kernel
theorem dX3_compareParts_35 : decode cX3_compareParts 35 = .ok (.iload_n 3, 1) := by decide +kernel
theorem dX3_compareParts_36 : decode cX3_compareParts 36 = .ok (.i2l, 1) := by decide +kernel
theorem dX3_compareParts_37 : decode cX3_compareParts 37 = .ok (.iload 4, 2) := by decide +kernel
theorem dX3_compareParts_39 : decode cX3_compareParts 39 = .ok (.i2l, 1) := by decide +kernel
theorem dX3_compareParts_40 : decode cX3_compareParts 40 = .ok (.aload_n 0, 1) := by decide +kernel
theorem dX3_compareParts_41 : decode cX3_compareParts 41 = .ok (.getfield 10, 3) := by decide +kernel
theorem dX3_compareParts_44 : decode cX3_compareParts 44 = .ok (.iload_n 1, 1) := by decide +kernel
theorem dX3_compareParts_45 : decode cX3_compareParts 45 = .ok (.invokevirtual 33, 3) := by decide +kernel
theorem dX3_compareParts_48 : decode cX3_compareParts 48 = .ok (.i2l, 1) := by decide +kernel
theorem dX3_compareParts_49 : decode cX3_compareParts 49 = .ok (.invokestatic 46, 3) := by decide +kernel
theorem dX3_compareParts_52 : decode cX3_compareParts 52 = .ok (.ifCond .eq 23, 3) := by decide +kernel
theorem dX3_compareParts_55 : decode cX3_compareParts 55 = .ok (.iload_n 3, 1) := by decide +kernel
theorem dX3_compareParts_56 : decode cX3_compareParts 56 = .ok (.i2l, 1) := by decide +kernel
theorem dX3_compareParts_57 : decode cX3_compareParts 57 = .ok (.iload 4, 2) := by decide +kernel
theorem dX3_compareParts_59 : decode cX3_compareParts 59 = .ok (.i2l, 1) := by decide +kernel
theorem dX3_compareParts_60 : decode cX3_compareParts 60 = .ok (.aload_n 0, 1) := by decide +kernel
theorem dX3_compareParts_61 : decode cX3_compareParts 61 = .ok (.getfield 10, 3) := by decide +kernel
theorem dX3_compareParts_64 : decode cX3_compareParts 64 = .ok (.iload_n 2, 1) := by decide +kernel
theorem dX3_compareParts_65 : decode cX3_compareParts 65 = .ok (.invokevirtual 33, 3) := by decide +kernel
theorem dX3_compareParts_68 : decode cX3_compareParts 68 = .ok (.i2l, 1) := by decide +kernel
theorem dX3_compareParts_69 : decode cX3_compareParts 69 = .ok (.invokestatic 46, 3) := by decide +kernel
theorem dX3_compareParts_72 : decode cX3_compareParts 72 = .ok (.ifCond .ne 8, 3) := by decide +kernel
theorem dX3_compareParts_75 : decode cX3_compareParts 75 = .ok (.aload_n 0, 1) := by decide +kernel
theorem dX3_compareParts_76 : decode cX3_compareParts 76 = .ok (.invokevirtual 52, 3) := by decide +kernel
theorem dX3_compareParts_79 : decode cX3_compareParts 79 = .ok (.ireturn, 1) := by decide +kernel
theorem dX3_compareParts_80 : decode cX3_compareParts 80 = .ok (.aload_n 0, 1) := by decide +kernel
theorem dX3_compareParts_81 : decode cX3_compareParts 81 = .ok (.getfield 10, 3) := by decide +kernel
theorem dX3_compareParts_84 : decode cX3_compareParts 84 = .ok (.iload_n 3, 1) := by decide +kernel
theorem dX3_compareParts_85 : decode cX3_compareParts 85 = .ok (.iload_n 1, 1) := by decide +kernel
theorem dX3_compareParts_86 : decode cX3_compareParts 86 = .ok (.iload 4, 2) := by decide +kernel
theorem dX3_compareParts_88 : decode cX3_compareParts 88 = .ok (.iload_n 2, 1) := by decide +kernel
theorem dX3_compareParts_89 : decode cX3_compareParts 89 = .ok (.iload 4, 2) := by decide +kernel
theorem dX3_compareParts_91 : decode cX3_compareParts 91 = .ok (.invokevirtual 115, 3) := by decide +kernel
theorem dX3_compareParts_94 : decode cX3_compareParts 94 = .ok (.ireturn, 1) := by decide +kernel
theorem dX3_isLike_0 : decode cX3_isLike 0 = .ok (.iload_n 1, 1) := by decide +kernel
theorem dX3_isLike_1 : decode cX3_isLike 1 = .ok (.invokestatic 119, 3) := by decide +kernel
theorem dX3_isLike_4 : decode cX3_isLike 4 = .ok (.iload_n 2, 1) := by decide +kernel
theorem dX3_isLike_5 : decode cX3_isLike 5 = .ok (.invokestatic 16, 3) := by decide +kernel
theorem dX3_isLike_8 : decode cX3_isLike 8 = .ok (.aload_n 0, 1) := by decide +kernel
theorem dX3_isLike_9 : decode cX3_isLike 9 = .ok (.iload_n 1, 1) := by decide +kernel
theorem dX3_isLike_10 : decode cX3_isLike 10 = .ok (.invokevirtual 23, 3) := by decide +kernel
theorem dX3_isLike_13 : decode cX3_isLike 13 = .ok (.aload_n 0, 1) := by decide +kernel
theorem dX3_isLike_14 : decode cX3_isLike 14 = .ok (.getfield 10, 3) := by decide +kernel
theorem dX3_isLike_17 : decode cX3_isLike 17 = .ok (.iload_n 2, 1) := by decide +kernel
theorem dX3_isLike_18 : decode cX3_isLike 18 = .ok (.invokevirtual 94, 3) := by decide +kernel
theorem dX3_isLike_21 : decode cX3_isLike 21 = .ok (.ifCond .eq 8, 3) := by decide +kernel
theorem dX3_isLike_24 : decode cX3_isLike 24 = .ok (.aload_n 0, 1) := by decide +kernel
theorem dX3_isLike_25 : decode cX3_isLike 25 = .ok (.invokevirtual 52, 3) := by decide +kernel
theorem dX3_isLike_28 : decode cX3_isLike 28 = .ok (.ireturn, 1) := by decide +kernel
theorem dX3_isLike_29 : decode cX3_isLike 29 = .ok (.aload_n 0, 1) := by decide +kernel
theorem dX3_isLike_30 : decode cX3_isLike 30 = .ok (.getfield 10, 3) := by decide +kernel
theorem dX3_isLike_33 : decode cX3_isLike 33 = .ok (.iload_n 1, 1) := by decide +kernel
theorem dX3_isLike_34 : decode cX3_isLike 34 = .ok (.iload_n 2, 1) := by decide +kernel
theorem dX3_isLike_35 : decode cX3_isLike 35 = .ok (.invokevirtual 122, 3) := by decide +kernel
theorem dX3_isLike_38 : decode cX3_isLike 38 = .ok (.ifCond .eq 7, 3) := by decide +kernel
theorem dX3_isLike_41 : decode cX3_isLike 41 = .ok (.iconst 1, 1) := by decide +kernel
theorem dX3_isLike_42 : decode cX3_isLike 42 = .ok (.goto 4, 3) := by decide +kernel
theorem dX3_isLike_45 : decode cX3_isLike 45 = .ok (.iconst 0, 1) := by decide +kernel
theorem dX3_isLike_46 : decode cX3_isLike 46 = .ok (.ireturn, 1) := by decide +kernel
theorem dX3_order_0 : decode cX3_order 0 = .ok (.iload_n 1, 1) := by decide +kernel
theorem dX3_order_1 : decode cX3_order 1 = .ok (.invokestatic 16, 3) := by decide +kernel
theorem dX3_order_4 : decode cX3_order 4 = .ok (.iload_n 2, 1) := by decide +kernel
theorem dX3_order_5 : decode cX3_order 5 = .ok (.invokestatic 16, 3) := by decide +kernel
theorem dX3_order_8 : decode cX3_order 8 = .ok (.iload_n 3, 1) := by decide +kernel
theorem dX3_order_9 : decode cX3_order 9 = .ok (.iconst 3, 1) := by decide +kernel
theorem dX3_order_10 : decode cX3_order 10 = .ok (.invokestatic 40, 3) := by decide +kernel
theorem dX3_order_13 : decode cX3_order 13 = .ok (.aload_n 0, 1) := by decide +kernel
theorem dX3_order_14 : decode cX3_order 14 = .ok (.iload_n 1, 1) := by decide +kernel
theorem dX3_order_15 : decode cX3_order 15 = .ok (.iload_n 2, 1) := by decide +kernel
theorem dX3_order_16 : decode cX3_order 16 = .ok (.iload_n 3, 1) := by decide +kernel
theorem dX3_order_17 : decode cX3_order 17 = .ok (.invokevirtual 126, 3) := by decide +kernel
theorem dX3_order_20 : decode cX3_order 20 = .ok (.ireturn, 1) := by decide +kernel
theorem dX3_ahead_0 : decode cX3_ahead 0 = .ok (.iload_n 1, 1) := by decide +kernel
theorem dX3_ahead_1 : decode cX3_ahead 1 = .ok (.invokestatic 16, 3) := by decide +kernel
theorem dX3_ahead_4 : decode cX3_ahead 4 = .ok (.iload_n 2, 1) := by decide +kernel
theorem dX3_ahead_5 : decode cX3_ahead 5 = .ok (.iconst 3, 1) := by decide +kernel
theorem dX3_ahead_6 : decode cX3_ahead 6 = .ok (.invokestatic 40, 3) := by decide +kernel
theorem dX3_ahead_9 : decode cX3_ahead 9 = .ok (.iconst 0, 1) := by decide +kernel
theorem dX3_ahead_10 : decode cX3_ahead 10 = .ok (.istore_n 3, 1) := by decide +kernel
theorem dX3_ahead_11 : decode cX3_ahead 11 = .ok (.iconst 0, 1) := by decide +kernel
theorem dX3_ahead_12 : decode cX3_ahead 12 = .ok (.istore 4, 2) := by decide +kernel
theorem dX3_ahead_14 : decode cX3_ahead 14 = .ok (.iload 4, 2) := by decide +kernel
theorem dX3_ahead_16 : decode cX3_ahead 16 = .ok (.bipush 9, 2) := by decide +kernel
theorem dX3_ahead_18 : decode cX3_ahead 18 = .ok (.if_icmp .ge 23, 3) := by decide +kernel
theorem dX3_ahead_21 : decode cX3_ahead 21 = .ok (.aload_n 0, 1) := by decide +kernel
theorem dX3_ahead_22 : decode cX3_ahead 22 = .ok (.iload 4, 2) := by decide +kernel
theorem dX3_ahead_24 : decode cX3_ahead 24 = .ok (.iload_n 1, 1) := by decide +kernel
theorem dX3_ahead_25 : decode cX3_ahead 25 = .ok (.iload_n 2, 1) := by decide +kernel
theorem dX3_ahead_26 : decode cX3_ahead 26 = .ok (.invokevirtual 126, 3) := by decide +kernel
theorem dX3_ahead_29 : decode cX3_ahead 29 = .ok (.ifCond .ge 6, 3) := by decide +kernel
theorem dX3_ahead_32 : decode cX3_ahead 32 = .ok (.iinc 3 1, 3) := by decide +kernel
theorem dX3_ahead_35 : decode cX3_ahead 35 = .ok (.iinc 4 1, 3) := by decide +kernel
theorem dX3_ahead_38 : decode cX3_ahead 38 = .ok (.goto (-24), 3) := by decide +kernel
theorem dX3_ahead_41 : decode cX3_ahead 41 = .ok (.iload_n 3, 1) := by decide +kernel
theorem dX3_ahead_42 : decode cX3_ahead 42 = .ok (.ireturn, 1) := by decide +kernel
theorem dX3_must_0 : decode cX3_must 0 = .ok (.iload_n 1, 1) := by decide +kernel
theorem dX3_must_1 : decode cX3_must 1 = .ok (.invokestatic 16, 3) := by decide +kernel
theorem dX3_must_4 : decode cX3_must 4 = .ok (.aload_n 0, 1) := by decide +kernel
theorem dX3_must_5 : decode cX3_must 5 = .ok (.getfield 10, 3) := by decide +kernel
theorem dX3_must_8 : decode cX3_must 8 = .ok (.iload_n 1, 1) := by decide +kernel
theorem dX3_must_9 : decode cX3_must 9 = .ok (.invokevirtual 94, 3) := by decide +kernel
theorem dX3_must_12 : decode cX3_must 12 = .ok (.ifCond .eq 10, 3) := by decide +kernel
theorem dX3_must_15 : decode cX3_must 15 = .ok (.aload_n 0, 1) := by decide +kernel
theorem dX3_must_16 : decode cX3_must 16 = .ok (.invokevirtual 52, 3) := by decide +kernel
theorem dX3_must_19 : decode cX3_must 19 = .ok (.goto 11, 3) := by decide +kernel
theorem dX3_must_22 : decode cX3_must 22 = .ok (.aload_n 0, 1) := by decide +kernel
theorem dX3_must_23 : decode cX3_must 23 = .ok (.getfield 10, 3) := by decide +kernel
theorem dX3_must_26 : decode cX3_must 26 = .ok (.iload_n 1, 1) := by decide +kernel
theorem dX3_must_27 : decode cX3_must 27 = .ok (.invokevirtual 33, 3) := by decide +kernel
theorem dX3_must_30 : decode cX3_must 30 = .ok (.ireturn, 1) := by decide +kernel
theorem dX3_mustSaying_0 : decode cX3_mustSaying 0 = .ok (.iload_n 1, 1) := by decide +kernel
theorem dX3_mustSaying_1 : decode cX3_mustSaying 1 = .ok (.invokestatic 16, 3) := by decide +kernel
theorem dX3_mustSaying_4 : decode cX3_mustSaying 4 = .ok (.aload_n 0, 1) := by decide +kernel
theorem dX3_mustSaying_5 : decode cX3_mustSaying 5 = .ok (.getfield 10, 3) := by decide +kernel
theorem dX3_mustSaying_8 : decode cX3_mustSaying 8 = .ok (.iload_n 1, 1) := by decide +kernel
theorem dX3_mustSaying_9 : decode cX3_mustSaying 9 = .ok (.invokevirtual 94, 3) := by decide +kernel
theorem dX3_mustSaying_12 : decode cX3_mustSaying 12 = .ok (.ifCond .eq 18, 3) := by decide +kernel
theorem dX3_mustSaying_15 : decode cX3_mustSaying 15 = .ok (.aload_n 0, 1) := by decide +kernel
theorem dX3_mustSaying_16 : decode cX3_mustSaying 16 = .ok (.dup, 1) := by decide +kernel
theorem dX3_mustSaying_17 : decode cX3_mustSaying 17 = .ok (.getfield 129, 3) := by decide +kernel
theorem dX3_mustSaying_20 : decode cX3_mustSaying 20 = .ok (.iconst 1, 1) := by decide +kernel
theorem dX3_mustSaying_21 : decode cX3_mustSaying 21 = .ok (.iadd, 1) := by decide +kernel
theorem dX3_mustSaying_22 : decode cX3_mustSaying 22 = .ok (.putfield 129, 3) := by decide +kernel
theorem dX3_mustSaying_25 : decode cX3_mustSaying 25 = .ok (.aload_n 0, 1) := by decide +kernel
theorem dX3_mustSaying_26 : decode cX3_mustSaying 26 = .ok (.invokevirtual 52, 3) := by decide +kernel
theorem dX3_mustSaying_29 : decode cX3_mustSaying 29 = .ok (.ireturn, 1) := by decide +kernel
theorem dX3_mustSaying_30 : decode cX3_mustSaying 30 = .ok (.aload_n 0, 1) := by decide +kernel
theorem dX3_mustSaying_31 : decode cX3_mustSaying 31 = .ok (.getfield 10, 3) := by decide +kernel
theorem dX3_mustSaying_34 : decode cX3_mustSaying 34 = .ok (.iload_n 1, 1) := by decide +kernel
theorem dX3_mustSaying_35 : decode cX3_mustSaying 35 = .ok (.invokevirtual 33, 3) := by decide +kernel
theorem dX3_mustSaying_38 : decode cX3_mustSaying 38 = .ok (.ireturn, 1) := by decide +kernel
theorem dX3_orElse_0 : decode cX3_orElse 0 = .ok (.iload_n 1, 1) := by decide +kernel
theorem dX3_orElse_1 : decode cX3_orElse 1 = .ok (.invokestatic 16, 3) := by decide +kernel
theorem dX3_orElse_4 : decode cX3_orElse 4 = .ok (.iload_n 2, 1) := by decide +kernel
theorem dX3_orElse_5 : decode cX3_orElse 5 = .ok (.invokestatic 16, 3) := by decide +kernel
theorem dX3_orElse_8 : decode cX3_orElse 8 = .ok (.aload_n 0, 1) := by decide +kernel
theorem dX3_orElse_9 : decode cX3_orElse 9 = .ok (.iload_n 1, 1) := by decide +kernel
theorem dX3_orElse_10 : decode cX3_orElse 10 = .ok (.iload_n 2, 1) := by decide +kernel
theorem dX3_orElse_11 : decode cX3_orElse 11 = .ok (.invokevirtual 133, 3) := by decide +kernel
theorem dX3_orElse_14 : decode cX3_orElse 14 = .ok (.areturn, 1) := by decide +kernel
theorem dX3_orGiven_0 : decode cX3_orGiven 0 = .ok (.iload_n 1, 1) := by decide +kernel
theorem dX3_orGiven_1 : decode cX3_orGiven 1 = .ok (.invokestatic 16, 3) := by decide +kernel
theorem dX3_orGiven_4 : decode cX3_orGiven 4 = .ok (.iload_n 2, 1) := by decide +kernel
theorem dX3_orGiven_5 : decode cX3_orGiven 5 = .ok (.invokestatic 16, 3) := by decide +kernel
theorem dX3_orGiven_8 : decode cX3_orGiven 8 = .ok (.aload_n 0, 1) := by decide +kernel
theorem dX3_orGiven_9 : decode cX3_orGiven 9 = .ok (.getfield 10, 3) := by decide +kernel
theorem dX3_orGiven_12 : decode cX3_orGiven 12 = .ok (.iload_n 1, 1) := by decide +kernel
theorem dX3_orGiven_13 : decode cX3_orGiven 13 = .ok (.invokevirtual 94, 3) := by decide +kernel
theorem dX3_orGiven_16 : decode cX3_orGiven 16 = .ok (.ifCond .eq 13, 3) := by decide +kernel
theorem dX3_orGiven_19 : decode cX3_orGiven 19 = .ok (.aload_n 0, 1) := by decide +kernel
theorem dX3_orGiven_20 : decode cX3_orGiven 20 = .ok (.dup, 1) := by decide +kernel
theorem dX3_orGiven_21 : decode cX3_orGiven 21 = .ok (.getfield 129, 3) := by decide +kernel
theorem dX3_orGiven_24 : decode cX3_orGiven 24 = .ok (.iconst 1, 1) := by decide +kernel
theorem dX3_orGiven_25 : decode cX3_orGiven 25 = .ok (.iadd, 1) := by decide +kernel
theorem dX3_orGiven_26 : decode cX3_orGiven 26 = .ok (.putfield 129, 3) := by decide +kernel
theorem dX3_orGiven_29 : decode cX3_orGiven 29 = .ok (.aload_n 0, 1) := by decide +kernel
theorem dX3_orGiven_30 : decode cX3_orGiven 30 = .ok (.iload_n 1, 1) := by decide +kernel
theorem dX3_orGiven_31 : decode cX3_orGiven 31 = .ok (.iload_n 2, 1) := by decide +kernel
theorem dX3_orGiven_32 : decode cX3_orGiven 32 = .ok (.invokevirtual 133, 3) := by decide +kernel
theorem dX3_orGiven_35 : decode cX3_orGiven 35 = .ok (.areturn, 1) := by decide +kernel
theorem dX3_isMissing_0 : decode cX3_isMissing 0 = .ok (.iload_n 1, 1) := by decide +kernel
theorem dX3_isMissing_1 : decode cX3_isMissing 1 = .ok (.invokestatic 16, 3) := by decide +kernel
theorem dX3_isMissing_4 : decode cX3_isMissing 4 = .ok (.aload_n 0, 1) := by decide +kernel
theorem dX3_isMissing_5 : decode cX3_isMissing 5 = .ok (.getfield 10, 3) := by decide +kernel
theorem dX3_isMissing_8 : decode cX3_isMissing 8 = .ok (.iload_n 1, 1) := by decide +kernel
theorem dX3_isMissing_9 : decode cX3_isMissing 9 = .ok (.invokevirtual 94, 3) := by decide +kernel
theorem dX3_isMissing_12 : decode cX3_isMissing 12 = .ok (.ireturn, 1) := by decide +kernel
theorem dX3_isThere_0 : decode cX3_isThere 0 = .ok (.iload_n 1, 1) := by decide +kernel
theorem dX3_isThere_1 : decode cX3_isThere 1 = .ok (.invokestatic 16, 3) := by decide +kernel
theorem dX3_isThere_4 : decode cX3_isThere 4 = .ok (.aload_n 0, 1) := by decide +kernel
theorem dX3_isThere_5 : decode cX3_isThere 5 = .ok (.getfield 10, 3) := by decide +kernel
theorem dX3_isThere_8 : decode cX3_isThere 8 = .ok (.iload_n 1, 1) := by decide +kernel
theorem dX3_isThere_9 : decode cX3_isThere 9 = .ok (.invokevirtual 94, 3) := by decide +kernel
theorem dX3_isThere_12 : decode cX3_isThere 12 = .ok (.ifCond .ne 7, 3) := by decide +kernel
theorem dX3_isThere_15 : decode cX3_isThere 15 = .ok (.iconst 1, 1) := by decide +kernel
theorem dX3_isThere_16 : decode cX3_isThere 16 = .ok (.goto 4, 3) := by decide +kernel
theorem dX3_isThere_19 : decode cX3_isThere 19 = .ok (.iconst 0, 1) := by decide +kernel
theorem dX3_isThere_20 : decode cX3_isThere 20 = .ok (.ireturn, 1) := by decide +kernel
theorem dX3_areSame_0 : decode cX3_areSame 0 = .ok (.iload_n 1, 1) := by decide +kernel
theorem dX3_areSame_1 : decode cX3_areSame 1 = .ok (.invokestatic 16, 3) := by decide +kernel
theorem dX3_areSame_4 : decode cX3_areSame 4 = .ok (.iload_n 2, 1) := by decide +kernel
theorem dX3_areSame_5 : decode cX3_areSame 5 = .ok (.invokestatic 16, 3) := by decide +kernel
theorem dX3_areSame_8 : decode cX3_areSame 8 = .ok (.aload_n 0, 1) := by decide +kernel
theorem dX3_areSame_9 : decode cX3_areSame 9 = .ok (.getfield 10, 3) := by decide +kernel
theorem dX3_areSame_12 : decode cX3_areSame 12 = .ok (.iload_n 1, 1) := by decide +kernel
theorem dX3_areSame_13 : decode cX3_areSame 13 = .ok (.iload_n 2, 1) := by decide +kernel
theorem dX3_areSame_14 : decode cX3_areSame 14 = .ok (.invokevirtual 122, 3) := by decide +kernel
theorem dX3_areSame_17 : decode cX3_areSame 17 = .ok (.ireturn, 1) := by decide +kernel
theorem dX3_code_0 : decode cX3_code 0 = .ok (.iload_n 1, 1) := by decide +kernel
theorem dX3_code_1 : decode cX3_code 1 = .ok (.invokestatic 16, 3) := by decide +kernel
theorem dX3_code_4 : decode cX3_code 4 = .ok (.aload_n 0, 1) := by decide +kernel
theorem dX3_code_5 : decode cX3_code 5 = .ok (.getfield 10, 3) := by decide +kernel
theorem dX3_code_8 : decode cX3_code 8 = .ok (.iload_n 1, 1) := by decide +kernel
theorem dX3_code_9 : decode cX3_code 9 = .ok (.invokevirtual 137, 3) := by decide +kernel
theorem dX3_code_12 : decode cX3_code 12 = .ok (.ireturn, 1) := by decide +kernel
theorem dX3_codes_0 : decode cX3_codes 0 = .ok (.iload_n 1, 1) := by decide +kernel
theorem dX3_codes_1 : decode cX3_codes 1 = .ok (.invokestatic 16, 3) := by decide +kernel
theorem dX3_codes_4 : decode cX3_codes 4 = .ok (.iload_n 2, 1) := by decide +kernel
theorem dX3_codes_5 : decode cX3_codes 5 = .ok (.invokestatic 16, 3) := by decide +kernel
theorem dX3_codes_8 : decode cX3_codes 8 = .ok (.iload_n 3, 1) := by decide +kernel
theorem dX3_codes_9 : decode cX3_codes 9 = .ok (.invokestatic 16, 3) := by decide +kernel
theorem dX3_codes_12 : decode cX3_codes 12 = .ok (.aload_n 0, 1) := by decide +kernel
theorem dX3_codes_13 : decode cX3_codes 13 = .ok (.getfield 10, 3) := by decide +kernel
theorem dX3_codes_16 : decode cX3_codes 16 = .ok (.iload_n 1, 1) := by decide +kernel
theorem dX3_codes_17 : decode cX3_codes 17 = .ok (.iload_n 2, 1) := by decide +kernel
theorem dX3_codes_18 : decode cX3_codes 18 = .ok (.iload_n 3, 1) := by decide +kernel
theorem dX3_codes_19 : decode cX3_codes 19 = .ok (.invokevirtual 140, 3) := by decide +kernel
theorem dX3_codes_22 : decode cX3_codes 22 = .ok (.ireturn, 1) := by decide +kernel
theorem dX3_knock_0 : decode cX3_knock 0 = .ok (.aload_n 0, 1) := by decide +kernel
theorem dX3_knock_1 : decode cX3_knock 1 = .ok (.dup, 1) := by decide +kernel
theorem dX3_knock_2 : decode cX3_knock 2 = .ok (.getfield 143, 3) := by decide +kernel
theorem dX3_knock_5 : decode cX3_knock 5 = .ok (.iconst 1, 1) := by decide +kernel
theorem dX3_knock_6 : decode cX3_knock 6 = .ok (.iadd, 1) := by decide +kernel
theorem dX3_knock_7 : decode cX3_knock 7 = .ok (.putfield 143, 3) := by decide +kernel
theorem dX3_knock_10 : decode cX3_knock 10 = .ok (.aload_n 0, 1) := by decide +kernel
theorem dX3_knock_11 : decode cX3_knock 11 = .ok (.getfield 143, 3) := by decide +kernel
theorem dX3_knock_14 : decode cX3_knock 14 = .ok (.ireturn, 1) := by decide +kernel
theorem dX3_house_0 : decode cX3_house 0 = .ok (.iload_n 1, 1) := by decide +kernel
theorem dX3_house_1 : decode cX3_house 1 = .ok (.iconst 5, 1) := by decide +kernel
theorem dX3_house_2 : decode cX3_house 2 = .ok (.invokestatic 40, 3) := by decide +kernel
theorem dX3_house_5 : decode cX3_house 5 = .ok (.aload_n 0, 1) := by decide +kernel
theorem dX3_house_6 : decode cX3_house 6 = .ok (.iload_n 1, 1) := by decide +kernel
theorem dX3_house_7 : decode cX3_house 7 = .ok (.invokevirtual 146, 3) := by decide +kernel
theorem dX3_house_10 : decode cX3_house 10 = .ok (.ireturn, 1) := by decide +kernel
theorem dX3_isSound_0 : decode cX3_isSound 0 = .ok (.aload_n 0, 1) := by decide +kernel
theorem dX3_isSound_1 : decode cX3_isSound 1 = .ok (.getfield 10, 3) := by decide +kernel
theorem dX3_isSound_4 : decode cX3_isSound 4 = .ok (.invokestatic 149, 3) := by decide +kernel
theorem dX3_isSound_7 : decode cX3_isSound 7 = .ok (.ireturn, 1) := by decide +kernel
theorem dX3_digest_0 : decode cX3_digest 0 = .ok (.ldc2_w 155, 3) := by decide +kernel
theorem dX3_digest_3 : decode cX3_digest 3 = .ok (.lstore_n 1, 1) := by decide +kernel
theorem dX3_digest_4 : decode cX3_digest 4 = .ok (.iconst 0, 1) := by decide +kernel
theorem dX3_digest_5 : decode cX3_digest 5 = .ok (.istore_n 3, 1) := by decide +kernel
theorem dX3_digest_6 : decode cX3_digest 6 = .ok (.iload_n 3, 1) := by decide +kernel
theorem dX3_digest_7 : decode cX3_digest 7 = .ok (.iconst 5, 1) := by decide +kernel
theorem dX3_digest_8 : decode cX3_digest 8 = .ok (.if_icmp .gt 22, 3) := by decide +kernel
theorem dX3_digest_11 : decode cX3_digest 11 = .ok (.lload_n 1, 1) := by decide +kernel
theorem dX3_digest_12 : decode cX3_digest 12 = .ok (.ldc2_w 157, 3) := by decide +kernel
theorem dX3_digest_15 : decode cX3_digest 15 = .ok (.lmul, 1) := by decide +kernel
theorem dX3_digest_16 : decode cX3_digest 16 = .ok (.aload_n 0, 1) := by decide +kernel
theorem dX3_digest_17 : decode cX3_digest 17 = .ok (.iload_n 3, 1) := by decide +kernel
theorem dX3_digest_18 : decode cX3_digest 18 = .ok (.invokevirtual 146, 3) := by decide +kernel
theorem dX3_digest_21 : decode cX3_digest 21 = .ok (.i2l, 1) := by decide +kernel
theorem dX3_digest_22 : decode cX3_digest 22 = .ok (.ladd, 1) := by decide +kernel
theorem dX3_digest_23 : decode cX3_digest 23 = .ok (.lstore_n 1, 1) := by decide +kernel
theorem dX3_digest_24 : decode cX3_digest 24 = .ok (.iinc 3 1, 3) := by decide +kernel
theorem dX3_digest_27 : decode cX3_digest 27 = .ok (.goto (-21), 3) := by decide +kernel
theorem dX3_digest_30 : decode cX3_digest 30 = .ok (.iconst 0, 1) := by decide +kernel
theorem dX3_digest_31 : decode cX3_digest 31 = .ok (.istore_n 3, 1) := by decide +kernel
theorem dX3_digest_32 : decode cX3_digest 32 = .ok (.iload_n 3, 1) := by decide +kernel
theorem dX3_digest_33 : decode cX3_digest 33 = .ok (.bipush 9, 2) := by decide +kernel
theorem dX3_digest_35 : decode cX3_digest 35 = .ok (.if_icmp .ge 41, 3) := by decide +kernel
theorem dX3_digest_38 : decode cX3_digest 38 = .ok (.lload_n 1, 1) := by decide +kernel
theorem dX3_digest_39 : decode cX3_digest 39 = .ok (.ldc2_w 157, 3) := by decide +kernel
theorem dX3_digest_42 : decode cX3_digest 42 = .ok (.lmul, 1) := by decide +kernel
theorem dX3_digest_43 : decode cX3_digest 43 = .ok (.aload_n 0, 1) := by decide +kernel
theorem dX3_digest_44 : decode cX3_digest 44 = .ok (.getfield 10, 3) := by decide +kernel
theorem dX3_digest_47 : decode cX3_digest 47 = .ok (.iload_n 3, 1) := by decide +kernel
theorem dX3_digest_48 : decode cX3_digest 48 = .ok (.invokevirtual 33, 3) := by decide +kernel
theorem dX3_digest_51 : decode cX3_digest 51 = .ok (.i2l, 1) := by decide +kernel
theorem dX3_digest_52 : decode cX3_digest 52 = .ok (.ladd, 1) := by decide +kernel
theorem dX3_digest_53 : decode cX3_digest 53 = .ok (.lstore_n 1, 1) := by decide +kernel
theorem dX3_digest_54 : decode cX3_digest 54 = .ok (.lload_n 1, 1) := by decide +kernel
theorem dX3_digest_55 : decode cX3_digest 55 = .ok (.ldc2_w 157, 3) := by decide +kernel
theorem dX3_digest_58 : decode cX3_digest 58 = .ok (.lmul, 1) := by decide +kernel
theorem dX3_digest_59 : decode cX3_digest 59 = .ok (.aload_n 0, 1) := by decide +kernel
theorem dX3_digest_60 : decode cX3_digest 60 = .ok (.getfield 10, 3) := by decide +kernel
theorem dX3_digest_63 : decode cX3_digest 63 = .ok (.iload_n 3, 1) := by decide +kernel
theorem dX3_digest_64 : decode cX3_digest 64 = .ok (.invokevirtual 137, 3) := by decide +kernel
theorem dX3_digest_67 : decode cX3_digest 67 = .ok (.i2l, 1) := by decide +kernel
theorem dX3_digest_68 : decode cX3_digest 68 = .ok (.ladd, 1) := by decide +kernel
