theorem dX3_digest_69 : decode cX3_digest 69 = .ok (.lstore_n 1, 1) := by decide +kernel
theorem dX3_digest_70 : decode cX3_digest 70 = .ok (.iinc 3 1, 3) := by decide +kernel
theorem dX3_digest_73 : decode cX3_digest 73 = .ok (.goto (-41), 3) := by decide +kernel
theorem dX3_digest_76 : decode cX3_digest 76 = .ok (.iconst 0, 1) := by decide +kernel
theorem dX3_digest_77 : decode cX3_digest 77 = .ok (.istore_n 3, 1) := by decide +kernel
theorem dX3_digest_78 : decode cX3_digest 78 = .ok (.iload_n 3, 1) := by decide +kernel
theorem dX3_digest_79 : decode cX3_digest 79 = .ok (.bipush 9, 2) := by decide +kernel
theorem dX3_digest_81 : decode cX3_digest 81 = .ok (.if_icmp .ge 60, 3) := by decide +kernel
theorem dX3_digest_84 : decode cX3_digest 84 = .ok (.iconst 0, 1) := by decide +kernel
theorem dX3_digest_85 : decode cX3_digest 85 = .ok (.istore 4, 2) := by decide +kernel
theorem dX3_digest_87 : decode cX3_digest 87 = .ok (.iload 4, 2) := by decide +kernel
theorem dX3_digest_89 : decode cX3_digest 89 = .ok (.bipush 9, 2) := by decide +kernel
theorem dX3_digest_91 : decode cX3_digest 91 = .ok (.if_icmp .ge 44, 3) := by decide +kernel
theorem dX3_digest_94 : decode cX3_digest 94 = .ok (.iconst 0, 1) := by decide +kernel
theorem dX3_digest_95 : decode cX3_digest 95 = .ok (.istore 5, 2) := by decide +kernel
theorem dX3_digest_97 : decode cX3_digest 97 = .ok (.iload 5, 2) := by decide +kernel
theorem dX3_digest_99 : decode cX3_digest 99 = .ok (.iconst 3, 1) := by decide +kernel
theorem dX3_digest_100 : decode cX3_digest 100 = .ok (.if_icmp .gt 29, 3) := by decide +kernel
theorem dX3_digest_103 : decode cX3_digest 103 = .ok (.lload_n 1, 1) := by decide +kernel
theorem dX3_digest_104 : decode cX3_digest 104 = .ok (.ldc2_w 157, 3) := by decide +kernel
theorem dX3_digest_107 : decode cX3_digest 107 = .ok (.lmul, 1) := by decide +kernel
theorem dX3_digest_108 : decode cX3_digest 108 = .ok (.aload_n 0, 1) := by decide +kernel
theorem dX3_digest_109 : decode cX3_digest 109 = .ok (.getfield 10, 3) := by decide +kernel
theorem dX3_digest_112 : decode cX3_digest 112 = .ok (.iload_n 3, 1) := by decide +kernel
theorem dX3_digest_113 : decode cX3_digest 113 = .ok (.iload 4, 2) := by decide +kernel
theorem dX3_digest_115 : decode cX3_digest 115 = .ok (.iload 5, 2) := by decide +kernel
theorem dX3_digest_117 : decode cX3_digest 117 = .ok (.invokevirtual 159, 3) := by decide +kernel
theorem dX3_digest_120 : decode cX3_digest 120 = .ok (.i2l, 1) := by decide +kernel
theorem dX3_digest_121 : decode cX3_digest 121 = .ok (.ladd, 1) := by decide +kernel
theorem dX3_digest_122 : decode cX3_digest 122 = .ok (.lstore_n 1, 1) := by decide +kernel
theorem dX3_digest_123 : decode cX3_digest 123 = .ok (.iinc 5 1, 3) := by decide +kernel
theorem dX3_digest_126 : decode cX3_digest 126 = .ok (.goto (-29), 3) := by decide +kernel
theorem dX3_digest_129 : decode cX3_digest 129 = .ok (.iinc 4 1, 3) := by decide +kernel
theorem dX3_digest_132 : decode cX3_digest 132 = .ok (.goto (-45), 3) := by decide +kernel
theorem dX3_digest_135 : decode cX3_digest 135 = .ok (.iinc 3 1, 3) := by decide +kernel
theorem dX3_digest_138 : decode cX3_digest 138 = .ok (.goto (-60), 3) := by decide +kernel
theorem dX3_digest_141 : decode cX3_digest 141 = .ok (.iconst 0, 1) := by decide +kernel
theorem dX3_digest_142 : decode cX3_digest 142 = .ok (.istore_n 3, 1) := by decide +kernel
theorem dX3_digest_143 : decode cX3_digest 143 = .ok (.iload_n 3, 1) := by decide +kernel
theorem dX3_digest_144 : decode cX3_digest 144 = .ok (.iconst 3, 1) := by decide +kernel
theorem dX3_digest_145 : decode cX3_digest 145 = .ok (.if_icmp .ge 32, 3) := by decide +kernel
theorem dX3_digest_148 : decode cX3_digest 148 = .ok (.lload_n 1, 1) := by decide +kernel
theorem dX3_digest_149 : decode cX3_digest 149 = .ok (.ldc2_w 157, 3) := by decide +kernel
theorem dX3_digest_152 : decode cX3_digest 152 = .ok (.lmul, 1) := by decide +kernel
theorem dX3_digest_153 : decode cX3_digest 153 = .ok (.aload_n 0, 1) := by decide +kernel
theorem dX3_digest_154 : decode cX3_digest 154 = .ok (.getfield 10, 3) := by decide +kernel
theorem dX3_digest_157 : decode cX3_digest 157 = .ok (.iload_n 3, 1) := by decide +kernel
theorem dX3_digest_158 : decode cX3_digest 158 = .ok (.iload_n 3, 1) := by decide +kernel
theorem dX3_digest_159 : decode cX3_digest 159 = .ok (.iconst 3, 1) := by decide +kernel
theorem dX3_digest_160 : decode cX3_digest 160 = .ok (.iadd, 1) := by decide +kernel
theorem dX3_digest_161 : decode cX3_digest 161 = .ok (.iload_n 3, 1) := by decide +kernel
theorem dX3_digest_162 : decode cX3_digest 162 = .ok (.bipush 6, 2) := by decide +kernel
theorem dX3_digest_164 : decode cX3_digest 164 = .ok (.iadd, 1) := by decide +kernel
theorem dX3_digest_165 : decode cX3_digest 165 = .ok (.invokevirtual 140, 3) := by decide +kernel
theorem dX3_digest_168 : decode cX3_digest 168 = .ok (.i2l, 1) := by decide +kernel
theorem dX3_digest_169 : decode cX3_digest 169 = .ok (.ladd, 1) := by decide +kernel
theorem dX3_digest_170 : decode cX3_digest 170 = .ok (.lstore_n 1, 1) := by decide +kernel
theorem dX3_digest_171 : decode cX3_digest 171 = .ok (.iinc 3 1, 3) := by decide +kernel
theorem dX3_digest_174 : decode cX3_digest 174 = .ok (.goto (-31), 3) := by decide +kernel
theorem dX3_digest_177 : decode cX3_digest 177 = .ok (.lload_n 1, 1) := by decide +kernel
theorem dX3_digest_178 : decode cX3_digest 178 = .ok (.ldc2_w 157, 3) := by decide +kernel
theorem dX3_digest_181 : decode cX3_digest 181 = .ok (.lmul, 1) := by decide +kernel
theorem dX3_digest_182 : decode cX3_digest 182 = .ok (.aload_n 0, 1) := by decide +kernel
theorem dX3_digest_183 : decode cX3_digest 183 = .ok (.getfield 10, 3) := by decide +kernel
theorem dX3_digest_186 : decode cX3_digest 186 = .ok (.invokestatic 149, 3) := by decide +kernel
theorem dX3_digest_189 : decode cX3_digest 189 = .ok (.ifCond .eq 7, 3) := by decide +kernel
theorem dX3_digest_192 : decode cX3_digest 192 = .ok (.iconst 1, 1) := by decide +kernel
theorem dX3_digest_193 : decode cX3_digest 193 = .ok (.goto 4, 3) := by decide +kernel
theorem dX3_digest_196 : decode cX3_digest 196 = .ok (.iconst 0, 1) := by decide +kernel
theorem dX3_digest_197 : decode cX3_digest 197 = .ok (.i2l, 1) := by decide +kernel
theorem dX3_digest_198 : decode cX3_digest 198 = .ok (.ladd, 1) := by decide +kernel
theorem dX3_digest_199 : decode cX3_digest 199 = .ok (.lreturn, 1) := by decide +kernel
theorem dX3_refuse_0 : decode cX3_refuse 0 = .ok (.aload_n 0, 1) := by decide +kernel
theorem dX3_refuse_1 : decode cX3_refuse 1 = .ok (.dup, 1) := by decide +kernel
theorem dX3_refuse_2 : decode cX3_refuse 2 = .ok (.getfield 162, 3) := by decide +kernel
theorem dX3_refuse_5 : decode cX3_refuse 5 = .ok (.iconst 1, 1) := by decide +kernel
theorem dX3_refuse_6 : decode cX3_refuse 6 = .ok (.iadd, 1) := by decide +kernel
theorem dX3_refuse_7 : decode cX3_refuse 7 = .ok (.putfield 162, 3) := by decide +kernel
theorem dX3_refuse_10 : decode cX3_refuse 10 = .ok (.bipush (-9), 2) := by decide +kernel
theorem dX3_refuse_12 : decode cX3_refuse 12 = .ok (.ireturn, 1) := by decide +kernel
theorem dX3_refuseText_0 : decode cX3_refuseText 0 = .ok (.aload_n 0, 1) := by decide +kernel
theorem dX3_refuseText_1 : decode cX3_refuseText 1 = .ok (.dup, 1) := by decide +kernel
theorem dX3_refuseText_2 : decode cX3_refuseText 2 = .ok (.getfield 162, 3) := by decide +kernel
theorem dX3_refuseText_5 : decode cX3_refuseText 5 = .ok (.iconst 1, 1) := by decide +kernel
theorem dX3_refuseText_6 : decode cX3_refuseText 6 = .ok (.iadd, 1) := by decide +kernel
theorem dX3_refuseText_7 : decode cX3_refuseText 7 = .ok (.putfield 162, 3) := by decide +kernel
theorem dX3_refuseText_10 : decode cX3_refuseText 10 = .ok (.ldc 165, 2) := by decide +kernel
theorem dX3_refuseText_12 : decode cX3_refuseText 12 = .ok (.areturn, 1) := by decide +kernel
theorem dX3_askOrder_0 : decode cX3_askOrder 0 = .ok (.iload_n 1, 1) := by decide +kernel
theorem dX3_askOrder_1 : decode cX3_askOrder 1 = .ok (.iload_n 2, 1) := by decide +kernel
theorem dX3_askOrder_2 : decode cX3_askOrder 2 = .ok (.if_icmp .eq 35, 3) := by decide +kernel
theorem dX3_askOrder_5 : decode cX3_askOrder 5 = .ok (.aload_n 0, 1) := by decide +kernel
theorem dX3_askOrder_6 : decode cX3_askOrder 6 = .ok (.getfield 10, 3) := by decide +kernel
theorem dX3_askOrder_9 : decode cX3_askOrder 9 = .ok (.iload_n 1, 1) := by decide +kernel
theorem dX3_askOrder_10 : decode cX3_askOrder 10 = .ok (.invokevirtual 94, 3) := by decide +kernel
theorem dX3_askOrder_13 : decode cX3_askOrder 13 = .ok (.ifCond .eq 14, 3) := by decide +kernel
theorem dX3_askOrder_16 : decode cX3_askOrder 16 = .ok (.aload_n 0, 1) := by decide +kernel
theorem dX3_askOrder_17 : decode cX3_askOrder 17 = .ok (.getfield 10, 3) := by decide +kernel
theorem dX3_askOrder_20 : decode cX3_askOrder 20 = .ok (.iload_n 2, 1) := by decide +kernel
theorem dX3_askOrder_21 : decode cX3_askOrder 21 = .ok (.invokevirtual 94, 3) := by decide +kernel
theorem dX3_askOrder_24 : decode cX3_askOrder 24 = .ok (.ifCond .ne 13, 3) := by decide +kernel
theorem dX3_askOrder_27 : decode cX3_askOrder 27 = .ok (.aload_n 0, 1) := by decide +kernel
theorem dX3_askOrder_28 : decode cX3_askOrder 28 = .ok (.dup, 1) := by decide +kernel
theorem dX3_askOrder_29 : decode cX3_askOrder 29 = .ok (.getfield 167, 3) := by decide +kernel
theorem dX3_askOrder_32 : decode cX3_askOrder 32 = .ok (.iconst 1, 1) := by decide +kernel
theorem dX3_askOrder_33 : decode cX3_askOrder 33 = .ok (.iadd, 1) := by decide +kernel
theorem dX3_askOrder_34 : decode cX3_askOrder 34 = .ok (.putfield 167, 3) := by decide +kernel
theorem dX3_askOrder_37 : decode cX3_askOrder 37 = .ok (.aload_n 0, 1) := by decide +kernel
theorem dX3_askOrder_38 : decode cX3_askOrder 38 = .ok (.getfield 10, 3) := by decide +kernel
theorem dX3_askOrder_41 : decode cX3_askOrder 41 = .ok (.iload_n 1, 1) := by decide +kernel
theorem dX3_askOrder_42 : decode cX3_askOrder 42 = .ok (.iload_n 2, 1) := by decide +kernel
theorem dX3_askOrder_43 : decode cX3_askOrder 43 = .ok (.iload_n 3, 1) := by decide +kernel
theorem dX3_askOrder_44 : decode cX3_askOrder 44 = .ok (.invokevirtual 159, 3) := by decide +kernel
theorem dX3_askOrder_47 : decode cX3_askOrder 47 = .ok (.ireturn, 1) := by decide +kernel
theorem dX3_spellEither_0 : decode cX3_spellEither 0 = .ok (.aload_n 0, 1) := by decide +kernel
theorem dX3_spellEither_1 : decode cX3_spellEither 1 = .ok (.getfield 10, 3) := by decide +kernel
theorem dX3_spellEither_4 : decode cX3_spellEither 4 = .ok (.iload_n 1, 1) := by decide +kernel
theorem dX3_spellEither_5 : decode cX3_spellEither 5 = .ok (.invokevirtual 94, 3) := by decide +kernel
theorem dX3_spellEither_8 : decode cX3_spellEither 8 = .ok (.ifCond .ne 12, 3) := by decide +kernel
theorem dX3_spellEither_11 : decode cX3_spellEither 11 = .ok (.aload_n 0, 1) := by decide +kernel
theorem dX3_spellEither_12 : decode cX3_spellEither 12 = .ok (.getfield 10, 3) := by decide +kernel
theorem dX3_spellEither_15 : decode cX3_spellEither 15 = .ok (.iload_n 1, 1) := by decide +kernel
theorem dX3_spellEither_16 : decode cX3_spellEither 16 = .ok (.invokevirtual 100, 3) := by decide +kernel
theorem dX3_spellEither_19 : decode cX3_spellEither 19 = .ok (.areturn, 1) := by decide +kernel
theorem dX3_spellEither_20 : decode cX3_spellEither 20 = .ok (.aload_n 0, 1) := by decide +kernel
theorem dX3_spellEither_21 : decode cX3_spellEither 21 = .ok (.getfield 10, 3) := by decide +kernel
theorem dX3_spellEither_24 : decode cX3_spellEither 24 = .ok (.iload_n 2, 1) := by decide +kernel
theorem dX3_spellEither_25 : decode cX3_spellEither 25 = .ok (.invokevirtual 94, 3) := by decide +kernel
theorem dX3_spellEither_28 : decode cX3_spellEither 28 = .ok (.ifCond .eq 10, 3) := by decide +kernel
theorem dX3_spellEither_31 : decode cX3_spellEither 31 = .ok (.aload_n 0, 1) := by decide +kernel
theorem dX3_spellEither_32 : decode cX3_spellEither 32 = .ok (.invokevirtual 104, 3) := by decide +kernel
theorem dX3_spellEither_35 : decode cX3_spellEither 35 = .ok (.goto 11, 3) := by decide +kernel
theorem dX3_spellEither_38 : decode cX3_spellEither 38 = .ok (.aload_n 0, 1) := by decide +kernel
theorem dX3_spellEither_39 : decode cX3_spellEither 39 = .ok (.getfield 10, 3) := by decide +kernel
theorem dX3_spellEither_42 : decode cX3_spellEither 42 = .ok (.iload_n 2, 1) := by decide +kernel
theorem dX3_spellEither_43 : decode cX3_spellEither 43 = .ok (.invokevirtual 100, 3) := by decide +kernel
theorem dX3_spellEither_46 : decode cX3_spellEither 46 = .ok (.areturn, 1) := by decide +kernel
theorem dX3_tell_0 : decode cX3_tell 0 = .ok (.iload_n 1, 1) := by decide +kernel
theorem dX3_tell_1 : decode cX3_tell 1 = .ok (.tableswitch 66 0 4 #[35, 43, 51, 56, 61], 35) := by decide +kernel
theorem dX3_tell_36 : decode cX3_tell 36 = .ok (.aload_n 0, 1) := by decide +kernel
theorem dX3_tell_37 : decode cX3_tell 37 = .ok (.getfield 10, 3) := by decide +kernel
theorem dX3_tell_40 : decode cX3_tell 40 = .ok (.invokevirtual 170, 3) := by decide +kernel
theorem dX3_tell_43 : decode cX3_tell 43 = .ok (.ireturn, 1) := by decide +kernel
theorem dX3_tell_44 : decode cX3_tell 44 = .ok (.aload_n 0, 1) := by decide +kernel
theorem dX3_tell_45 : decode cX3_tell 45 = .ok (.getfield 10, 3) := by decide +kernel
theorem dX3_tell_48 : decode cX3_tell 48 = .ok (.invokevirtual 173, 3) := by decide +kernel
theorem dX3_tell_51 : decode cX3_tell 51 = .ok (.ireturn, 1) := by decide +kernel
theorem dX3_tell_52 : decode cX3_tell 52 = .ok (.aload_n 0, 1) := by decide +kernel
theorem dX3_tell_53 : decode cX3_tell 53 = .ok (.getfield 162, 3) := by decide +kernel
theorem dX3_tell_56 : decode cX3_tell 56 = .ok (.ireturn, 1) := by decide +kernel
theorem dX3_tell_57 : decode cX3_tell 57 = .ok (.aload_n 0, 1) := by decide +kernel
theorem dX3_tell_58 : decode cX3_tell 58 = .ok (.getfield 167, 3) := by decide +kernel
theorem dX3_tell_61 : decode cX3_tell 61 = .ok (.ireturn, 1) := by decide +kernel
theorem dX3_tell_62 : decode cX3_tell 62 = .ok (.aload_n 0, 1) := by decide +kernel
theorem dX3_tell_63 : decode cX3_tell 63 = .ok (.getfield 129, 3) := by decide +kernel
theorem dX3_tell_66 : decode cX3_tell 66 = .ok (.ireturn, 1) := by decide +kernel
theorem dX3_tell_67 : decode cX3_tell 67 = .ok (.aload_n 0, 1) := by decide +kernel
theorem dX3_tell_68 : decode cX3_tell 68 = .ok (.getfield 143, 3) := by decide +kernel
theorem dX3_tell_71 : decode cX3_tell 71 = .ok (.ireturn, 1) := by decide +kernel
theorem dX3_wantSeat_0 : decode cX3_wantSeat 0 = .ok (.iload_n 0, 1) := by decide +kernel
theorem dX3_wantSeat_1 : decode cX3_wantSeat 1 = .ok (.ifCond .lt 9, 3) := by decide +kernel
theorem dX3_wantSeat_4 : decode cX3_wantSeat 4 = .ok (.iload_n 0, 1) := by decide +kernel
theorem dX3_wantSeat_5 : decode cX3_wantSeat 5 = .ok (.bipush 9, 2) := by decide +kernel
theorem dX3_wantSeat_7 : decode cX3_wantSeat 7 = .ok (.if_icmp .lt 13, 3) := by decide +kernel
theorem dX3_wantSeat_10 : decode cX3_wantSeat 10 = .ok (.new 176, 3) := by decide +kernel
theorem dX3_wantSeat_13 : decode cX3_wantSeat 13 = .ok (.dup, 1) := by decide +kernel
theorem dX3_wantSeat_14 : decode cX3_wantSeat 14 = .ok (.ldc 178, 2) := by decide +kernel
theorem dX3_wantSeat_16 : decode cX3_wantSeat 16 = .ok (.invokespecial 180, 3) := by decide +kernel
theorem dX3_wantSeat_19 : decode cX3_wantSeat 19 = .ok (.athrow, 1) := by decide +kernel
theorem dX3_wantSeat_20 : decode cX3_wantSeat 20 = .ok (.return_, 1) := by decide +kernel
theorem dX3_wantPaper_0 : decode cX3_wantPaper 0 = .ok (.iload_n 0, 1) := by decide +kernel
theorem dX3_wantPaper_1 : decode cX3_wantPaper 1 = .ok (.ifCond .lt 8, 3) := by decide +kernel
theorem dX3_wantPaper_4 : decode cX3_wantPaper 4 = .ok (.iload_n 0, 1) := by decide +kernel
theorem dX3_wantPaper_5 : decode cX3_wantPaper 5 = .ok (.iconst 3, 1) := by decide +kernel
theorem dX3_wantPaper_6 : decode cX3_wantPaper 6 = .ok (.if_icmp .lt 13, 3) := by decide +kernel
theorem dX3_wantPaper_9 : decode cX3_wantPaper 9 = .ok (.new 176, 3) := by decide +kernel
theorem dX3_wantPaper_12 : decode cX3_wantPaper 12 = .ok (.dup, 1) := by decide +kernel
theorem dX3_wantPaper_13 : decode cX3_wantPaper 13 = .ok (.ldc 183, 2) := by decide +kernel
theorem dX3_wantPaper_15 : decode cX3_wantPaper 15 = .ok (.invokespecial 180, 3) := by decide +kernel
theorem dX3_wantPaper_18 : decode cX3_wantPaper 18 = .ok (.athrow, 1) := by decide +kernel
theorem dX3_wantPaper_19 : decode cX3_wantPaper 19 = .ok (.return_, 1) := by decide +kernel
theorem dX3_wantSign_0 : decode cX3_wantSign 0 = .ok (.iload_n 0, 1) := by decide +kernel
theorem dX3_wantSign_1 : decode cX3_wantSign 1 = .ok (.ifCond .lt 9, 3) := by decide +kernel
theorem dX3_wantSign_4 : decode cX3_wantSign 4 = .ok (.iload_n 0, 1) := by decide +kernel
theorem dX3_wantSign_5 : decode cX3_wantSign 5 = .ok (.bipush 10, 2) := by decide +kernel
theorem dX3_wantSign_7 : decode cX3_wantSign 7 = .ok (.if_icmp .lt 13, 3) := by decide +kernel
theorem dX3_wantSign_10 : decode cX3_wantSign 10 = .ok (.new 185, 3) := by decide +kernel
theorem dX3_wantSign_13 : decode cX3_wantSign 13 = .ok (.dup, 1) := by decide +kernel
theorem dX3_wantSign_14 : decode cX3_wantSign 14 = .ok (.ldc 187, 2) := by decide +kernel
theorem dX3_wantSign_16 : decode cX3_wantSign 16 = .ok (.invokespecial 189, 3) := by decide +kernel
theorem dX3_wantSign_19 : decode cX3_wantSign 19 = .ok (.athrow, 1) := by decide +kernel
theorem dX3_wantSign_20 : decode cX3_wantSign 20 = .ok (.return_, 1) := by decide +kernel
theorem dX3_wantSignOrNone_0 : decode cX3_wantSignOrNone 0 = .ok (.iload_n 0, 1) := by decide +kernel
theorem dX3_wantSignOrNone_1 : decode cX3_wantSignOrNone 1 = .ok (.iconst (-1), 1) := by decide +kernel
theorem dX3_wantSignOrNone_2 : decode cX3_wantSignOrNone 2 = .ok (.if_icmp .eq 7, 3) := by decide +kernel
theorem dX3_wantSignOrNone_5 : decode cX3_wantSignOrNone 5 = .ok (.iload_n 0, 1) := by decide +kernel
theorem dX3_wantSignOrNone_6 : decode cX3_wantSignOrNone 6 = .ok (.invokestatic 37, 3) := by decide +kernel
theorem dX3_wantSignOrNone_9 : decode cX3_wantSignOrNone 9 = .ok (.return_, 1) := by decide +kernel
theorem dX3_wantUpTo_0 : decode cX3_wantUpTo 0 = .ok (.iload_n 0, 1) := by decide +kernel
theorem dX3_wantUpTo_1 : decode cX3_wantUpTo 1 = .ok (.ifCond .lt 8, 3) := by decide +kernel
theorem dX3_wantUpTo_4 : decode cX3_wantUpTo 4 = .ok (.iload_n 0, 1) := by decide +kernel
theorem dX3_wantUpTo_5 : decode cX3_wantUpTo 5 = .ok (.iload_n 1, 1) := by decide +kernel
theorem dX3_wantUpTo_6 : decode cX3_wantUpTo 6 = .ok (.if_icmp .le 13, 3) := by decide +kernel
theorem dX3_wantUpTo_9 : decode cX3_wantUpTo 9 = .ok (.new 185, 3) := by decide +kernel
theorem dX3_wantUpTo_12 : decode cX3_wantUpTo 12 = .ok (.dup, 1) := by decide +kernel
theorem dX3_wantUpTo_13 : decode cX3_wantUpTo 13 = .ok (.ldc 190, 2) := by decide +kernel
theorem dX3_wantUpTo_15 : decode cX3_wantUpTo 15 = .ok (.invokespecial 189, 3) := by decide +kernel
theorem dX3_wantUpTo_18 : decode cX3_wantUpTo 18 = .ok (.athrow, 1) := by decide +kernel
theorem dX3_wantUpTo_19 : decode cX3_wantUpTo 19 = .ok (.return_, 1) := by decide +kernel
theorem dX3_wantThere_0 : decode cX3_wantThere 0 = .ok (.aload_n 0, 1) := by decide +kernel
theorem dX3_wantThere_1 : decode cX3_wantThere 1 = .ok (.getfield 10, 3) := by decide +kernel
theorem dX3_wantThere_4 : decode cX3_wantThere 4 = .ok (.iload_n 1, 1) := by decide +kernel
theorem dX3_wantThere_5 : decode cX3_wantThere 5 = .ok (.invokevirtual 94, 3) := by decide +kernel
theorem dX3_wantThere_8 : decode cX3_wantThere 8 = .ok (.ifCond .eq 13, 3) := by decide +kernel
theorem dX3_wantThere_11 : decode cX3_wantThere 11 = .ok (.new 192, 3) := by decide +kernel
theorem dX3_wantThere_14 : decode cX3_wantThere 14 = .ok (.dup, 1) := by decide +kernel
theorem dX3_wantThere_15 : decode cX3_wantThere 15 = .ok (.ldc 194, 2) := by decide +kernel
theorem dX3_wantThere_17 : decode cX3_wantThere 17 = .ok (.invokespecial 196, 3) := by decide +kernel
theorem dX3_wantThere_20 : decode cX3_wantThere 20 = .ok (.athrow, 1) := by decide +kernel
theorem dX3_wantThere_21 : decode cX3_wantThere 21 = .ok (.return_, 1) := by decide +kernel
theorem dX3_wantRoom_0 : decode cX3_wantRoom 0 = .ok (.aload_n 0, 1) := by decide +kernel
theorem dX3_wantRoom_1 : decode cX3_wantRoom 1 = .ok (.getfield 10, 3) := by decide +kernel
theorem dX3_wantRoom_4 : decode cX3_wantRoom 4 = .ok (.iload_n 1, 1) := by decide +kernel
theorem dX3_wantRoom_5 : decode cX3_wantRoom 5 = .ok (.invokevirtual 33, 3) := by decide +kernel
theorem dX3_wantRoom_8 : decode cX3_wantRoom 8 = .ok (.iload_n 2, 1) := by decide +kernel
theorem dX3_wantRoom_9 : decode cX3_wantRoom 9 = .ok (.iadd, 1) := by decide +kernel
theorem dX3_wantRoom_10 : decode cX3_wantRoom 10 = .ok (.bipush 24, 2) := by decide +kernel
theorem dX3_wantRoom_12 : decode cX3_wantRoom 12 = .ok (.if_icmp .le 13, 3) := by decide +kernel
theorem dX3_wantRoom_15 : decode cX3_wantRoom 15 = .ok (.new 192, 3) := by decide +kernel
theorem dX3_wantRoom_18 : decode cX3_wantRoom 18 = .ok (.dup, 1) := by decide +kernel
theorem dX3_wantRoom_19 : decode cX3_wantRoom 19 = .ok (.ldc 197, 2) := by decide +kernel
theorem dX3_wantRoom_21 : decode cX3_wantRoom 21 = .ok (.invokespecial 196, 3) := by decide +kernel
theorem dX3_wantRoom_24 : decode cX3_wantRoom 24 = .ok (.athrow, 1) := by decide +kernel
theorem dX3_wantRoom_25 : decode cX3_wantRoom 25 = .ok (.return_, 1) := by decide +kernel
theorem dX4_init_0 : decode cX4_init 0 = .ok (.aload_n 0, 1) := by decide +kernel
theorem dX4_init_1 : decode cX4_init 1 = .ok (.invokespecial 1, 3) := by decide +kernel
theorem dX4_init_4 : decode cX4_init 4 = .ok (.return_, 1) := by decide +kernel
theorem dX5_isIn_0 : decode cX5_isIn 0 = .ok (.iload_n 0, 1) := by decide +kernel
theorem dX5_isIn_1 : decode cX5_isIn 1 = .ok (.iload_n 1, 1) := by decide +kernel
theorem dX5_isIn_2 : decode cX5_isIn 2 = .ok (.if_icmp .lt 12, 3) := by decide +kernel
theorem dX5_isIn_5 : decode cX5_isIn 5 = .ok (.iload_n 0, 1) := by decide +kernel
theorem dX5_isIn_6 : decode cX5_isIn 6 = .ok (.iload_n 2, 1) := by decide +kernel
theorem dX5_isIn_7 : decode cX5_isIn 7 = .ok (.if_icmp .gt 7, 3) := by decide +kernel
theorem dX5_isIn_10 : decode cX5_isIn 10 = .ok (.iconst 1, 1) := by decide +kernel
theorem dX5_isIn_11 : decode cX5_isIn 11 = .ok (.goto 4, 3) := by decide +kernel
theorem dX5_isIn_14 : decode cX5_isIn 14 = .ok (.iconst 0, 1) := by decide +kernel
theorem dX5_isIn_15 : decode cX5_isIn 15 = .ok (.ireturn, 1) := by decide +kernel
theorem dX5_one_0 : decode cX5_one 0 = .ok (.iload_n 0, 1) := by decide +kernel
theorem dX5_one_1 : decode cX5_one 1 = .ok (.ifCond .eq 7, 3) := by decide +kernel
theorem dX5_one_4 : decode cX5_one 4 = .ok (.iconst 1, 1) := by decide +kernel
theorem dX5_one_5 : decode cX5_one 5 = .ok (.goto 4, 3) := by decide +kernel
theorem dX5_one_8 : decode cX5_one 8 = .ok (.iconst 0, 1) := by decide +kernel
theorem dX5_one_9 : decode cX5_one 9 = .ok (.ireturn, 1) := by decide +kernel
theorem dX5_init_0 : decode cX5_init 0 = .ok (.aload_n 0, 1) := by decide +kernel
theorem dX5_init_1 : decode cX5_init 1 = .ok (.invokespecial 1, 3) := by decide +kernel
theorem dX5_init_4 : decode cX5_init 4 = .ok (.aload_n 0, 1) := by decide +kernel
theorem dX5_init_5 : decode cX5_init 5 = .ok (.bipush 9, 2) := by decide +kernel
theorem dX5_init_7 : decode cX5_init 7 = .ok (.iconst 0, 1) := by decide +kernel
theorem dX5_init_8 : decode cX5_init 8 = .ok (.multianewarray 9 2, 4) := by decide +kernel
theorem dX5_init_12 : decode cX5_init 12 = .ok (.putfield 11, 3) := by decide +kernel
theorem dX5_init_15 : decode cX5_init 15 = .ok (.return_, 1) := by decide +kernel
theorem dX5_thrown_0 : decode cX5_thrown 0 = .ok (.aload_n 0, 1) := by decide +kernel
theorem dX5_thrown_1 : decode cX5_thrown 1 = .ok (.getfield 14, 3) := by decide +kernel
theorem dX5_thrown_4 : decode cX5_thrown 4 = .ok (.ireturn, 1) := by decide +kernel
theorem dX5_refuse_0 : decode cX5_refuse 0 = .ok (.iload_n 1, 1) := by decide +kernel
theorem dX5_refuse_1 : decode cX5_refuse 1 = .ok (.ifCond .eq 15, 3) := by decide +kernel
theorem dX5_refuse_4 : decode cX5_refuse 4 = .ok (.aload_n 0, 1) := by decide +kernel
theorem dX5_refuse_5 : decode cX5_refuse 5 = .ok (.getfield 14, 3) := by decide +kernel
theorem dX5_refuse_8 : decode cX5_refuse 8 = .ok (.ifCond .ne 8, 3) := by decide +kernel
theorem dX5_refuse_11 : decode cX5_refuse 11 = .ok (.aload_n 0, 1) := by decide +kernel
theorem dX5_refuse_12 : decode cX5_refuse 12 = .ok (.iload_n 2, 1) := by decide +kernel
theorem dX5_refuse_13 : decode cX5_refuse 13 = .ok (.putfield 14, 3) := by decide +kernel
theorem dX5_refuse_16 : decode cX5_refuse 16 = .ok (.aload_n 0, 1) := by decide +kernel
theorem dX5_refuse_17 : decode cX5_refuse 17 = .ok (.getfield 14, 3) := by decide +kernel
theorem dX5_refuse_20 : decode cX5_refuse 20 = .ok (.ifCond .le 7, 3) := by decide +kernel
theorem dX5_refuse_23 : decode cX5_refuse 23 = .ok (.iconst 1, 1) := by decide +kernel
theorem dX5_refuse_24 : decode cX5_refuse 24 = .ok (.goto 4, 3) := by decide +kernel
theorem dX5_refuse_27 : decode cX5_refuse 27 = .ok (.iconst 0, 1) := by decide +kernel
theorem dX5_refuse_28 : decode cX5_refuse 28 = .ok (.ireturn, 1) := by decide +kernel
theorem dX5_start_0 : decode cX5_start 0 = .ok (.aload_n 0, 1) := by decide +kernel
theorem dX5_start_1 : decode cX5_start 1 = .ok (.iconst 0, 1) := by decide +kernel
theorem dX5_start_2 : decode cX5_start 2 = .ok (.putfield 14, 3) := by decide +kernel
theorem dX5_start_5 : decode cX5_start 5 = .ok (.aload_n 0, 1) := by decide +kernel
theorem dX5_start_6 : decode cX5_start 6 = .ok (.iload_n 1, 1) := by decide +kernel
theorem dX5_start_7 : decode cX5_start 7 = .ok (.iload_n 2, 1) := by decide +kernel
theorem dX5_start_8 : decode cX5_start 8 = .ok (.invokevirtual 18, 3) := by decide +kernel
theorem dX5_start_11 : decode cX5_start 11 = .ok (.ireturn, 1) := by decide +kernel
theorem dX5_isNo_0 : decode cX5_isNo 0 = .ok (.iload_n 0, 1) := by decide +kernel
theorem dX5_isNo_1 : decode cX5_isNo 1 = .ok (.iconst 0, 1) := by decide +kernel
theorem dX5_isNo_2 : decode cX5_isNo 2 = .ok (.bipush 8, 2) := by decide +kernel
theorem dX5_isNo_4 : decode cX5_isNo 4 = .ok (.invokestatic 22, 3) := by decide +kernel
theorem dX5_isNo_7 : decode cX5_isNo 7 = .ok (.ifCond .ne 7, 3) := by decide +kernel
theorem dX5_isNo_10 : decode cX5_isNo 10 = .ok (.iconst 1, 1) := by decide +kernel
theorem dX5_isNo_11 : decode cX5_isNo 11 = .ok (.goto 4, 3) := by decide +kernel
theorem dX5_isNo_14 : decode cX5_isNo 14 = .ok (.iconst 0, 1) := by decide +kernel
theorem dX5_isNo_15 : decode cX5_isNo 15 = .ok (.ireturn, 1) := by decide +kernel
theorem dX5_isSign_0 : decode cX5_isSign 0 = .ok (.iload_n 0, 1) := by decide +kernel
theorem dX5_isSign_1 : decode cX5_isSign 1 = .ok (.iconst 0, 1) := by decide +kernel
theorem dX5_isSign_2 : decode cX5_isSign 2 = .ok (.getstatic 26, 3) := by decide +kernel
theorem dX5_isSign_5 : decode cX5_isSign 5 = .ok (.arraylength, 1) := by decide +kernel
theorem dX5_isSign_6 : decode cX5_isSign 6 = .ok (.iconst 1, 1) := by decide +kernel
theorem dX5_isSign_7 : decode cX5_isSign 7 = .ok (.isub, 1) := by decide +kernel
theorem dX5_isSign_8 : decode cX5_isSign 8 = .ok (.invokestatic 22, 3) := by decide +kernel
theorem dX5_isSign_11 : decode cX5_isSign 11 = .ok (.ireturn, 1) := by decide +kernel
theorem dX5_no_0 : decode cX5_no 0 = .ok (.aload_n 0, 1) := by decide +kernel
theorem dX5_no_1 : decode cX5_no 1 = .ok (.dup, 1) := by decide +kernel
theorem dX5_no_2 : decode cX5_no 2 = .ok (.getfield 30, 3) := by decide +kernel
theorem dX5_no_5 : decode cX5_no 5 = .ok (.iconst 1, 1) := by decide +kernel
theorem dX5_no_6 : decode cX5_no 6 = .ok (.iadd, 1) := by decide +kernel
theorem dX5_no_7 : decode cX5_no 7 = .ok (.putfield 30, 3) := by decide +kernel
theorem dX5_no_10 : decode cX5_no 10 = .ok (.bipush (-9), 2) := by decide +kernel
theorem dX5_no_12 : decode cX5_no 12 = .ok (.ireturn, 1) := by decide +kernel
theorem dX5_many_0 : decode cX5_many 0 = .ok (.aload_n 0, 1) := by decide +kernel
theorem dX5_many_1 : decode cX5_many 1 = .ok (.getfield 11, 3) := by decide +kernel
theorem dX5_many_4 : decode cX5_many 4 = .ok (.iload_n 1, 1) := by decide +kernel
theorem dX5_many_5 : decode cX5_many 5 = .ok (.aaload, 1) := by decide +kernel
theorem dX5_many_6 : decode cX5_many 6 = .ok (.ifnonnull 7, 3) := by decide +kernel
theorem dX5_many_9 : decode cX5_many 9 = .ok (.iconst (-1), 1) := by decide +kernel
theorem dX5_many_10 : decode cX5_many 10 = .ok (.goto 10, 3) := by decide +kernel
theorem dX5_many_13 : decode cX5_many 13 = .ok (.aload_n 0, 1) := by decide +kernel
theorem dX5_many_14 : decode cX5_many 14 = .ok (.getfield 11, 3) := by decide +kernel
theorem dX5_many_17 : decode cX5_many 17 = .ok (.iload_n 1, 1) := by decide +kernel
theorem dX5_many_18 : decode cX5_many 18 = .ok (.aaload, 1) := by decide +kernel
theorem dX5_many_19 : decode cX5_many 19 = .ok (.arraylength, 1) := by decide +kernel
theorem dX5_many_20 : decode cX5_many 20 = .ok (.ireturn, 1) := by decide +kernel
theorem dX5_part_0 : decode cX5_part 0 = .ok (.iload_n 2, 1) := by decide +kernel
theorem dX5_part_1 : decode cX5_part 1 = .ok (.iload_n 1, 1) := by decide +kernel
theorem dX5_part_2 : decode cX5_part 2 = .ok (.isub, 1) := by decide +kernel
theorem dX5_part_3 : decode cX5_part 3 = .ok (.newarray .int, 2) := by decide +kernel
theorem dX5_part_5 : decode cX5_part 5 = .ok (.astore_n 3, 1) := by decide +kernel
theorem dX5_part_6 : decode cX5_part 6 = .ok (.iconst 0, 1) := by decide +kernel
theorem dX5_part_7 : decode cX5_part 7 = .ok (.istore 4, 2) := by decide +kernel
theorem dX5_part_9 : decode cX5_part 9 = .ok (.iload 4, 2) := by decide +kernel
theorem dX5_part_11 : decode cX5_part 11 = .ok (.aload_n 3, 1) := by decide +kernel
theorem dX5_part_12 : decode cX5_part 12 = .ok (.arraylength, 1) := by decide +kernel
theorem dX5_part_13 : decode cX5_part 13 = .ok (.if_icmp .ge 19, 3) := by decide +kernel
theorem dX5_part_16 : decode cX5_part 16 = .ok (.aload_n 3, 1) := by decide +kernel
theorem dX5_part_17 : decode cX5_part 17 = .ok (.iload 4, 2) := by decide +kernel
theorem dX5_part_19 : decode cX5_part 19 = .ok (.aload_n 0, 1) := by decide +kernel
theorem dX5_part_20 : decode cX5_part 20 = .ok (.iload_n 1, 1) := by decide +kernel
theorem dX5_part_21 : decode cX5_part 21 = .ok (.iload 4, 2) := by decide +kernel
theorem dX5_part_23 : decode cX5_part 23 = .ok (.iadd, 1) := by decide +kernel
theorem dX5_part_24 : decode cX5_part 24 = .ok (.iaload, 1) := by decide +kernel
theorem dX5_part_25 : decode cX5_part 25 = .ok (.iastore, 1) := by decide +kernel
theorem dX5_part_26 : decode cX5_part 26 = .ok (.iinc 4 1, 3) := by decide +kernel
theorem dX5_part_29 : decode cX5_part 29 = .ok (.goto (-20), 3) := by decide +kernel
theorem dX5_part_32 : decode cX5_part 32 = .ok (.aload_n 3, 1) := by decide +kernel
theorem dX5_part_33 : decode cX5_part 33 = .ok (.areturn, 1) := by decide +kernel
theorem dX5_with_0 : decode cX5_with 0 = .ok (.aload_n 0, 1) := by decide +kernel
theorem dX5_with_1 : decode cX5_with 1 = .ok (.arraylength, 1) := by decide +kernel
theorem dX5_with_2 : decode cX5_with 2 = .ok (.iconst 1, 1) := by decide +kernel
theorem dX5_with_3 : decode cX5_with 3 = .ok (.iadd, 1) := by decide +kernel
theorem dX5_with_4 : decode cX5_with 4 = .ok (.newarray .int, 2) := by decide +kernel
theorem dX5_with_6 : decode cX5_with 6 = .ok (.astore_n 2, 1) := by decide +kernel
theorem dX5_with_7 : decode cX5_with 7 = .ok (.iconst 0, 1) := by decide +kernel
theorem dX5_with_8 : decode cX5_with 8 = .ok (.istore_n 3, 1) := by decide +kernel
theorem dX5_with_9 : decode cX5_with 9 = .ok (.iload_n 3, 1) := by decide +kernel
theorem dX5_with_10 : decode cX5_with 10 = .ok (.aload_n 0, 1) := by decide +kernel
theorem dX5_with_11 : decode cX5_with 11 = .ok (.arraylength, 1) := by decide +kernel
theorem dX5_with_12 : decode cX5_with 12 = .ok (.if_icmp .ge 15, 3) := by decide +kernel
theorem dX5_with_15 : decode cX5_with 15 = .ok (.aload_n 2, 1) := by decide +kernel
theorem dX5_with_16 : decode cX5_with 16 = .ok (.iload_n 3, 1) := by decide +kernel
theorem dX5_with_17 : decode cX5_with 17 = .ok (.aload_n 0, 1) := by decide +kernel
theorem dX5_with_18 : decode cX5_with 18 = .ok (.iload_n 3, 1) := by decide +kernel
theorem dX5_with_19 : decode cX5_with 19 = .ok (.iaload, 1) := by decide +kernel
theorem dX5_with_20 : decode cX5_with 20 = .ok (.iastore, 1) := by decide +kernel
theorem dX5_with_21 : decode cX5_with 21 = .ok (.iinc 3 1, 3) := by decide +kernel
theorem dX5_with_24 : decode cX5_with 24 = .ok (.goto (-15), 3) := by decide +kernel
theorem dX5_with_27 : decode cX5_with 27 = .ok (.aload_n 2, 1) := by decide +kernel
theorem dX5_with_28 : decode cX5_with 28 = .ok (.aload_n 0, 1) := by decide +kernel
theorem dX5_with_29 : decode cX5_with 29 = .ok (.arraylength, 1) := by decide +kernel
theorem dX5_with_30 : decode cX5_with 30 = .ok (.iload_n 1, 1) := by decide +kernel
theorem dX5_with_31 : decode cX5_with 31 = .ok (.iastore, 1) := by decide +kernel
theorem dX5_with_32 : decode cX5_with 32 = .ok (.aload_n 2, 1) := by decide +kernel
theorem dX5_with_33 : decode cX5_with 33 = .ok (.areturn, 1) := by decide +kernel
theorem dX5_textOf_0 : decode cX5_textOf 0 = .ok (.ldc 33, 2) := by decide +kernel
theorem dX5_textOf_2 : decode cX5_textOf 2 = .ok (.astore_n 1, 1) := by decide +kernel
theorem dX5_textOf_3 : decode cX5_textOf 3 = .ok (.aload_n 0, 1) := by decide +kernel
theorem dX5_textOf_4 : decode cX5_textOf 4 = .ok (.astore_n 2, 1) := by decide +kernel
theorem dX5_textOf_5 : decode cX5_textOf 5 = .ok (.aload_n 2, 1) := by decide +kernel
theorem dX5_textOf_6 : decode cX5_textOf 6 = .ok (.arraylength, 1) := by decide +kernel
theorem dX5_textOf_7 : decode cX5_textOf 7 = .ok (.istore_n 3, 1) := by decide +kernel
theorem dX5_textOf_8 : decode cX5_textOf 8 = .ok (.iconst 0, 1) := by decide +kernel
theorem dX5_textOf_9 : decode cX5_textOf 9 = .ok (.istore 4, 2) := by decide +kernel
theorem dX5_textOf_11 : decode cX5_textOf 11 = .ok (.iload 4, 2) := by decide +kernel
theorem dX5_textOf_13 : decode cX5_textOf 13 = .ok (.iload_n 3, 1) := by decide +kernel
theorem dX5_textOf_14 : decode cX5_textOf 14 = .ok (.if_icmp .ge 40, 3) := by decide +kernel
theorem dX5_textOf_17 : decode cX5_textOf 17 = .ok (.aload_n 2, 1) := by decide +kernel
theorem dX5_textOf_18 : decode cX5_textOf 18 = .ok (.iload 4, 2) := by decide +kernel
theorem dX5_textOf_20 : decode cX5_textOf 20 = .ok (.iaload, 1) := by decide +kernel
theorem dX5_textOf_21 : decode cX5_textOf 21 = .ok (.istore 5, 2) := by decide +kernel
theorem dX5_textOf_23 : decode cX5_textOf 23 = .ok (.new 35, 3) := by decide +kernel
theorem dX5_textOf_26 : decode cX5_textOf 26 = .ok (.dup, 1) := by decide +kernel
theorem dX5_textOf_27 : decode cX5_textOf 27 = .ok (.invokespecial 37, 3) := by decide +kernel
theorem dX5_textOf_30 : decode cX5_textOf 30 = .ok (.aload_n 1, 1) := by decide +kernel
theorem dX5_textOf_31 : decode cX5_textOf 31 = .ok (.invokevirtual 38, 3) := by decide +kernel
theorem dX5_textOf_34 : decode cX5_textOf 34 = .ok (.getstatic 26, 3) := by decide +kernel
theorem dX5_textOf_37 : decode cX5_textOf 37 = .ok (.iload 5, 2) := by decide +kernel
theorem dX5_textOf_39 : decode cX5_textOf 39 = .ok (.iaload, 1) := by decide +kernel
theorem dX5_textOf_40 : decode cX5_textOf 40 = .ok (.i2c, 1) := by decide +kernel
theorem dX5_textOf_41 : decode cX5_textOf 41 = .ok (.invokevirtual 42, 3) := by decide +kernel
theorem dX5_textOf_44 : decode cX5_textOf 44 = .ok (.invokevirtual 45, 3) := by decide +kernel
theorem dX5_textOf_47 : decode cX5_textOf 47 = .ok (.astore_n 1, 1) := by decide +kernel
theorem dX5_textOf_48 : decode cX5_textOf 48 = .ok (.iinc 4 1, 3) := by decide +kernel
theorem dX5_textOf_51 : decode cX5_textOf 51 = .ok (.goto (-40), 3) := by decide +kernel
theorem dX5_textOf_54 : decode cX5_textOf 54 = .ok (.aload_n 1, 1) := by decide +kernel
theorem dX5_textOf_55 : decode cX5_textOf 55 = .ok (.areturn, 1) := by decide +kernel
theorem dX5_codeOf_0 : decode cX5_codeOf 0 = .ok (.iconst 0, 1) := by decide +kernel
theorem dX5_codeOf_1 : decode cX5_codeOf 1 = .ok (.istore_n 1, 1) := by decide +kernel
theorem dX5_codeOf_2 : decode cX5_codeOf 2 = .ok (.iconst 0, 1) := by decide +kernel
theorem dX5_codeOf_3 : decode cX5_codeOf 3 = .ok (.istore_n 2, 1) := by decide +kernel
theorem dX5_codeOf_4 : decode cX5_codeOf 4 = .ok (.aload_n 0, 1) := by decide +kernel
theorem dX5_codeOf_5 : decode cX5_codeOf 5 = .ok (.ifnull 28, 3) := by decide +kernel
theorem dX5_codeOf_8 : decode cX5_codeOf 8 = .ok (.iload_n 2, 1) := by decide +kernel
theorem dX5_codeOf_9 : decode cX5_codeOf 9 = .ok (.aload_n 0, 1) := by decide +kernel
theorem dX5_codeOf_10 : decode cX5_codeOf 10 = .ok (.arraylength, 1) := by decide +kernel
theorem dX5_codeOf_11 : decode cX5_codeOf 11 = .ok (.if_icmp .ge 22, 3) := by decide +kernel
theorem dX5_codeOf_14 : decode cX5_codeOf 14 = .ok (.iload_n 1, 1) := by decide +kernel
theorem dX5_codeOf_15 : decode cX5_codeOf 15 = .ok (.bipush 31, 2) := by decide +kernel
theorem dX5_codeOf_17 : decode cX5_codeOf 17 = .ok (.imul, 1) := by decide +kernel
theorem dX5_codeOf_18 : decode cX5_codeOf 18 = .ok (.getstatic 26, 3) := by decide +kernel
theorem dX5_codeOf_21 : decode cX5_codeOf 21 = .ok (.aload_n 0, 1) := by decide +kernel
theorem dX5_codeOf_22 : decode cX5_codeOf 22 = .ok (.iload_n 2, 1) := by decide +kernel
theorem dX5_codeOf_23 : decode cX5_codeOf 23 = .ok (.iaload, 1) := by decide +kernel
theorem dX5_codeOf_24 : decode cX5_codeOf 24 = .ok (.iaload, 1) := by decide +kernel
theorem dX5_codeOf_25 : decode cX5_codeOf 25 = .ok (.iadd, 1) := by decide +kernel
theorem dX5_codeOf_26 : decode cX5_codeOf 26 = .ok (.istore_n 1, 1) := by decide +kernel
theorem dX5_codeOf_27 : decode cX5_codeOf 27 = .ok (.iinc 2 1, 3) := by decide +kernel
theorem dX5_codeOf_30 : decode cX5_codeOf 30 = .ok (.goto (-26), 3) := by decide +kernel
theorem dX5_codeOf_33 : decode cX5_codeOf 33 = .ok (.iload_n 1, 1) := by decide +kernel
theorem dX5_codeOf_34 : decode cX5_codeOf 34 = .ok (.ireturn, 1) := by decide +kernel
theorem dX5_isSpan_0 : decode cX5_isSpan 0 = .ok (.lload_n 0, 1) := by decide +kernel
theorem dX5_isSpan_1 : decode cX5_isSpan 1 = .ok (.lconst 0, 1) := by decide +kernel
theorem dX5_isSpan_2 : decode cX5_isSpan 2 = .ok (.lcmp, 1) := by decide +kernel
theorem dX5_isSpan_3 : decode cX5_isSpan 3 = .ok (.ifCond .lt 20, 3) := by decide +kernel
theorem dX5_isSpan_6 : decode cX5_isSpan 6 = .ok (.lload_n 0, 1) := by decide +kernel
theorem dX5_isSpan_7 : decode cX5_isSpan 7 = .ok (.lload_n 2, 1) := by decide +kernel
theorem dX5_isSpan_8 : decode cX5_isSpan 8 = .ok (.lcmp, 1) := by decide +kernel
theorem dX5_isSpan_9 : decode cX5_isSpan 9 = .ok (.ifCond .gt 14, 3) := by decide +kernel
theorem dX5_isSpan_12 : decode cX5_isSpan 12 = .ok (.lload_n 2, 1) := by decide +kernel
theorem dX5_isSpan_13 : decode cX5_isSpan 13 = .ok (.lload 4, 2) := by decide +kernel
theorem dX5_isSpan_15 : decode cX5_isSpan 15 = .ok (.lcmp, 1) := by decide +kernel
theorem dX5_isSpan_16 : decode cX5_isSpan 16 = .ok (.ifCond .gt 7, 3) := by decide +kernel
theorem dX5_isSpan_19 : decode cX5_isSpan 19 = .ok (.iconst 1, 1) := by decide +kernel
theorem dX5_isSpan_20 : decode cX5_isSpan 20 = .ok (.goto 4, 3) := by decide +kernel
theorem dX5_isSpan_23 : decode cX5_isSpan 23 = .ok (.iconst 0, 1) := by decide +kernel
theorem dX5_isSpan_24 : decode cX5_isSpan 24 = .ok (.ireturn, 1) := by decide +kernel
theorem dX5_isStretch_0 : decode cX5_isStretch 0 = .ok (.lload_n 0, 1) := by decide +kernel
theorem dX5_isStretch_1 : decode cX5_isStretch 1 = .ok (.lconst 0, 1) := by decide +kernel
theorem dX5_isStretch_2 : decode cX5_isStretch 2 = .ok (.lcmp, 1) := by decide +kernel
theorem dX5_isStretch_3 : decode cX5_isStretch 3 = .ok (.ifCond .lt 29, 3) := by decide +kernel
theorem dX5_isStretch_6 : decode cX5_isStretch 6 = .ok (.lload_n 2, 1) := by decide +kernel
theorem dX5_isStretch_7 : decode cX5_isStretch 7 = .ok (.lconst 0, 1) := by decide +kernel
theorem dX5_isStretch_8 : decode cX5_isStretch 8 = .ok (.lcmp, 1) := by decide +kernel
theorem dX5_isStretch_9 : decode cX5_isStretch 9 = .ok (.ifCond .lt 23, 3) := by decide +kernel
theorem dX5_isStretch_12 : decode cX5_isStretch 12 = .ok (.lload 4, 2) := by decide +kernel
theorem dX5_isStretch_14 : decode cX5_isStretch 14 = .ok (.lconst 0, 1) := by decide +kernel
theorem dX5_isStretch_15 : decode cX5_isStretch 15 = .ok (.lcmp, 1) := by decide +kernel
theorem dX5_isStretch_16 : decode cX5_isStretch 16 = .ok (.ifCond .lt 16, 3) := by decide +kernel
theorem dX5_isStretch_19 : decode cX5_isStretch 19 = .ok (.lload_n 0, 1) := by decide +kernel
theorem dX5_isStretch_20 : decode cX5_isStretch 20 = .ok (.lload_n 2, 1) := by decide +kernel
theorem dX5_isStretch_21 : decode cX5_isStretch 21 = .ok (.ladd, 1) := by decide +kernel
theorem dX5_isStretch_22 : decode cX5_isStretch 22 = .ok (.lload 4, 2) := by decide +kernel
theorem dX5_isStretch_24 : decode cX5_isStretch 24 = .ok (.lcmp, 1) := by decide +kernel
theorem dX5_isStretch_25 : decode cX5_isStretch 25 = .ok (.ifCond .gt 7, 3) := by decide +kernel
theorem dX5_isStretch_28 : decode cX5_isStretch 28 = .ok (.iconst 1, 1) := by decide +kernel
theorem dX5_isStretch_29 : decode cX5_isStretch 29 = .ok (.goto 4, 3) := by decide +kernel
theorem dX5_isStretch_32 : decode cX5_isStretch 32 = .ok (.iconst 0, 1) := by decide +kernel
theorem dX5_isStretch_33 : decode cX5_isStretch 33 = .ok (.ireturn, 1) := by decide +kernel
theorem dX5_compared_0 : decode cX5_compared 0 = .ok (.iconst 0, 1) := by decide +kernel
theorem dX5_compared_1 : decode cX5_compared 1 = .ok (.istore_n 2, 1) := by decide +kernel
theorem dX5_compared_2 : decode cX5_compared 2 = .ok (.iload_n 2, 1) := by decide +kernel
theorem dX5_compared_3 : decode cX5_compared 3 = .ok (.aload_n 0, 1) := by decide +kernel
theorem dX5_compared_4 : decode cX5_compared 4 = .ok (.arraylength, 1) := by decide +kernel
theorem dX5_compared_5 : decode cX5_compared 5 = .ok (.if_icmp .ge 39, 3) := by decide +kernel
theorem dX5_compared_8 : decode cX5_compared 8 = .ok (.iload_n 2, 1) := by decide +kernel
theorem dX5_compared_9 : decode cX5_compared 9 = .ok (.aload_n 1, 1) := by decide +kernel
theorem dX5_compared_10 : decode cX5_compared 10 = .ok (.arraylength, 1) := by decide +kernel
theorem dX5_compared_11 : decode cX5_compared 11 = .ok (.if_icmp .ge 33, 3) := by decide +kernel
theorem dX5_compared_14 : decode cX5_compared 14 = .ok (.aload_n 0, 1) := by decide +kernel
theorem dX5_compared_15 : decode cX5_compared 15 = .ok (.iload_n 2, 1) := by decide +kernel
theorem dX5_compared_16 : decode cX5_compared 16 = .ok (.iaload, 1) := by decide +kernel
theorem dX5_compared_17 : decode cX5_compared 17 = .ok (.aload_n 1, 1) := by decide +kernel
theorem dX5_compared_18 : decode cX5_compared 18 = .ok (.iload_n 2, 1) := by decide +kernel
theorem dX5_compared_19 : decode cX5_compared 19 = .ok (.iaload, 1) := by decide +kernel
theorem dX5_compared_20 : decode cX5_compared 20 = .ok (.if_icmp .eq 18, 3) := by decide +kernel
theorem dX5_compared_23 : decode cX5_compared 23 = .ok (.aload_n 0, 1) := by decide +kernel
theorem dX5_compared_24 : decode cX5_compared 24 = .ok (.iload_n 2, 1) := by decide +kernel
theorem dX5_compared_25 : decode cX5_compared 25 = .ok (.iaload, 1) := by decide +kernel
theorem dX5_compared_26 : decode cX5_compared 26 = .ok (.aload_n 1, 1) := by decide +kernel
theorem dX5_compared_27 : decode cX5_compared 27 = .ok (.iload_n 2, 1) := by decide +kernel
theorem dX5_compared_28 : decode cX5_compared 28 = .ok (.iaload, 1) := by decide +kernel
theorem dX5_compared_29 : decode cX5_compared 29 = .ok (.if_icmp .ge 7, 3) := by decide +kernel
theorem dX5_compared_32 : decode cX5_compared 32 = .ok (.iconst (-1), 1) := by decide +kernel
theorem dX5_compared_33 : decode cX5_compared 33 = .ok (.goto 4, 3) := by decide +kernel
theorem dX5_compared_36 : decode cX5_compared 36 = .ok (.iconst 1, 1) := by decide +kernel
theorem dX5_compared_37 : decode cX5_compared 37 = .ok (.ireturn, 1) := by decide +kernel
theorem dX5_compared_38 : decode cX5_compared 38 = .ok (.iinc 2 1, 3) := by decide +kernel
theorem dX5_compared_41 : decode cX5_compared 41 = .ok (.goto (-39), 3) := by decide +kernel
theorem dX5_compared_44 : decode cX5_compared 44 = .ok (.aload_n 0, 1) := by decide +kernel
theorem dX5_compared_45 : decode cX5_compared 45 = .ok (.arraylength, 1) := by decide +kernel
theorem dX5_compared_46 : decode cX5_compared 46 = .ok (.aload_n 1, 1) := by decide +kernel
theorem dX5_compared_47 : decode cX5_compared 47 = .ok (.arraylength, 1) := by decide +kernel
theorem dX5_compared_48 : decode cX5_compared 48 = .ok (.if_icmp .ge 7, 3) := by decide +kernel
theorem dX5_compared_51 : decode cX5_compared 51 = .ok (.iconst (-1), 1) := by decide +kernel
theorem dX5_compared_52 : decode cX5_compared 52 = .ok (.goto 18, 3) := by decide +kernel
theorem dX5_compared_55 : decode cX5_compared 55 = .ok (.aload_n 0, 1) := by decide +kernel
theorem dX5_compared_56 : decode cX5_compared 56 = .ok (.arraylength, 1) := by decide +kernel
theorem dX5_compared_57 : decode cX5_compared 57 = .ok (.aload_n 1, 1) := by decide +kernel
theorem dX5_compared_58 : decode cX5_compared 58 = .ok (.arraylength, 1) := by decide +kernel
theorem dX5_compared_59 : decode cX5_compared 59 = .ok (.if_icmp .le 7, 3) := by decide +kernel
theorem dX5_compared_62 : decode cX5_compared 62 = .ok (.iconst 1, 1) := by decide +kernel
theorem dX5_compared_63 : decode cX5_compared 63 = .ok (.goto 4, 3) := by decide +kernel
theorem dX5_compared_66 : decode cX5_compared 66 = .ok (.iconst 0, 1) := by decide +kernel
theorem dX5_compared_67 : decode cX5_compared 67 = .ok (.invokestatic 49, 3) := by decide +kernel
theorem dX5_compared_70 : decode cX5_compared 70 = .ok (.ireturn, 1) := by decide +kernel
theorem dX5_smalls_0 : decode cX5_smalls 0 = .ok (.iconst 0, 1) := by decide +kernel
theorem dX5_smalls_1 : decode cX5_smalls 1 = .ok (.istore_n 1, 1) := by decide +kernel
theorem dX5_smalls_2 : decode cX5_smalls 2 = .ok (.aload_n 0, 1) := by decide +kernel
theorem dX5_smalls_3 : decode cX5_smalls 3 = .ok (.astore_n 2, 1) := by decide +kernel
theorem dX5_smalls_4 : decode cX5_smalls 4 = .ok (.aload_n 2, 1) := by decide +kernel
theorem dX5_smalls_5 : decode cX5_smalls 5 = .ok (.arraylength, 1) := by decide +kernel
theorem dX5_smalls_6 : decode cX5_smalls 6 = .ok (.istore_n 3, 1) := by decide +kernel
theorem dX5_smalls_7 : decode cX5_smalls 7 = .ok (.iconst 0, 1) := by decide +kernel
theorem dX5_smalls_8 : decode cX5_smalls 8 = .ok (.istore 4, 2) := by decide +kernel
theorem dX5_smalls_10 : decode cX5_smalls 10 = .ok (.iload 4, 2) := by decide +kernel
theorem dX5_smalls_12 : decode cX5_smalls 12 = .ok (.iload_n 3, 1) := by decide +kernel
theorem dX5_smalls_13 : decode cX5_smalls 13 = .ok (.if_icmp .ge 33, 3) := by decide +kernel
theorem dX5_smalls_16 : decode cX5_smalls 16 = .ok (.aload_n 2, 1) := by decide +kernel
theorem dX5_smalls_17 : decode cX5_smalls 17 = .ok (.iload 4, 2) := by decide +kernel
theorem dX5_smalls_19 : decode cX5_smalls 19 = .ok (.iaload, 1) := by decide +kernel
theorem dX5_smalls_20 : decode cX5_smalls 20 = .ok (.istore 5, 2) := by decide +kernel
theorem dX5_smalls_22 : decode cX5_smalls 22 = .ok (.iload_n 1, 1) := by decide +kernel
theorem dX5_smalls_23 : decode cX5_smalls 23 = .ok (.iload 5, 2) := by decide +kernel
theorem dX5_smalls_25 : decode cX5_smalls 25 = .ok (.bipush 6, 2) := by decide +kernel
theorem dX5_smalls_27 : decode cX5_smalls 27 = .ok (.if_icmp .ne 7, 3) := by decide +kernel
theorem dX5_smalls_30 : decode cX5_smalls 30 = .ok (.iconst 1, 1) := by decide +kernel
theorem dX5_smalls_31 : decode cX5_smalls 31 = .ok (.goto 4, 3) := by decide +kernel
theorem dX5_smalls_34 : decode cX5_smalls 34 = .ok (.iconst 0, 1) := by decide +kernel
theorem dX5_smalls_35 : decode cX5_smalls 35 = .ok (.invokestatic 49, 3) := by decide +kernel
theorem dX5_smalls_38 : decode cX5_smalls 38 = .ok (.iadd, 1) := by decide +kernel
theorem dX5_smalls_39 : decode cX5_smalls 39 = .ok (.istore_n 1, 1) := by decide +kernel
theorem dX5_smalls_40 : decode cX5_smalls 40 = .ok (.iinc 4 1, 3) := by decide +kernel
theorem dX5_smalls_43 : decode cX5_smalls 43 = .ok (.goto (-33), 3) := by decide +kernel
theorem dX5_smalls_46 : decode cX5_smalls 46 = .ok (.iload_n 1, 1) := by decide +kernel
theorem dX5_smalls_47 : decode cX5_smalls 47 = .ok (.ireturn, 1) := by decide +kernel
theorem dX5_before_0 : decode cX5_before 0 = .ok (.iload_n 0, 1) := by decide +kernel
theorem dX5_before_1 : decode cX5_before 1 = .ok (.iload_n 1, 1) := by decide +kernel
theorem dX5_before_2 : decode cX5_before 2 = .ok (.if_icmp .ge 7, 3) := by decide +kernel
theorem dX5_before_5 : decode cX5_before 5 = .ok (.iconst (-1), 1) := by decide +kernel
theorem dX5_before_6 : decode cX5_before 6 = .ok (.goto 16, 3) := by decide +kernel
theorem dX5_before_9 : decode cX5_before 9 = .ok (.iload_n 0, 1) := by decide +kernel
theorem dX5_before_10 : decode cX5_before 10 = .ok (.iload_n 1, 1) := by decide +kernel
theorem dX5_before_11 : decode cX5_before 11 = .ok (.if_icmp .le 7, 3) := by decide +kernel
theorem dX5_before_14 : decode cX5_before 14 = .ok (.iconst 1, 1) := by decide +kernel
theorem dX5_before_15 : decode cX5_before 15 = .ok (.goto 4, 3) := by decide +kernel
theorem dX5_before_18 : decode cX5_before 18 = .ok (.iconst 0, 1) := by decide +kernel
theorem dX5_before_19 : decode cX5_before 19 = .ok (.invokestatic 49, 3) := by decide +kernel
theorem dX5_before_22 : decode cX5_before 22 = .ok (.ireturn, 1) := by decide +kernel
theorem dX5_ordered_0 : decode cX5_ordered 0 = .ok (.aload_n 0, 1) := by decide +kernel
theorem dX5_ordered_1 : decode cX5_ordered 1 = .ok (.getfield 11, 3) := by decide +kernel
theorem dX5_ordered_4 : decode cX5_ordered 4 = .ok (.iload_n 1, 1) := by decide +kernel
theorem dX5_ordered_5 : decode cX5_ordered 5 = .ok (.aaload, 1) := by decide +kernel
theorem dX5_ordered_6 : decode cX5_ordered 6 = .ok (.astore 4, 2) := by decide +kernel
theorem dX5_ordered_8 : decode cX5_ordered 8 = .ok (.aload_n 0, 1) := by decide +kernel
theorem dX5_ordered_9 : decode cX5_ordered 9 = .ok (.getfield 11, 3) := by decide +kernel
theorem dX5_ordered_12 : decode cX5_ordered 12 = .ok (.iload_n 2, 1) := by decide +kernel
theorem dX5_ordered_13 : decode cX5_ordered 13 = .ok (.aaload, 1) := by decide +kernel
theorem dX5_ordered_14 : decode cX5_ordered 14 = .ok (.astore 5, 2) := by decide +kernel
theorem dX5_ordered_16 : decode cX5_ordered 16 = .ok (.aload 4, 2) := by decide +kernel
theorem dX5_ordered_18 : decode cX5_ordered 18 = .ok (.ifnull 8, 3) := by decide +kernel
theorem dX5_ordered_21 : decode cX5_ordered 21 = .ok (.aload 5, 2) := by decide +kernel
theorem dX5_ordered_23 : decode cX5_ordered 23 = .ok (.ifnonnull 33, 3) := by decide +kernel
theorem dX5_ordered_26 : decode cX5_ordered 26 = .ok (.aload 4, 2) := by decide +kernel
theorem dX5_ordered_28 : decode cX5_ordered 28 = .ok (.ifnull 7, 3) := by decide +kernel
theorem dX5_ordered_31 : decode cX5_ordered 31 = .ok (.iconst 1, 1) := by decide +kernel
theorem dX5_ordered_32 : decode cX5_ordered 32 = .ok (.goto 4, 3) := by decide +kernel
theorem dX5_ordered_35 : decode cX5_ordered 35 = .ok (.iconst 0, 1) := by decide +kernel
theorem dX5_ordered_36 : decode cX5_ordered 36 = .ok (.invokestatic 49, 3) := by decide +kernel
theorem dX5_ordered_39 : decode cX5_ordered 39 = .ok (.aload 5, 2) := by decide +kernel
theorem dX5_ordered_41 : decode cX5_ordered 41 = .ok (.ifnull 7, 3) := by decide +kernel
theorem dX5_ordered_44 : decode cX5_ordered 44 = .ok (.iconst 1, 1) := by decide +kernel
theorem dX5_ordered_45 : decode cX5_ordered 45 = .ok (.goto 4, 3) := by decide +kernel
theorem dX5_ordered_48 : decode cX5_ordered 48 = .ok (.iconst 0, 1) := by decide +kernel
theorem dX5_ordered_49 : decode cX5_ordered 49 = .ok (.invokestatic 49, 3) := by decide +kernel
theorem dX5_ordered_52 : decode cX5_ordered 52 = .ok (.invokestatic 53, 3) := by decide +kernel
theorem dX5_ordered_55 : decode cX5_ordered 55 = .ok (.ireturn, 1) := by decide +kernel
theorem dX5_ordered_56 : decode cX5_ordered 56 = .ok (.iload_n 3, 1) := by decide +kernel
theorem dX5_ordered_57 : decode cX5_ordered 57 = .ok (.iconst 3, 1) := by decide +kernel
theorem dX5_ordered_58 : decode cX5_ordered 58 = .ok (.if_icmp .ne 17, 3) := by decide +kernel
theorem dX5_ordered_61 : decode cX5_ordered 61 = .ok (.aload 4, 2) := by decide +kernel
theorem dX5_ordered_63 : decode cX5_ordered 63 = .ok (.invokestatic 57, 3) := by decide +kernel
theorem dX5_ordered_66 : decode cX5_ordered 66 = .ok (.aload 5, 2) := by decide +kernel
theorem dX5_ordered_68 : decode cX5_ordered 68 = .ok (.invokestatic 57, 3) := by decide +kernel
theorem dX5_ordered_71 : decode cX5_ordered 71 = .ok (.invokestatic 53, 3) := by decide +kernel
theorem dX5_ordered_74 : decode cX5_ordered 74 = .ok (.ireturn, 1) := by decide +kernel
theorem dX5_ordered_75 : decode cX5_ordered 75 = .ok (.iload_n 3, 1) := by decide +kernel
theorem dX5_ordered_76 : decode cX5_ordered 76 = .ok (.iconst 2, 1) := by decide +kernel
theorem dX5_ordered_77 : decode cX5_ordered 77 = .ok (.if_icmp .ne 15, 3) := by decide +kernel
theorem dX5_ordered_80 : decode cX5_ordered 80 = .ok (.aload 4, 2) := by decide +kernel
theorem dX5_ordered_82 : decode cX5_ordered 82 = .ok (.arraylength, 1) := by decide +kernel
theorem dX5_ordered_83 : decode cX5_ordered 83 = .ok (.aload 5, 2) := by decide +kernel
theorem dX5_ordered_85 : decode cX5_ordered 85 = .ok (.arraylength, 1) := by decide +kernel
theorem dX5_ordered_86 : decode cX5_ordered 86 = .ok (.invokestatic 53, 3) := by decide +kernel
theorem dX5_ordered_89 : decode cX5_ordered 89 = .ok (.goto 4, 3) := by decide +kernel
theorem dX5_ordered_92 : decode cX5_ordered 92 = .ok (.iconst 0, 1) := by decide +kernel
theorem dX5_ordered_93 : decode cX5_ordered 93 = .ok (.istore 6, 2) := by decide +kernel
theorem dX5_ordered_95 : decode cX5_ordered 95 = .ok (.iload 6, 2) := by decide +kernel
theorem dX5_ordered_97 : decode cX5_ordered 97 = .ok (.ifCond .ne 12, 3) := by decide +kernel
theorem dX5_ordered_100 : decode cX5_ordered 100 = .ok (.aload 4, 2) := by decide +kernel
theorem dX5_ordered_102 : decode cX5_ordered 102 = .ok (.aload 5, 2) := by decide +kernel
theorem dX5_ordered_104 : decode cX5_ordered 104 = .ok (.invokestatic 61, 3) := by decide +kernel
theorem dX5_ordered_107 : decode cX5_ordered 107 = .ok (.istore 6, 2) := by decide +kernel
theorem dX5_ordered_109 : decode cX5_ordered 109 = .ok (.iload_n 3, 1) := by decide +kernel
theorem dX5_ordered_110 : decode cX5_ordered 110 = .ok (.iconst 1, 1) := by decide +kernel
theorem dX5_ordered_111 : decode cX5_ordered 111 = .ok (.if_icmp .ne 9, 3) := by decide +kernel
theorem dX5_ordered_114 : decode cX5_ordered 114 = .ok (.iload 6, 2) := by decide +kernel
theorem dX5_ordered_116 : decode cX5_ordered 116 = .ok (.ineg, 1) := by decide +kernel
theorem dX5_ordered_117 : decode cX5_ordered 117 = .ok (.goto 5, 3) := by decide +kernel
theorem dX5_ordered_120 : decode cX5_ordered 120 = .ok (.iload 6, 2) := by decide +kernel
theorem dX5_ordered_122 : decode cX5_ordered 122 = .ok (.ireturn, 1) := by decide +kernel
theorem dX5_isAsked_0 : decode cX5_isAsked 0 = .ok (.iload_n 1, 1) := by decide +kernel
theorem dX5_isAsked_1 : decode cX5_isAsked 1 = .ok (.iload_n 2, 1) := by decide +kernel
theorem dX5_isAsked_2 : decode cX5_isAsked 2 = .ok (.if_icmp .eq 25, 3) := by decide +kernel
theorem dX5_isAsked_5 : decode cX5_isAsked 5 = .ok (.aload_n 0, 1) := by decide +kernel
theorem dX5_isAsked_6 : decode cX5_isAsked 6 = .ok (.getfield 11, 3) := by decide +kernel
theorem dX5_isAsked_9 : decode cX5_isAsked 9 = .ok (.iload_n 1, 1) := by decide +kernel
theorem dX5_isAsked_10 : decode cX5_isAsked 10 = .ok (.aaload, 1) := by decide +kernel
theorem dX5_isAsked_11 : decode cX5_isAsked 11 = .ok (.ifnonnull 12, 3) := by decide +kernel
theorem dX5_isAsked_14 : decode cX5_isAsked 14 = .ok (.aload_n 0, 1) := by decide +kernel
theorem dX5_isAsked_15 : decode cX5_isAsked 15 = .ok (.getfield 11, 3) := by decide +kernel
theorem dX5_isAsked_18 : decode cX5_isAsked 18 = .ok (.iload_n 2, 1) := by decide +kernel
theorem dX5_isAsked_19 : decode cX5_isAsked 19 = .ok (.aaload, 1) := by decide +kernel
theorem dX5_isAsked_20 : decode cX5_isAsked 20 = .ok (.ifnull 7, 3) := by decide +kernel
theorem dX5_isAsked_23 : decode cX5_isAsked 23 = .ok (.iconst 1, 1) := by decide +kernel
theorem dX5_isAsked_24 : decode cX5_isAsked 24 = .ok (.goto 4, 3) := by decide +kernel
theorem dX5_isAsked_27 : decode cX5_isAsked 27 = .ok (.iconst 0, 1) := by decide +kernel
theorem dX5_isAsked_28 : decode cX5_isAsked 28 = .ok (.ireturn, 1) := by decide +kernel
theorem dX5_write_0 : decode cX5_write 0 = .ok (.iconst 3, 1) := by decide +kernel
theorem dX5_write_1 : decode cX5_write 1 = .ok (.newarray .int, 2) := by decide +kernel
theorem dX5_write_3 : decode cX5_write 3 = .ok (.dup, 1) := by decide +kernel
theorem dX5_write_4 : decode cX5_write 4 = .ok (.iconst 0, 1) := by decide +kernel
theorem dX5_write_5 : decode cX5_write 5 = .ok (.iload_n 2, 1) := by decide +kernel
theorem dX5_write_6 : decode cX5_write 6 = .ok (.iastore, 1) := by decide +kernel
theorem dX5_write_7 : decode cX5_write 7 = .ok (.dup, 1) := by decide +kernel
theorem dX5_write_8 : decode cX5_write 8 = .ok (.iconst 1, 1) := by decide +kernel
theorem dX5_write_9 : decode cX5_write 9 = .ok (.iload_n 3, 1) := by decide +kernel
theorem dX5_write_10 : decode cX5_write 10 = .ok (.iastore, 1) := by decide +kernel
theorem dX5_write_11 : decode cX5_write 11 = .ok (.dup, 1) := by decide +kernel
theorem dX5_write_12 : decode cX5_write 12 = .ok (.iconst 2, 1) := by decide +kernel
theorem dX5_write_13 : decode cX5_write 13 = .ok (.iload 4, 2) := by decide +kernel
theorem dX5_write_15 : decode cX5_write 15 = .ok (.iastore, 1) := by decide +kernel
theorem dX5_write_16 : decode cX5_write 16 = .ok (.astore 5, 2) := by decide +kernel
theorem dX5_write_18 : decode cX5_write 18 = .ok (.iconst 0, 1) := by decide +kernel
theorem dX5_write_19 : decode cX5_write 19 = .ok (.istore 6, 2) := by decide +kernel
theorem dX5_write_21 : decode cX5_write 21 = .ok (.iconst 0, 1) := by decide +kernel
theorem dX5_write_22 : decode cX5_write 22 = .ok (.istore 7, 2) := by decide +kernel
theorem dX5_write_24 : decode cX5_write 24 = .ok (.iconst 0, 1) := by decide +kernel
theorem dX5_write_25 : decode cX5_write 25 = .ok (.istore 8, 2) := by decide +kernel
theorem dX5_write_27 : decode cX5_write 27 = .ok (.iload 8, 2) := by decide +kernel
theorem dX5_write_29 : decode cX5_write 29 = .ok (.iconst 3, 1) := by decide +kernel
theorem dX5_write_30 : decode cX5_write 30 = .ok (.if_icmp .ge 68, 3) := by decide +kernel
theorem dX5_write_33 : decode cX5_write 33 = .ok (.iload 6, 2) := by decide +kernel
theorem dX5_write_35 : decode cX5_write 35 = .ok (.aload 5, 2) := by decide +kernel
theorem dX5_write_37 : decode cX5_write 37 = .ok (.iload 8, 2) := by decide +kernel
theorem dX5_write_39 : decode cX5_write 39 = .ok (.iaload, 1) := by decide +kernel
theorem dX5_write_40 : decode cX5_write 40 = .ok (.iconst (-1), 1) := by decide +kernel
theorem dX5_write_41 : decode cX5_write 41 = .ok (.if_icmp .eq 18, 3) := by decide +kernel
theorem dX5_write_44 : decode cX5_write 44 = .ok (.aload 5, 2) := by decide +kernel
theorem dX5_write_46 : decode cX5_write 46 = .ok (.iload 8, 2) := by decide +kernel
theorem dX5_write_48 : decode cX5_write 48 = .ok (.iaload, 1) := by decide +kernel
theorem dX5_write_49 : decode cX5_write 49 = .ok (.invokestatic 65, 3) := by decide +kernel
theorem dX5_write_52 : decode cX5_write 52 = .ok (.ifCond .ne 7, 3) := by decide +kernel
theorem dX5_write_55 : decode cX5_write 55 = .ok (.iconst 1, 1) := by decide +kernel
theorem dX5_write_56 : decode cX5_write 56 = .ok (.goto 4, 3) := by decide +kernel
theorem dX5_write_59 : decode cX5_write 59 = .ok (.iconst 0, 1) := by decide +kernel
theorem dX5_write_60 : decode cX5_write 60 = .ok (.ior, 1) := by decide +kernel
theorem dX5_write_61 : decode cX5_write 61 = .ok (.istore 6, 2) := by decide +kernel
theorem dX5_write_63 : decode cX5_write 63 = .ok (.iload 7, 2) := by decide +kernel
theorem dX5_write_65 : decode cX5_write 65 = .ok (.iload 7, 2) := by decide +kernel
theorem dX5_write_67 : decode cX5_write 67 = .ok (.iload 8, 2) := by decide +kernel
theorem dX5_write_69 : decode cX5_write 69 = .ok (.if_icmp .ne 16, 3) := by decide +kernel
theorem dX5_write_72 : decode cX5_write 72 = .ok (.aload 5, 2) := by decide +kernel
theorem dX5_write_74 : decode cX5_write 74 = .ok (.iload 8, 2) := by decide +kernel
theorem dX5_write_76 : decode cX5_write 76 = .ok (.iaload, 1) := by decide +kernel
theorem dX5_write_77 : decode cX5_write 77 = .ok (.iconst (-1), 1) := by decide +kernel
theorem dX5_write_78 : decode cX5_write 78 = .ok (.if_icmp .eq 7, 3) := by decide +kernel
theorem dX5_write_81 : decode cX5_write 81 = .ok (.iconst 1, 1) := by decide +kernel
theorem dX5_write_82 : decode cX5_write 82 = .ok (.goto 4, 3) := by decide +kernel
theorem dX5_write_85 : decode cX5_write 85 = .ok (.iconst 0, 1) := by decide +kernel
theorem dX5_write_86 : decode cX5_write 86 = .ok (.invokestatic 49, 3) := by decide +kernel
theorem dX5_write_89 : decode cX5_write 89 = .ok (.iadd, 1) := by decide +kernel
theorem dX5_write_90 : decode cX5_write 90 = .ok (.istore 7, 2) := by decide +kernel
theorem dX5_write_92 : decode cX5_write 92 = .ok (.iinc 8 1, 3) := by decide +kernel
theorem dX5_write_95 : decode cX5_write 95 = .ok (.goto (-68), 3) := by decide +kernel
theorem dX5_write_98 : decode cX5_write 98 = .ok (.aload_n 0, 1) := by decide +kernel
theorem dX5_write_99 : decode cX5_write 99 = .ok (.iload_n 1, 1) := by decide +kernel
theorem dX5_write_100 : decode cX5_write 100 = .ok (.invokestatic 69, 3) := by decide +kernel
theorem dX5_write_103 : decode cX5_write 103 = .ok (.iconst 1, 1) := by decide +kernel
theorem dX5_write_104 : decode cX5_write 104 = .ok (.invokevirtual 72, 3) := by decide +kernel
theorem dX5_write_107 : decode cX5_write 107 = .ok (.ifCond .ne 48, 3) := by decide +kernel
theorem dX5_write_110 : decode cX5_write 110 = .ok (.aload_n 0, 1) := by decide +kernel
theorem dX5_write_111 : decode cX5_write 111 = .ok (.iload 6, 2) := by decide +kernel
theorem dX5_write_113 : decode cX5_write 113 = .ok (.iconst 2, 1) := by decide +kernel
theorem dX5_write_114 : decode cX5_write 114 = .ok (.invokevirtual 18, 3) := by decide +kernel
theorem dX5_write_117 : decode cX5_write 117 = .ok (.ifCond .ne 38, 3) := by decide +kernel
theorem dX5_write_120 : decode cX5_write 120 = .ok (.aload_n 0, 1) := by decide +kernel
theorem dX5_write_121 : decode cX5_write 121 = .ok (.aload_n 0, 1) := by decide +kernel
theorem dX5_write_122 : decode cX5_write 122 = .ok (.getfield 11, 3) := by decide +kernel
theorem dX5_write_125 : decode cX5_write 125 = .ok (.iload_n 1, 1) := by decide +kernel
theorem dX5_write_126 : decode cX5_write 126 = .ok (.aaload, 1) := by decide +kernel
theorem dX5_write_127 : decode cX5_write 127 = .ok (.ifnull 16, 3) := by decide +kernel
theorem dX5_write_130 : decode cX5_write 130 = .ok (.aload_n 0, 1) := by decide +kernel
theorem dX5_write_131 : decode cX5_write 131 = .ok (.iload_n 1, 1) := by decide +kernel
theorem dX5_write_132 : decode cX5_write 132 = .ok (.invokevirtual 75, 3) := by decide +kernel
theorem dX5_write_135 : decode cX5_write 135 = .ok (.iload 7, 2) := by decide +kernel
theorem dX5_write_137 : decode cX5_write 137 = .ok (.iadd, 1) := by decide +kernel
theorem dX5_write_138 : decode cX5_write 138 = .ok (.bipush 24, 2) := by decide +kernel
theorem dX5_write_140 : decode cX5_write 140 = .ok (.if_icmp .le 7, 3) := by decide +kernel
theorem dX5_write_143 : decode cX5_write 143 = .ok (.iconst 1, 1) := by decide +kernel
theorem dX5_write_144 : decode cX5_write 144 = .ok (.goto 4, 3) := by decide +kernel
theorem dX5_write_147 : decode cX5_write 147 = .ok (.iconst 0, 1) := by decide +kernel
theorem dX5_write_148 : decode cX5_write 148 = .ok (.iconst 3, 1) := by decide +kernel
theorem dX5_write_149 : decode cX5_write 149 = .ok (.invokevirtual 18, 3) := by decide +kernel
theorem dX5_write_152 : decode cX5_write 152 = .ok (.ifCond .eq 5, 3) := by decide +kernel
theorem dX5_write_155 : decode cX5_write 155 = .ok (.iconst 0, 1) := by decide +kernel
theorem dX5_write_156 : decode cX5_write 156 = .ok (.ireturn, 1) := by decide +kernel
theorem dX5_write_157 : decode cX5_write 157 = .ok (.iconst 0, 1) := by decide +kernel
theorem dX5_write_158 : decode cX5_write 158 = .ok (.istore 8, 2) := by decide +kernel
theorem dX5_write_160 : decode cX5_write 160 = .ok (.iload 8, 2) := by decide +kernel
theorem dX5_write_162 : decode cX5_write 162 = .ok (.iload 7, 2) := by decide +kernel
theorem dX5_write_164 : decode cX5_write 164 = .ok (.if_icmp .ge 29, 3) := by decide +kernel
theorem dX5_write_167 : decode cX5_write 167 = .ok (.aload_n 0, 1) := by decide +kernel
theorem dX5_write_168 : decode cX5_write 168 = .ok (.getfield 11, 3) := by decide +kernel
theorem dX5_write_171 : decode cX5_write 171 = .ok (.iload_n 1, 1) := by decide +kernel
theorem dX5_write_172 : decode cX5_write 172 = .ok (.aload_n 0, 1) := by decide +kernel
theorem dX5_write_173 : decode cX5_write 173 = .ok (.getfield 11, 3) := by decide +kernel
theorem dX5_write_176 : decode cX5_write 176 = .ok (.iload_n 1, 1) := by decide +kernel
theorem dX5_write_177 : decode cX5_write 177 = .ok (.aaload, 1) := by decide +kernel
theorem dX5_write_178 : decode cX5_write 178 = .ok (.aload 5, 2) := by decide +kernel
theorem dX5_write_180 : decode cX5_write 180 = .ok (.iload 8, 2) := by decide +kernel
theorem dX5_write_182 : decode cX5_write 182 = .ok (.iaload, 1) := by decide +kernel
theorem dX5_write_183 : decode cX5_write 183 = .ok (.invokestatic 79, 3) := by decide +kernel
theorem dX5_write_186 : decode cX5_write 186 = .ok (.aastore, 1) := by decide +kernel
theorem dX5_write_187 : decode cX5_write 187 = .ok (.iinc 8 1, 3) := by decide +kernel
theorem dX5_write_190 : decode cX5_write 190 = .ok (.goto (-30), 3) := by decide +kernel
theorem dX5_write_193 : decode cX5_write 193 = .ok (.aload_n 0, 1) := by decide +kernel
theorem dX5_write_194 : decode cX5_write 194 = .ok (.iload_n 1, 1) := by decide +kernel
theorem dX5_write_195 : decode cX5_write 195 = .ok (.invokevirtual 75, 3) := by decide +kernel
theorem dX5_write_198 : decode cX5_write 198 = .ok (.ireturn, 1) := by decide +kernel
theorem dX5_fill_0 : decode cX5_fill 0 = .ok (.aload_n 0, 1) := by decide +kernel
theorem dX5_fill_1 : decode cX5_fill 1 = .ok (.iload_n 1, 1) := by decide +kernel
theorem dX5_fill_2 : decode cX5_fill 2 = .ok (.invokestatic 69, 3) := by decide +kernel
theorem dX5_fill_5 : decode cX5_fill 5 = .ok (.iconst 1, 1) := by decide +kernel
theorem dX5_fill_6 : decode cX5_fill 6 = .ok (.invokevirtual 72, 3) := by decide +kernel
theorem dX5_fill_9 : decode cX5_fill 9 = .ok (.ifCond .ne 33, 3) := by decide +kernel
theorem dX5_fill_12 : decode cX5_fill 12 = .ok (.aload_n 0, 1) := by decide +kernel
theorem dX5_fill_13 : decode cX5_fill 13 = .ok (.iload_n 2, 1) := by decide +kernel
theorem dX5_fill_14 : decode cX5_fill 14 = .ok (.invokestatic 65, 3) := by decide +kernel
theorem dX5_fill_17 : decode cX5_fill 17 = .ok (.ifCond .eq 13, 3) := by decide +kernel
theorem dX5_fill_20 : decode cX5_fill 20 = .ok (.iload_n 3, 1) := by decide +kernel
theorem dX5_fill_21 : decode cX5_fill 21 = .ok (.iconst 0, 1) := by decide +kernel
theorem dX5_fill_22 : decode cX5_fill 22 = .ok (.bipush 24, 2) := by decide +kernel
theorem dX5_fill_24 : decode cX5_fill 24 = .ok (.invokestatic 22, 3) := by decide +kernel
theorem dX5_fill_27 : decode cX5_fill 27 = .ok (.ifCond .ne 7, 3) := by decide +kernel
theorem dX5_fill_30 : decode cX5_fill 30 = .ok (.iconst 1, 1) := by decide +kernel
theorem dX5_fill_31 : decode cX5_fill 31 = .ok (.goto 4, 3) := by decide +kernel
theorem dX5_fill_34 : decode cX5_fill 34 = .ok (.iconst 0, 1) := by decide +kernel
theorem dX5_fill_35 : decode cX5_fill 35 = .ok (.iconst 2, 1) := by decide +kernel
theorem dX5_fill_36 : decode cX5_fill 36 = .ok (.invokevirtual 18, 3) := by decide +kernel
theorem dX5_fill_39 : decode cX5_fill 39 = .ok (.ifCond .eq 5, 3) := by decide +kernel
theorem dX5_fill_42 : decode cX5_fill 42 = .ok (.iconst 0, 1) := by decide +kernel
theorem dX5_fill_43 : decode cX5_fill 43 = .ok (.ireturn, 1) := by decide +kernel
theorem dX5_fill_44 : decode cX5_fill 44 = .ok (.aload_n 0, 1) := by decide +kernel
theorem dX5_fill_45 : decode cX5_fill 45 = .ok (.iload_n 1, 1) := by decide +kernel
theorem dX5_fill_46 : decode cX5_fill 46 = .ok (.invokevirtual 75, 3) := by decide +kernel
theorem dX5_fill_49 : decode cX5_fill 49 = .ok (.istore 4, 2) := by decide +kernel
theorem dX5_fill_51 : decode cX5_fill 51 = .ok (.aload_n 0, 1) := by decide +kernel
theorem dX5_fill_52 : decode cX5_fill 52 = .ok (.getfield 11, 3) := by decide +kernel
theorem dX5_fill_55 : decode cX5_fill 55 = .ok (.iload_n 1, 1) := by decide +kernel
theorem dX5_fill_56 : decode cX5_fill 56 = .ok (.iload_n 3, 1) := by decide +kernel
theorem dX5_fill_57 : decode cX5_fill 57 = .ok (.newarray .int, 2) := by decide +kernel
theorem dX5_fill_59 : decode cX5_fill 59 = .ok (.aastore, 1) := by decide +kernel
theorem dX5_fill_60 : decode cX5_fill 60 = .ok (.iconst 0, 1) := by decide +kernel
theorem dX5_fill_61 : decode cX5_fill 61 = .ok (.istore 5, 2) := by decide +kernel
theorem dX5_fill_63 : decode cX5_fill 63 = .ok (.iload 5, 2) := by decide +kernel
theorem dX5_fill_65 : decode cX5_fill 65 = .ok (.iload_n 3, 1) := by decide +kernel
theorem dX5_fill_66 : decode cX5_fill 66 = .ok (.if_icmp .ge 19, 3) := by decide +kernel
theorem dX5_fill_69 : decode cX5_fill 69 = .ok (.aload_n 0, 1) := by decide +kernel
theorem dX5_fill_70 : decode cX5_fill 70 = .ok (.getfield 11, 3) := by decide +kernel
theorem dX5_fill_73 : decode cX5_fill 73 = .ok (.iload_n 1, 1) := by decide +kernel
theorem dX5_fill_74 : decode cX5_fill 74 = .ok (.aaload, 1) := by decide +kernel
theorem dX5_fill_75 : decode cX5_fill 75 = .ok (.iload 5, 2) := by decide +kernel
theorem dX5_fill_77 : decode cX5_fill 77 = .ok (.iload_n 2, 1) := by decide +kernel
theorem dX5_fill_78 : decode cX5_fill 78 = .ok (.iastore, 1) := by decide +kernel
theorem dX5_fill_79 : decode cX5_fill 79 = .ok (.iinc 5 1, 3) := by decide +kernel
theorem dX5_fill_82 : decode cX5_fill 82 = .ok (.goto (-19), 3) := by decide +kernel
theorem dX5_fill_85 : decode cX5_fill 85 = .ok (.iload 4, 2) := by decide +kernel
theorem dX5_fill_87 : decode cX5_fill 87 = .ok (.ireturn, 1) := by decide +kernel
theorem dX5_isNone_0 : decode cX5_isNone 0 = .ok (.aload_n 0, 1) := by decide +kernel
theorem dX5_isNone_1 : decode cX5_isNone 1 = .ok (.iload_n 1, 1) := by decide +kernel
theorem dX5_isNone_2 : decode cX5_isNone 2 = .ok (.invokestatic 69, 3) := by decide +kernel
theorem dX5_isNone_5 : decode cX5_isNone 5 = .ok (.iconst 1, 1) := by decide +kernel
theorem dX5_isNone_6 : decode cX5_isNone 6 = .ok (.invokevirtual 72, 3) := by decide +kernel
theorem dX5_isNone_9 : decode cX5_isNone 9 = .ok (.ifCond .ne 25, 3) := by decide +kernel
theorem dX5_isNone_12 : decode cX5_isNone 12 = .ok (.aload_n 0, 1) := by decide +kernel
theorem dX5_isNone_13 : decode cX5_isNone 13 = .ok (.aload_n 0, 1) := by decide +kernel
theorem dX5_isNone_14 : decode cX5_isNone 14 = .ok (.getfield 11, 3) := by decide +kernel
theorem dX5_isNone_17 : decode cX5_isNone 17 = .ok (.iload_n 1, 1) := by decide +kernel
theorem dX5_isNone_18 : decode cX5_isNone 18 = .ok (.aaload, 1) := by decide +kernel
theorem dX5_isNone_19 : decode cX5_isNone 19 = .ok (.ifnonnull 7, 3) := by decide +kernel
theorem dX5_isNone_22 : decode cX5_isNone 22 = .ok (.iconst 1, 1) := by decide +kernel
theorem dX5_isNone_23 : decode cX5_isNone 23 = .ok (.goto 4, 3) := by decide +kernel
theorem dX5_isNone_26 : decode cX5_isNone 26 = .ok (.iconst 0, 1) := by decide +kernel
theorem dX5_isNone_27 : decode cX5_isNone 27 = .ok (.iconst 2, 1) := by decide +kernel
theorem dX5_isNone_28 : decode cX5_isNone 28 = .ok (.invokevirtual 18, 3) := by decide +kernel
theorem dX5_isNone_31 : decode cX5_isNone 31 = .ok (.ifCond .eq 7, 3) := by decide +kernel
theorem dX5_isNone_34 : decode cX5_isNone 34 = .ok (.iconst 1, 1) := by decide +kernel
theorem dX5_isNone_35 : decode cX5_isNone 35 = .ok (.goto 4, 3) := by decide +kernel
theorem dX5_isNone_38 : decode cX5_isNone 38 = .ok (.iconst 0, 1) := by decide +kernel
theorem dX5_isNone_39 : decode cX5_isNone 39 = .ok (.ireturn, 1) := by decide +kernel
theorem dX5_cut_0 : decode cX5_cut 0 = .ok (.aload_n 0, 1) := by decide +kernel
theorem dX5_cut_1 : decode cX5_cut 1 = .ok (.iload_n 1, 1) := by decide +kernel
theorem dX5_cut_2 : decode cX5_cut 2 = .ok (.invokevirtual 83, 3) := by decide +kernel
theorem dX5_cut_5 : decode cX5_cut 5 = .ok (.ifCond .eq 5, 3) := by decide +kernel
theorem dX5_cut_8 : decode cX5_cut 8 = .ok (.iconst 0, 1) := by decide +kernel
theorem dX5_cut_9 : decode cX5_cut 9 = .ok (.ireturn, 1) := by decide +kernel
theorem dX5_cut_10 : decode cX5_cut 10 = .ok (.iload_n 2, 1) := by decide +kernel
theorem dX5_cut_11 : decode cX5_cut 11 = .ok (.i2l, 1) := by decide +kernel
theorem dX5_cut_12 : decode cX5_cut 12 = .ok (.iload_n 3, 1) := by decide +kernel
theorem dX5_cut_13 : decode cX5_cut 13 = .ok (.i2l, 1) := by decide +kernel
theorem dX5_cut_14 : decode cX5_cut 14 = .ok (.aload_n 0, 1) := by decide +kernel
theorem dX5_cut_15 : decode cX5_cut 15 = .ok (.iload_n 1, 1) := by decide +kernel
theorem dX5_cut_16 : decode cX5_cut 16 = .ok (.invokevirtual 75, 3) := by decide +kernel
theorem dX5_cut_19 : decode cX5_cut 19 = .ok (.i2l, 1) := by decide +kernel
theorem dX5_cut_20 : decode cX5_cut 20 = .ok (.invokestatic 86, 3) := by decide +kernel
theorem dX5_cut_23 : decode cX5_cut 23 = .ok (.ifCond .ne 8, 3) := by decide +kernel
theorem dX5_cut_26 : decode cX5_cut 26 = .ok (.aload_n 0, 1) := by decide +kernel
theorem dX5_cut_27 : decode cX5_cut 27 = .ok (.invokevirtual 90, 3) := by decide +kernel
theorem dX5_cut_30 : decode cX5_cut 30 = .ok (.ireturn, 1) := by decide +kernel
theorem dX5_cut_31 : decode cX5_cut 31 = .ok (.aload_n 0, 1) := by decide +kernel
theorem dX5_cut_32 : decode cX5_cut 32 = .ok (.getfield 11, 3) := by decide +kernel
theorem dX5_cut_35 : decode cX5_cut 35 = .ok (.iload_n 1, 1) := by decide +kernel
theorem dX5_cut_36 : decode cX5_cut 36 = .ok (.aload_n 0, 1) := by decide +kernel
theorem dX5_cut_37 : decode cX5_cut 37 = .ok (.getfield 11, 3) := by decide +kernel
theorem dX5_cut_40 : decode cX5_cut 40 = .ok (.iload_n 1, 1) := by decide +kernel
theorem dX5_cut_41 : decode cX5_cut 41 = .ok (.aaload, 1) := by decide +kernel
theorem dX5_cut_42 : decode cX5_cut 42 = .ok (.iload_n 2, 1) := by decide +kernel
theorem dX5_cut_43 : decode cX5_cut 43 = .ok (.iload_n 3, 1) := by decide +kernel
theorem dX5_cut_44 : decode cX5_cut 44 = .ok (.invokestatic 94, 3) := by decide +kernel
theorem dX5_cut_47 : decode cX5_cut 47 = .ok (.aastore, 1) := by decide +kernel
theorem dX5_cut_48 : decode cX5_cut 48 = .ok (.aload_n 0, 1) := by decide +kernel
theorem dX5_cut_49 : decode cX5_cut 49 = .ok (.iload_n 1, 1) := by decide +kernel
theorem dX5_cut_50 : decode cX5_cut 50 = .ok (.invokevirtual 75, 3) := by decide +kernel
theorem dX5_cut_53 : decode cX5_cut 53 = .ok (.ireturn, 1) := by decide +kernel
theorem dX5_take_0 : decode cX5_take 0 = .ok (.aload_n 0, 1) := by decide +kernel
theorem dX5_take_1 : decode cX5_take 1 = .ok (.iload_n 1, 1) := by decide +kernel
theorem dX5_take_2 : decode cX5_take 2 = .ok (.invokevirtual 83, 3) := by decide +kernel
theorem dX5_take_5 : decode cX5_take 5 = .ok (.ifCond .eq 5, 3) := by decide +kernel
theorem dX5_take_8 : decode cX5_take 8 = .ok (.iconst 0, 1) := by decide +kernel
theorem dX5_take_9 : decode cX5_take 9 = .ok (.ireturn, 1) := by decide +kernel
theorem dX5_take_10 : decode cX5_take 10 = .ok (.iload_n 2, 1) := by decide +kernel
theorem dX5_take_11 : decode cX5_take 11 = .ok (.i2l, 1) := by decide +kernel
theorem dX5_take_12 : decode cX5_take 12 = .ok (.iload_n 3, 1) := by decide +kernel
theorem dX5_take_13 : decode cX5_take 13 = .ok (.i2l, 1) := by decide +kernel
theorem dX5_take_14 : decode cX5_take 14 = .ok (.aload_n 0, 1) := by decide +kernel
theorem dX5_take_15 : decode cX5_take 15 = .ok (.iload_n 1, 1) := by decide +kernel
theorem dX5_take_16 : decode cX5_take 16 = .ok (.invokevirtual 75, 3) := by decide +kernel
theorem dX5_take_19 : decode cX5_take 19 = .ok (.i2l, 1) := by decide +kernel
theorem dX5_take_20 : decode cX5_take 20 = .ok (.invokestatic 98, 3) := by decide +kernel
theorem dX5_take_23 : decode cX5_take 23 = .ok (.ifCond .ne 8, 3) := by decide +kernel
theorem dX5_take_26 : decode cX5_take 26 = .ok (.aload_n 0, 1) := by decide +kernel
theorem dX5_take_27 : decode cX5_take 27 = .ok (.invokevirtual 90, 3) := by decide +kernel
theorem dX5_take_30 : decode cX5_take 30 = .ok (.ireturn, 1) := by decide +kernel
theorem dX5_take_31 : decode cX5_take 31 = .ok (.aload_n 0, 1) := by decide +kernel
theorem dX5_take_32 : decode cX5_take 32 = .ok (.getfield 11, 3) := by decide +kernel
theorem dX5_take_35 : decode cX5_take 35 = .ok (.iload_n 1, 1) := by decide +kernel
theorem dX5_take_36 : decode cX5_take 36 = .ok (.aload_n 0, 1) := by decide +kernel
theorem dX5_take_37 : decode cX5_take 37 = .ok (.getfield 11, 3) := by decide +kernel
theorem dX5_take_40 : decode cX5_take 40 = .ok (.iload_n 1, 1) := by decide +kernel
theorem dX5_take_41 : decode cX5_take 41 = .ok (.aaload, 1) := by decide +kernel
theorem dX5_take_42 : decode cX5_take 42 = .ok (.iload_n 2, 1) := by decide +kernel
theorem dX5_take_43 : decode cX5_take 43 = .ok (.iload_n 2, 1) := by decide +kernel
theorem dX5_take_44 : decode cX5_take 44 = .ok (.iload_n 3, 1) := by decide +kernel
theorem dX5_take_45 : decode cX5_take 45 = .ok (.iadd, 1) := by decide +kernel
theorem dX5_take_46 : decode cX5_take 46 = .ok (.invokestatic 94, 3) := by decide +kernel
theorem dX5_take_49 : decode cX5_take 49 = .ok (.aastore, 1) := by decide +kernel
theorem dX5_take_50 : decode cX5_take 50 = .ok (.aload_n 0, 1) := by decide +kernel
theorem dX5_take_51 : decode cX5_take 51 = .ok (.iload_n 1, 1) := by decide +kernel
theorem dX5_take_52 : decode cX5_take 52 = .ok (.invokevirtual 75, 3) := by decide +kernel
theorem dX5_take_55 : decode cX5_take 55 = .ok (.ireturn, 1) := by decide +kernel
theorem dX5_put_0 : decode cX5_put 0 = .ok (.aload_n 0, 1) := by decide +kernel
theorem dX5_put_1 : decode cX5_put 1 = .ok (.iload_n 1, 1) := by decide +kernel
theorem dX5_put_2 : decode cX5_put 2 = .ok (.invokestatic 69, 3) := by decide +kernel
theorem dX5_put_5 : decode cX5_put 5 = .ok (.iconst 1, 1) := by decide +kernel
theorem dX5_put_6 : decode cX5_put 6 = .ok (.invokevirtual 72, 3) := by decide +kernel
theorem dX5_put_9 : decode cX5_put 9 = .ok (.ifCond .ne 45, 3) := by decide +kernel
theorem dX5_put_12 : decode cX5_put 12 = .ok (.aload_n 0, 1) := by decide +kernel
theorem dX5_put_13 : decode cX5_put 13 = .ok (.iload_n 3, 1) := by decide +kernel
theorem dX5_put_14 : decode cX5_put 14 = .ok (.invokestatic 65, 3) := by decide +kernel
theorem dX5_put_17 : decode cX5_put 17 = .ok (.ifCond .ne 7, 3) := by decide +kernel
theorem dX5_put_20 : decode cX5_put 20 = .ok (.iconst 1, 1) := by decide +kernel
theorem dX5_put_21 : decode cX5_put 21 = .ok (.goto 4, 3) := by decide +kernel
theorem dX5_put_24 : decode cX5_put 24 = .ok (.iconst 0, 1) := by decide +kernel
theorem dX5_put_25 : decode cX5_put 25 = .ok (.iconst 2, 1) := by decide +kernel
theorem dX5_put_26 : decode cX5_put 26 = .ok (.invokevirtual 18, 3) := by decide +kernel
theorem dX5_put_29 : decode cX5_put 29 = .ok (.ifCond .ne 25, 3) := by decide +kernel
theorem dX5_put_32 : decode cX5_put 32 = .ok (.aload_n 0, 1) := by decide +kernel
theorem dX5_put_33 : decode cX5_put 33 = .ok (.aload_n 0, 1) := by decide +kernel
theorem dX5_put_34 : decode cX5_put 34 = .ok (.getfield 11, 3) := by decide +kernel
theorem dX5_put_37 : decode cX5_put 37 = .ok (.iload_n 1, 1) := by decide +kernel
theorem dX5_put_38 : decode cX5_put 38 = .ok (.aaload, 1) := by decide +kernel
theorem dX5_put_39 : decode cX5_put 39 = .ok (.ifnonnull 7, 3) := by decide +kernel
theorem dX5_put_42 : decode cX5_put 42 = .ok (.iconst 1, 1) := by decide +kernel
theorem dX5_put_43 : decode cX5_put 43 = .ok (.goto 4, 3) := by decide +kernel
theorem dX5_put_46 : decode cX5_put 46 = .ok (.iconst 0, 1) := by decide +kernel
theorem dX5_put_47 : decode cX5_put 47 = .ok (.iconst 3, 1) := by decide +kernel
theorem dX5_put_48 : decode cX5_put 48 = .ok (.invokevirtual 18, 3) := by decide +kernel
theorem dX5_put_51 : decode cX5_put 51 = .ok (.ifCond .eq 5, 3) := by decide +kernel
theorem dX5_put_54 : decode cX5_put 54 = .ok (.iconst 0, 1) := by decide +kernel
theorem dX5_put_55 : decode cX5_put 55 = .ok (.ireturn, 1) := by decide +kernel
theorem dX5_put_56 : decode cX5_put 56 = .ok (.iload_n 2, 1) := by decide +kernel
theorem dX5_put_57 : decode cX5_put 57 = .ok (.iconst 0, 1) := by decide +kernel
theorem dX5_put_58 : decode cX5_put 58 = .ok (.aload_n 0, 1) := by decide +kernel
theorem dX5_put_59 : decode cX5_put 59 = .ok (.iload_n 1, 1) := by decide +kernel
theorem dX5_put_60 : decode cX5_put 60 = .ok (.invokevirtual 75, 3) := by decide +kernel
theorem dX5_put_63 : decode cX5_put 63 = .ok (.iconst 1, 1) := by decide +kernel
theorem dX5_put_64 : decode cX5_put 64 = .ok (.isub, 1) := by decide +kernel
theorem dX5_put_65 : decode cX5_put 65 = .ok (.invokestatic 22, 3) := by decide +kernel
theorem dX5_put_68 : decode cX5_put 68 = .ok (.ifCond .ne 8, 3) := by decide +kernel
theorem dX5_put_71 : decode cX5_put 71 = .ok (.aload_n 0, 1) := by decide +kernel
theorem dX5_put_72 : decode cX5_put 72 = .ok (.invokevirtual 90, 3) := by decide +kernel
theorem dX5_put_75 : decode cX5_put 75 = .ok (.ireturn, 1) := by decide +kernel
theorem dX5_put_76 : decode cX5_put 76 = .ok (.aload_n 0, 1) := by decide +kernel
theorem dX5_put_77 : decode cX5_put 77 = .ok (.getfield 11, 3) := by decide +kernel
theorem dX5_put_80 : decode cX5_put 80 = .ok (.iload_n 1, 1) := by decide +kernel
theorem dX5_put_81 : decode cX5_put 81 = .ok (.aaload, 1) := by decide +kernel
theorem dX5_put_82 : decode cX5_put 82 = .ok (.iload_n 2, 1) := by decide +kernel
theorem dX5_put_83 : decode cX5_put 83 = .ok (.iaload, 1) := by decide +kernel
theorem dX5_put_84 : decode cX5_put 84 = .ok (.istore 4, 2) := by decide +kernel
theorem dX5_put_86 : decode cX5_put 86 = .ok (.aload_n 0, 1) := by decide +kernel
theorem dX5_put_87 : decode cX5_put 87 = .ok (.getfield 11, 3) := by decide +kernel
theorem dX5_put_90 : decode cX5_put 90 = .ok (.iload_n 1, 1) := by decide +kernel
theorem dX5_put_91 : decode cX5_put 91 = .ok (.aaload, 1) := by decide +kernel
theorem dX5_put_92 : decode cX5_put 92 = .ok (.iload_n 2, 1) := by decide +kernel
theorem dX5_put_93 : decode cX5_put 93 = .ok (.iload_n 3, 1) := by decide +kernel
theorem dX5_put_94 : decode cX5_put 94 = .ok (.iastore, 1) := by decide +kernel
theorem dX5_put_95 : decode cX5_put 95 = .ok (.iload 4, 2) := by decide +kernel
theorem dX5_put_97 : decode cX5_put 97 = .ok (.ireturn, 1) := by decide +kernel
theorem dX5_areNo_0 : decode cX5_areNo 0 = .ok (.aload_n 0, 1) := by decide +kernel
theorem dX5_areNo_1 : decode cX5_areNo 1 = .ok (.iload_n 1, 1) := by decide +kernel
theorem dX5_areNo_2 : decode cX5_areNo 2 = .ok (.invokestatic 69, 3) := by decide +kernel
theorem dX5_areNo_5 : decode cX5_areNo 5 = .ok (.ifCond .ne 10, 3) := by decide +kernel
theorem dX5_areNo_8 : decode cX5_areNo 8 = .ok (.iload_n 2, 1) := by decide +kernel
theorem dX5_areNo_9 : decode cX5_areNo 9 = .ok (.invokestatic 69, 3) := by decide +kernel
theorem dX5_areNo_12 : decode cX5_areNo 12 = .ok (.ifCond .eq 7, 3) := by decide +kernel
theorem dX5_areNo_15 : decode cX5_areNo 15 = .ok (.iconst 1, 1) := by decide +kernel
theorem dX5_areNo_16 : decode cX5_areNo 16 = .ok (.goto 4, 3) := by decide +kernel
theorem dX5_areNo_19 : decode cX5_areNo 19 = .ok (.iconst 0, 1) := by decide +kernel
theorem dX5_areNo_20 : decode cX5_areNo 20 = .ok (.iconst 1, 1) := by decide +kernel
theorem dX5_areNo_21 : decode cX5_areNo 21 = .ok (.invokevirtual 72, 3) := by decide +kernel
theorem dX5_areNo_24 : decode cX5_areNo 24 = .ok (.ireturn, 1) := by decide +kernel
theorem dX5_copy_0 : decode cX5_copy 0 = .ok (.aload_n 0, 1) := by decide +kernel
theorem dX5_copy_1 : decode cX5_copy 1 = .ok (.iload_n 1, 1) := by decide +kernel
theorem dX5_copy_2 : decode cX5_copy 2 = .ok (.iload_n 2, 1) := by decide +kernel
theorem dX5_copy_3 : decode cX5_copy 3 = .ok (.invokevirtual 101, 3) := by decide +kernel
theorem dX5_copy_6 : decode cX5_copy 6 = .ok (.ifCond .eq 5, 3) := by decide +kernel
theorem dX5_copy_9 : decode cX5_copy 9 = .ok (.iconst 0, 1) := by decide +kernel
theorem dX5_copy_10 : decode cX5_copy 10 = .ok (.ireturn, 1) := by decide +kernel
theorem dX5_copy_11 : decode cX5_copy 11 = .ok (.aload_n 0, 1) := by decide +kernel
theorem dX5_copy_12 : decode cX5_copy 12 = .ok (.getfield 11, 3) := by decide +kernel
theorem dX5_copy_15 : decode cX5_copy 15 = .ok (.iload_n 1, 1) := by decide +kernel
theorem dX5_copy_16 : decode cX5_copy 16 = .ok (.aload_n 0, 1) := by decide +kernel
theorem dX5_copy_17 : decode cX5_copy 17 = .ok (.getfield 11, 3) := by decide +kernel
theorem dX5_copy_20 : decode cX5_copy 20 = .ok (.iload_n 2, 1) := by decide +kernel
theorem dX5_copy_21 : decode cX5_copy 21 = .ok (.aaload, 1) := by decide +kernel
theorem dX5_copy_22 : decode cX5_copy 22 = .ok (.ifnonnull 7, 3) := by decide +kernel
theorem dX5_copy_25 : decode cX5_copy 25 = .ok (.aconst_null, 1) := by decide +kernel
theorem dX5_copy_26 : decode cX5_copy 26 = .ok (.goto 20, 3) := by decide +kernel
theorem dX5_copy_29 : decode cX5_copy 29 = .ok (.aload_n 0, 1) := by decide +kernel
theorem dX5_copy_30 : decode cX5_copy 30 = .ok (.getfield 11, 3) := by decide +kernel
theorem dX5_copy_33 : decode cX5_copy 33 = .ok (.iload_n 2, 1) := by decide +kernel
theorem dX5_copy_34 : decode cX5_copy 34 = .ok (.aaload, 1) := by decide +kernel
theorem dX5_copy_35 : decode cX5_copy 35 = .ok (.iconst 0, 1) := by decide +kernel
theorem dX5_copy_36 : decode cX5_copy 36 = .ok (.aload_n 0, 1) := by decide +kernel
theorem dX5_copy_37 : decode cX5_copy 37 = .ok (.getfield 11, 3) := by decide +kernel
theorem dX5_copy_40 : decode cX5_copy 40 = .ok (.iload_n 2, 1) := by decide +kernel
theorem dX5_copy_41 : decode cX5_copy 41 = .ok (.aaload, 1) := by decide +kernel
theorem dX5_copy_42 : decode cX5_copy 42 = .ok (.arraylength, 1) := by decide +kernel
theorem dX5_copy_43 : decode cX5_copy 43 = .ok (.invokestatic 94, 3) := by decide +kernel
theorem dX5_copy_46 : decode cX5_copy 46 = .ok (.aastore, 1) := by decide +kernel
theorem dX5_copy_47 : decode cX5_copy 47 = .ok (.aload_n 0, 1) := by decide +kernel
theorem dX5_copy_48 : decode cX5_copy 48 = .ok (.iload_n 1, 1) := by decide +kernel
theorem dX5_copy_49 : decode cX5_copy 49 = .ok (.invokevirtual 75, 3) := by decide +kernel
theorem dX5_copy_52 : decode cX5_copy 52 = .ok (.ireturn, 1) := by decide +kernel
theorem dX5_leave_0 : decode cX5_leave 0 = .ok (.aload_n 0, 1) := by decide +kernel
theorem dX5_leave_1 : decode cX5_leave 1 = .ok (.iload_n 1, 1) := by decide +kernel
theorem dX5_leave_2 : decode cX5_leave 2 = .ok (.invokestatic 69, 3) := by decide +kernel
theorem dX5_leave_5 : decode cX5_leave 5 = .ok (.iconst 1, 1) := by decide +kernel
theorem dX5_leave_6 : decode cX5_leave 6 = .ok (.invokevirtual 72, 3) := by decide +kernel
theorem dX5_leave_9 : decode cX5_leave 9 = .ok (.ifCond .eq 5, 3) := by decide +kernel
theorem dX5_leave_12 : decode cX5_leave 12 = .ok (.iconst 0, 1) := by decide +kernel
theorem dX5_leave_13 : decode cX5_leave 13 = .ok (.ireturn, 1) := by decide +kernel
theorem dX5_leave_14 : decode cX5_leave 14 = .ok (.aload_n 0, 1) := by decide +kernel
theorem dX5_leave_15 : decode cX5_leave 15 = .ok (.iload_n 1, 1) := by decide +kernel
theorem dX5_leave_16 : decode cX5_leave 16 = .ok (.invokevirtual 75, 3) := by decide +kernel
theorem dX5_leave_19 : decode cX5_leave 19 = .ok (.istore_n 2, 1) := by decide +kernel
theorem dX5_leave_20 : decode cX5_leave 20 = .ok (.aload_n 0, 1) := by decide +kernel
theorem dX5_leave_21 : decode cX5_leave 21 = .ok (.getfield 11, 3) := by decide +kernel
theorem dX5_leave_24 : decode cX5_leave 24 = .ok (.iload_n 1, 1) := by decide +kernel
theorem dX5_leave_25 : decode cX5_leave 25 = .ok (.aconst_null, 1) := by decide +kernel
theorem dX5_leave_26 : decode cX5_leave 26 = .ok (.aastore, 1) := by decide +kernel
theorem dX5_leave_27 : decode cX5_leave 27 = .ok (.iload_n 2, 1) := by decide +kernel
theorem dX5_leave_28 : decode cX5_leave 28 = .ok (.ireturn, 1) := by decide +kernel
theorem dX5_told_0 : decode cX5_told 0 = .ok (.aload_n 0, 1) := by decide +kernel
theorem dX5_told_1 : decode cX5_told 1 = .ok (.iconst 0, 1) := by decide +kernel
theorem dX5_told_2 : decode cX5_told 2 = .ok (.putfield 14, 3) := by decide +kernel
theorem dX5_told_5 : decode cX5_told 5 = .ok (.iload_n 1, 1) := by decide +kernel
theorem dX5_told_6 : decode cX5_told 6 = .ok (.ifCond .eq 7, 3) := by decide +kernel
theorem dX5_told_9 : decode cX5_told 9 = .ok (.iload_n 2, 1) := by decide +kernel
theorem dX5_told_10 : decode cX5_told 10 = .ok (.goto 7, 3) := by decide +kernel
theorem dX5_told_13 : decode cX5_told 13 = .ok (.aload_n 0, 1) := by decide +kernel
theorem dX5_told_14 : decode cX5_told 14 = .ok (.invokevirtual 90, 3) := by decide +kernel
theorem dX5_told_17 : decode cX5_told 17 = .ok (.ireturn, 1) := by decide +kernel
theorem dX5_place_0 : decode cX5_place 0 = .ok (.aload_n 0, 1) := by decide +kernel
theorem dX5_place_1 : decode cX5_place 1 = .ok (.iload_n 1, 1) := by decide +kernel
theorem dX5_place_2 : decode cX5_place 2 = .ok (.iconst 0, 1) := by decide +kernel
theorem dX5_place_3 : decode cX5_place 3 = .ok (.iload_n 2, 1) := by decide +kernel
theorem dX5_place_4 : decode cX5_place 4 = .ok (.iconst 1, 1) := by decide +kernel
theorem dX5_place_5 : decode cX5_place 5 = .ok (.isub, 1) := by decide +kernel
theorem dX5_place_6 : decode cX5_place 6 = .ok (.invokestatic 22, 3) := by decide +kernel
theorem dX5_place_9 : decode cX5_place 9 = .ok (.ifCond .eq 11, 3) := by decide +kernel
theorem dX5_place_12 : decode cX5_place 12 = .ok (.iload_n 2, 1) := by decide +kernel
theorem dX5_place_13 : decode cX5_place 13 = .ok (.ifCond .le 7, 3) := by decide +kernel
theorem dX5_place_16 : decode cX5_place 16 = .ok (.iconst 1, 1) := by decide +kernel
theorem dX5_place_17 : decode cX5_place 17 = .ok (.goto 4, 3) := by decide +kernel
theorem dX5_place_20 : decode cX5_place 20 = .ok (.iconst 0, 1) := by decide +kernel
theorem dX5_place_21 : decode cX5_place 21 = .ok (.iload_n 1, 1) := by decide +kernel
theorem dX5_place_22 : decode cX5_place 22 = .ok (.invokevirtual 105, 3) := by decide +kernel
theorem dX5_place_25 : decode cX5_place 25 = .ok (.ireturn, 1) := by decide +kernel
theorem dX5_span_0 : decode cX5_span 0 = .ok (.aload_n 0, 1) := by decide +kernel
theorem dX5_span_1 : decode cX5_span 1 = .ok (.iload_n 1, 1) := by decide +kernel
theorem dX5_span_2 : decode cX5_span 2 = .ok (.i2l, 1) := by decide +kernel
theorem dX5_span_3 : decode cX5_span 3 = .ok (.iload_n 2, 1) := by decide +kernel
theorem dX5_span_4 : decode cX5_span 4 = .ok (.i2l, 1) := by decide +kernel
theorem dX5_span_5 : decode cX5_span 5 = .ok (.iload_n 3, 1) := by decide +kernel
theorem dX5_span_6 : decode cX5_span 6 = .ok (.i2l, 1) := by decide +kernel
theorem dX5_span_7 : decode cX5_span 7 = .ok (.invokestatic 86, 3) := by decide +kernel
theorem dX5_span_10 : decode cX5_span 10 = .ok (.iload_n 1, 1) := by decide +kernel
theorem dX5_span_11 : decode cX5_span 11 = .ok (.invokevirtual 105, 3) := by decide +kernel
theorem dX5_span_14 : decode cX5_span 14 = .ok (.ireturn, 1) := by decide +kernel
theorem dX5_stretch_0 : decode cX5_stretch 0 = .ok (.aload_n 0, 1) := by decide +kernel
theorem dX5_stretch_1 : decode cX5_stretch 1 = .ok (.iload_n 1, 1) := by decide +kernel
theorem dX5_stretch_2 : decode cX5_stretch 2 = .ok (.i2l, 1) := by decide +kernel
theorem dX5_stretch_3 : decode cX5_stretch 3 = .ok (.iload_n 2, 1) := by decide +kernel
theorem dX5_stretch_4 : decode cX5_stretch 4 = .ok (.i2l, 1) := by decide +kernel
theorem dX5_stretch_5 : decode cX5_stretch 5 = .ok (.iload_n 3, 1) := by decide +kernel
theorem dX5_stretch_6 : decode cX5_stretch 6 = .ok (.i2l, 1) := by decide +kernel
theorem dX5_stretch_7 : decode cX5_stretch 7 = .ok (.invokestatic 98, 3) := by decide +kernel
theorem dX5_stretch_10 : decode cX5_stretch 10 = .ok (.iload_n 1, 1) := by decide +kernel
theorem dX5_stretch_11 : decode cX5_stretch 11 = .ok (.invokevirtual 105, 3) := by decide +kernel
theorem dX5_stretch_14 : decode cX5_stretch 14 = .ok (.ireturn, 1) := by decide +kernel
theorem dX5_is_0 : decode cX5_is 0 = .ok (.aload_n 0, 1) := by decide +kernel
theorem dX5_is_1 : decode cX5_is 1 = .ok (.iconst 0, 1) := by decide +kernel
theorem dX5_is_2 : decode cX5_is 2 = .ok (.putfield 14, 3) := by decide +kernel
theorem dX5_is_5 : decode cX5_is 5 = .ok (.iload_n 1, 1) := by decide +kernel
theorem dX5_is_6 : decode cX5_is 6 = .ok (.ireturn, 1) := by decide +kernel
theorem dX5_isFarPlace_0 : decode cX5_isFarPlace 0 = .ok (.aload_n 0, 1) := by decide +kernel
theorem dX5_isFarPlace_1 : decode cX5_isFarPlace 1 = .ok (.iload_n 1, 1) := by decide +kernel
theorem dX5_isFarPlace_2 : decode cX5_isFarPlace 2 = .ok (.ifCond .lt 12, 3) := by decide +kernel
theorem dX5_isFarPlace_5 : decode cX5_isFarPlace 5 = .ok (.iload_n 1, 1) := by decide +kernel
theorem dX5_isFarPlace_6 : decode cX5_isFarPlace 6 = .ok (.iload_n 2, 1) := by decide +kernel
theorem dX5_isFarPlace_7 : decode cX5_isFarPlace 7 = .ok (.if_icmp .ge 7, 3) := by decide +kernel
theorem dX5_isFarPlace_10 : decode cX5_isFarPlace 10 = .ok (.iconst 1, 1) := by decide +kernel
theorem dX5_isFarPlace_11 : decode cX5_isFarPlace 11 = .ok (.goto 4, 3) := by decide +kernel
theorem dX5_isFarPlace_14 : decode cX5_isFarPlace 14 = .ok (.iconst 0, 1) := by decide +kernel
theorem dX5_isFarPlace_15 : decode cX5_isFarPlace 15 = .ok (.invokevirtual 109, 3) := by decide +kernel
theorem dX5_isFarPlace_18 : decode cX5_isFarPlace 18 = .ok (.ireturn, 1) := by decide +kernel
theorem dX5_isFarSpan_0 : decode cX5_isFarSpan 0 = .ok (.aload_n 0, 1) := by decide +kernel
theorem dX5_isFarSpan_1 : decode cX5_isFarSpan 1 = .ok (.iload_n 1, 1) := by decide +kernel
theorem dX5_isFarSpan_2 : decode cX5_isFarSpan 2 = .ok (.i2l, 1) := by decide +kernel
theorem dX5_isFarSpan_3 : decode cX5_isFarSpan 3 = .ok (.iload_n 2, 1) := by decide +kernel
theorem dX5_isFarSpan_4 : decode cX5_isFarSpan 4 = .ok (.i2l, 1) := by decide +kernel
theorem dX5_isFarSpan_5 : decode cX5_isFarSpan 5 = .ok (.iload_n 3, 1) := by decide +kernel
theorem dX5_isFarSpan_6 : decode cX5_isFarSpan 6 = .ok (.i2l, 1) := by decide +kernel
theorem dX5_isFarSpan_7 : decode cX5_isFarSpan 7 = .ok (.invokestatic 86, 3) := by decide +kernel
theorem dX5_isFarSpan_10 : decode cX5_isFarSpan 10 = .ok (.invokevirtual 109, 3) := by decide +kernel
theorem dX5_isFarSpan_13 : decode cX5_isFarSpan 13 = .ok (.ireturn, 1) := by decide +kernel
theorem dX5_isFarStretch_0 : decode cX5_isFarStretch 0 = .ok (.aload_n 0, 1) := by decide +kernel
theorem dX5_isFarStretch_1 : decode cX5_isFarStretch 1 = .ok (.iload_n 1, 1) := by decide +kernel
theorem dX5_isFarStretch_2 : decode cX5_isFarStretch 2 = .ok (.i2l, 1) := by decide +kernel
theorem dX5_isFarStretch_3 : decode cX5_isFarStretch 3 = .ok (.iload_n 2, 1) := by decide +kernel
theorem dX5_isFarStretch_4 : decode cX5_isFarStretch 4 = .ok (.i2l, 1) := by decide +kernel
theorem dX5_isFarStretch_5 : decode cX5_isFarStretch 5 = .ok (.iload_n 3, 1) := by decide +kernel
theorem dX5_isFarStretch_6 : decode cX5_isFarStretch 6 = .ok (.i2l, 1) := by decide +kernel
theorem dX5_isFarStretch_7 : decode cX5_isFarStretch 7 = .ok (.invokestatic 98, 3) := by decide +kernel
theorem dX5_isFarStretch_10 : decode cX5_isFarStretch 10 = .ok (.invokevirtual 109, 3) := by decide +kernel
theorem dX5_isFarStretch_13 : decode cX5_isFarStretch 13 = .ok (.ireturn, 1) := by decide +kernel
theorem dX5_insides_0 : decode cX5_insides 0 = .ok (.aload_n 0, 1) := by decide +kernel
theorem dX5_insides_1 : decode cX5_insides 1 = .ok (.iload_n 1, 1) := by decide +kernel
theorem dX5_insides_2 : decode cX5_insides 2 = .ok (.invokestatic 69, 3) := by decide +kernel
theorem dX5_insides_5 : decode cX5_insides 5 = .ok (.iconst 1, 1) := by decide +kernel
theorem dX5_insides_6 : decode cX5_insides 6 = .ok (.invokevirtual 72, 3) := by decide +kernel
theorem dX5_insides_9 : decode cX5_insides 9 = .ok (.ifCond .ne 47, 3) := by decide +kernel
theorem dX5_insides_12 : decode cX5_insides 12 = .ok (.aload_n 0, 1) := by decide +kernel
theorem dX5_insides_13 : decode cX5_insides 13 = .ok (.iload_n 2, 1) := by decide +kernel
theorem dX5_insides_14 : decode cX5_insides 14 = .ok (.iconst 0, 1) := by decide +kernel
theorem dX5_insides_15 : decode cX5_insides 15 = .ok (.iconst 2, 1) := by decide +kernel
theorem dX5_insides_16 : decode cX5_insides 16 = .ok (.invokestatic 22, 3) := by decide +kernel
theorem dX5_insides_19 : decode cX5_insides 19 = .ok (.ifCond .ne 7, 3) := by decide +kernel
theorem dX5_insides_22 : decode cX5_insides 22 = .ok (.iconst 1, 1) := by decide +kernel
theorem dX5_insides_23 : decode cX5_insides 23 = .ok (.goto 4, 3) := by decide +kernel
theorem dX5_insides_26 : decode cX5_insides 26 = .ok (.iconst 0, 1) := by decide +kernel
theorem dX5_insides_27 : decode cX5_insides 27 = .ok (.iconst 2, 1) := by decide +kernel
theorem dX5_insides_28 : decode cX5_insides 28 = .ok (.invokevirtual 18, 3) := by decide +kernel
theorem dX5_insides_31 : decode cX5_insides 31 = .ok (.ifCond .ne 25, 3) := by decide +kernel
theorem dX5_insides_34 : decode cX5_insides 34 = .ok (.aload_n 0, 1) := by decide +kernel
theorem dX5_insides_35 : decode cX5_insides 35 = .ok (.aload_n 0, 1) := by decide +kernel
theorem dX5_insides_36 : decode cX5_insides 36 = .ok (.getfield 11, 3) := by decide +kernel
theorem dX5_insides_39 : decode cX5_insides 39 = .ok (.iload_n 1, 1) := by decide +kernel
theorem dX5_insides_40 : decode cX5_insides 40 = .ok (.aaload, 1) := by decide +kernel
theorem dX5_insides_41 : decode cX5_insides 41 = .ok (.ifnonnull 7, 3) := by decide +kernel
theorem dX5_insides_44 : decode cX5_insides 44 = .ok (.iconst 1, 1) := by decide +kernel
theorem dX5_insides_45 : decode cX5_insides 45 = .ok (.goto 4, 3) := by decide +kernel
theorem dX5_insides_48 : decode cX5_insides 48 = .ok (.iconst 0, 1) := by decide +kernel
theorem dX5_insides_49 : decode cX5_insides 49 = .ok (.iconst 3, 1) := by decide +kernel
theorem dX5_insides_50 : decode cX5_insides 50 = .ok (.invokevirtual 18, 3) := by decide +kernel
theorem dX5_insides_53 : decode cX5_insides 53 = .ok (.ifCond .eq 5, 3) := by decide +kernel
theorem dX5_insides_56 : decode cX5_insides 56 = .ok (.iconst 0, 1) := by decide +kernel
theorem dX5_insides_57 : decode cX5_insides 57 = .ok (.ireturn, 1) := by decide +kernel
theorem dX5_insides_58 : decode cX5_insides 58 = .ok (.iconst 0, 1) := by decide +kernel
theorem dX5_insides_59 : decode cX5_insides 59 = .ok (.istore_n 3, 1) := by decide +kernel
theorem dX5_insides_60 : decode cX5_insides 60 = .ok (.bipush (-2), 2) := by decide +kernel
theorem dX5_insides_62 : decode cX5_insides 62 = .ok (.istore 4, 2) := by decide +kernel
theorem dX5_insides_64 : decode cX5_insides 64 = .ok (.iload 4, 2) := by decide +kernel
theorem dX5_insides_66 : decode cX5_insides 66 = .ok (.bipush 26, 2) := by decide +kernel
theorem dX5_insides_68 : decode cX5_insides 68 = .ok (.if_icmp .gt 97, 3) := by decide +kernel
theorem dX5_insides_71 : decode cX5_insides 71 = .ok (.iload_n 2, 1) := by decide +kernel
theorem dX5_insides_72 : decode cX5_insides 72 = .ok (.ifCond .ne 22, 3) := by decide +kernel
theorem dX5_insides_75 : decode cX5_insides 75 = .ok (.iload_n 3, 1) := by decide +kernel
theorem dX5_insides_76 : decode cX5_insides 76 = .ok (.iload 4, 2) := by decide +kernel
theorem dX5_insides_78 : decode cX5_insides 78 = .ok (.iconst 0, 1) := by decide +kernel
theorem dX5_insides_79 : decode cX5_insides 79 = .ok (.aload_n 0, 1) := by decide +kernel
theorem dX5_insides_80 : decode cX5_insides 80 = .ok (.iload_n 1, 1) := by decide +kernel
theorem dX5_insides_81 : decode cX5_insides 81 = .ok (.invokevirtual 75, 3) := by decide +kernel
theorem dX5_insides_84 : decode cX5_insides 84 = .ok (.iconst 1, 1) := by decide +kernel
theorem dX5_insides_85 : decode cX5_insides 85 = .ok (.isub, 1) := by decide +kernel
theorem dX5_insides_86 : decode cX5_insides 86 = .ok (.invokestatic 22, 3) := by decide +kernel
theorem dX5_insides_89 : decode cX5_insides 89 = .ok (.invokestatic 49, 3) := by decide +kernel
theorem dX5_insides_92 : decode cX5_insides 92 = .ok (.iadd, 1) := by decide +kernel
theorem dX5_insides_93 : decode cX5_insides 93 = .ok (.istore_n 3, 1) := by decide +kernel
theorem dX5_insides_94 : decode cX5_insides 94 = .ok (.bipush (-2), 2) := by decide +kernel
theorem dX5_insides_96 : decode cX5_insides 96 = .ok (.istore 5, 2) := by decide +kernel
theorem dX5_insides_98 : decode cX5_insides 98 = .ok (.iload 5, 2) := by decide +kernel
theorem dX5_insides_100 : decode cX5_insides 100 = .ok (.bipush 26, 2) := by decide +kernel
theorem dX5_insides_102 : decode cX5_insides 102 = .ok (.if_icmp .gt 57, 3) := by decide +kernel
theorem dX5_insides_105 : decode cX5_insides 105 = .ok (.iload_n 2, 1) := by decide +kernel
theorem dX5_insides_106 : decode cX5_insides 106 = .ok (.ifCond .le 53, 3) := by decide +kernel
theorem dX5_insides_109 : decode cX5_insides 109 = .ok (.iload_n 3, 1) := by decide +kernel
theorem dX5_insides_110 : decode cX5_insides 110 = .ok (.iload_n 2, 1) := by decide +kernel
theorem dX5_insides_111 : decode cX5_insides 111 = .ok (.iconst 1, 1) := by decide +kernel
theorem dX5_insides_112 : decode cX5_insides 112 = .ok (.if_icmp .ne 21, 3) := by decide +kernel
theorem dX5_insides_115 : decode cX5_insides 115 = .ok (.iload 4, 2) := by decide +kernel
theorem dX5_insides_117 : decode cX5_insides 117 = .ok (.i2l, 1) := by decide +kernel
theorem dX5_insides_118 : decode cX5_insides 118 = .ok (.iload 5, 2) := by decide +kernel
theorem dX5_insides_120 : decode cX5_insides 120 = .ok (.i2l, 1) := by decide +kernel
theorem dX5_insides_121 : decode cX5_insides 121 = .ok (.aload_n 0, 1) := by decide +kernel
theorem dX5_insides_122 : decode cX5_insides 122 = .ok (.iload_n 1, 1) := by decide +kernel
theorem dX5_insides_123 : decode cX5_insides 123 = .ok (.invokevirtual 75, 3) := by decide +kernel
theorem dX5_insides_126 : decode cX5_insides 126 = .ok (.i2l, 1) := by decide +kernel
theorem dX5_insides_127 : decode cX5_insides 127 = .ok (.invokestatic 86, 3) := by decide +kernel
theorem dX5_insides_130 : decode cX5_insides 130 = .ok (.goto 18, 3) := by decide +kernel
theorem dX5_insides_133 : decode cX5_insides 133 = .ok (.iload 4, 2) := by decide +kernel
theorem dX5_insides_135 : decode cX5_insides 135 = .ok (.i2l, 1) := by decide +kernel
theorem dX5_insides_136 : decode cX5_insides 136 = .ok (.iload 5, 2) := by decide +kernel
theorem dX5_insides_138 : decode cX5_insides 138 = .ok (.i2l, 1) := by decide +kernel
theorem dX5_insides_139 : decode cX5_insides 139 = .ok (.aload_n 0, 1) := by decide +kernel
theorem dX5_insides_140 : decode cX5_insides 140 = .ok (.iload_n 1, 1) := by decide +kernel
theorem dX5_insides_141 : decode cX5_insides 141 = .ok (.invokevirtual 75, 3) := by decide +kernel
theorem dX5_insides_144 : decode cX5_insides 144 = .ok (.i2l, 1) := by decide +kernel
theorem dX5_insides_145 : decode cX5_insides 145 = .ok (.invokestatic 98, 3) := by decide +kernel
theorem dX5_insides_148 : decode cX5_insides 148 = .ok (.invokestatic 49, 3) := by decide +kernel
theorem dX5_insides_151 : decode cX5_insides 151 = .ok (.iadd, 1) := by decide +kernel
theorem dX5_insides_152 : decode cX5_insides 152 = .ok (.istore_n 3, 1) := by decide +kernel
theorem dX5_insides_153 : decode cX5_insides 153 = .ok (.iinc 5 1, 3) := by decide +kernel
theorem dX5_insides_156 : decode cX5_insides 156 = .ok (.goto (-58), 3) := by decide +kernel
theorem dX5_insides_159 : decode cX5_insides 159 = .ok (.iinc 4 1, 3) := by decide +kernel
theorem dX5_insides_162 : decode cX5_insides 162 = .ok (.goto (-98), 3) := by decide +kernel
theorem dX5_insides_165 : decode cX5_insides 165 = .ok (.iload_n 3, 1) := by decide +kernel
theorem dX5_insides_166 : decode cX5_insides 166 = .ok (.ireturn, 1) := by decide +kernel
theorem dX5_text_0 : decode cX5_text 0 = .ok (.aload_n 0, 1) := by decide +kernel
theorem dX5_text_1 : decode cX5_text 1 = .ok (.iload_n 1, 1) := by decide +kernel
theorem dX5_text_2 : decode cX5_text 2 = .ok (.invokestatic 69, 3) := by decide +kernel
theorem dX5_text_5 : decode cX5_text 5 = .ok (.iconst 1, 1) := by decide +kernel
theorem dX5_text_6 : decode cX5_text 6 = .ok (.invokevirtual 72, 3) := by decide +kernel
theorem dX5_text_9 : decode cX5_text 9 = .ok (.ifCond .eq 8, 3) := by decide +kernel
theorem dX5_text_12 : decode cX5_text 12 = .ok (.ldc 33, 2) := by decide +kernel
theorem dX5_text_14 : decode cX5_text 14 = .ok (.goto 26, 3) := by decide +kernel
theorem dX5_text_17 : decode cX5_text 17 = .ok (.aload_n 0, 1) := by decide +kernel
theorem dX5_text_18 : decode cX5_text 18 = .ok (.getfield 11, 3) := by decide +kernel
theorem dX5_text_21 : decode cX5_text 21 = .ok (.iload_n 1, 1) := by decide +kernel
theorem dX5_text_22 : decode cX5_text 22 = .ok (.aaload, 1) := by decide +kernel
theorem dX5_text_23 : decode cX5_text 23 = .ok (.ifnonnull 8, 3) := by decide +kernel
theorem dX5_text_26 : decode cX5_text 26 = .ok (.ldc 113, 2) := by decide +kernel
theorem dX5_text_28 : decode cX5_text 28 = .ok (.goto 12, 3) := by decide +kernel
theorem dX5_text_31 : decode cX5_text 31 = .ok (.aload_n 0, 1) := by decide +kernel
theorem dX5_text_32 : decode cX5_text 32 = .ok (.getfield 11, 3) := by decide +kernel
theorem dX5_text_35 : decode cX5_text 35 = .ok (.iload_n 1, 1) := by decide +kernel
theorem dX5_text_36 : decode cX5_text 36 = .ok (.aaload, 1) := by decide +kernel
theorem dX5_text_37 : decode cX5_text 37 = .ok (.invokestatic 115, 3) := by decide +kernel
theorem dX5_text_40 : decode cX5_text 40 = .ok (.areturn, 1) := by decide +kernel
theorem dX5_length_0 : decode cX5_length 0 = .ok (.aload_n 0, 1) := by decide +kernel
theorem dX5_length_1 : decode cX5_length 1 = .ok (.iload_n 1, 1) := by decide +kernel
theorem dX5_length_2 : decode cX5_length 2 = .ok (.invokestatic 69, 3) := by decide +kernel
theorem dX5_length_5 : decode cX5_length 5 = .ok (.iconst 1, 1) := by decide +kernel
theorem dX5_length_6 : decode cX5_length 6 = .ok (.invokevirtual 72, 3) := by decide +kernel
theorem dX5_length_9 : decode cX5_length 9 = .ok (.ifCond .eq 7, 3) := by decide +kernel
theorem dX5_length_12 : decode cX5_length 12 = .ok (.iconst 0, 1) := by decide +kernel
theorem dX5_length_13 : decode cX5_length 13 = .ok (.goto 8, 3) := by decide +kernel
theorem dX5_length_16 : decode cX5_length 16 = .ok (.aload_n 0, 1) := by decide +kernel
theorem dX5_length_17 : decode cX5_length 17 = .ok (.iload_n 1, 1) := by decide +kernel
theorem dX5_length_18 : decode cX5_length 18 = .ok (.invokevirtual 75, 3) := by decide +kernel
theorem dX5_length_21 : decode cX5_length 21 = .ok (.ireturn, 1) := by decide +kernel
theorem dX5_signAt_0 : decode cX5_signAt 0 = .ok (.aload_n 0, 1) := by decide +kernel
theorem dX5_signAt_1 : decode cX5_signAt 1 = .ok (.iload_n 1, 1) := by decide +kernel
theorem dX5_signAt_2 : decode cX5_signAt 2 = .ok (.invokestatic 69, 3) := by decide +kernel
theorem dX5_signAt_5 : decode cX5_signAt 5 = .ok (.iconst 1, 1) := by decide +kernel
theorem dX5_signAt_6 : decode cX5_signAt 6 = .ok (.invokevirtual 72, 3) := by decide +kernel
theorem dX5_signAt_9 : decode cX5_signAt 9 = .ok (.ifCond .eq 5, 3) := by decide +kernel
theorem dX5_signAt_12 : decode cX5_signAt 12 = .ok (.iconst 0, 1) := by decide +kernel
theorem dX5_signAt_13 : decode cX5_signAt 13 = .ok (.ireturn, 1) := by decide +kernel
theorem dX5_signAt_14 : decode cX5_signAt 14 = .ok (.aload_n 0, 1) := by decide +kernel
theorem dX5_signAt_15 : decode cX5_signAt 15 = .ok (.getfield 11, 3) := by decide +kernel
theorem dX5_signAt_18 : decode cX5_signAt 18 = .ok (.iload_n 1, 1) := by decide +kernel
theorem dX5_signAt_19 : decode cX5_signAt 19 = .ok (.aaload, 1) := by decide +kernel
theorem dX5_signAt_20 : decode cX5_signAt 20 = .ok (.ifnull 18, 3) := by decide +kernel
theorem dX5_signAt_23 : decode cX5_signAt 23 = .ok (.iload_n 2, 1) := by decide +kernel
theorem dX5_signAt_24 : decode cX5_signAt 24 = .ok (.iconst 0, 1) := by decide +kernel
theorem dX5_signAt_25 : decode cX5_signAt 25 = .ok (.aload_n 0, 1) := by decide +kernel
theorem dX5_signAt_26 : decode cX5_signAt 26 = .ok (.iload_n 1, 1) := by decide +kernel
theorem dX5_signAt_27 : decode cX5_signAt 27 = .ok (.invokevirtual 75, 3) := by decide +kernel
theorem dX5_signAt_30 : decode cX5_signAt 30 = .ok (.iconst 1, 1) := by decide +kernel
theorem dX5_signAt_31 : decode cX5_signAt 31 = .ok (.isub, 1) := by decide +kernel
theorem dX5_signAt_32 : decode cX5_signAt 32 = .ok (.invokestatic 22, 3) := by decide +kernel
theorem dX5_signAt_35 : decode cX5_signAt 35 = .ok (.ifCond .ne 10, 3) := by decide +kernel
theorem dX5_signAt_38 : decode cX5_signAt 38 = .ok (.aload_n 0, 1) := by decide +kernel
theorem dX5_signAt_39 : decode cX5_signAt 39 = .ok (.invokevirtual 90, 3) := by decide +kernel
theorem dX5_signAt_42 : decode cX5_signAt 42 = .ok (.goto 11, 3) := by decide +kernel
theorem dX5_signAt_45 : decode cX5_signAt 45 = .ok (.aload_n 0, 1) := by decide +kernel
theorem dX5_signAt_46 : decode cX5_signAt 46 = .ok (.getfield 11, 3) := by decide +kernel
theorem dX5_signAt_49 : decode cX5_signAt 49 = .ok (.iload_n 1, 1) := by decide +kernel
theorem dX5_signAt_50 : decode cX5_signAt 50 = .ok (.aaload, 1) := by decide +kernel
theorem dX5_signAt_51 : decode cX5_signAt 51 = .ok (.iload_n 2, 1) := by decide +kernel
theorem dX5_signAt_52 : decode cX5_signAt 52 = .ok (.iaload, 1) := by decide +kernel
theorem dX5_signAt_53 : decode cX5_signAt 53 = .ok (.ireturn, 1) := by decide +kernel
theorem dX5_noText_0 : decode cX5_noText 0 = .ok (.aload_n 0, 1) := by decide +kernel
theorem dX5_noText_1 : decode cX5_noText 1 = .ok (.dup, 1) := by decide +kernel
theorem dX5_noText_2 : decode cX5_noText 2 = .ok (.getfield 30, 3) := by decide +kernel
theorem dX5_noText_5 : decode cX5_noText 5 = .ok (.iconst 1, 1) := by decide +kernel
theorem dX5_noText_6 : decode cX5_noText 6 = .ok (.iadd, 1) := by decide +kernel
theorem dX5_noText_7 : decode cX5_noText 7 = .ok (.putfield 30, 3) := by decide +kernel
theorem dX5_noText_10 : decode cX5_noText 10 = .ok (.ldc 119, 2) := by decide +kernel
theorem dX5_noText_12 : decode cX5_noText 12 = .ok (.areturn, 1) := by decide +kernel
theorem dX5_part__0 : decode cX5_part_ 0 = .ok (.aload_n 0, 1) := by decide +kernel
theorem dX5_part__1 : decode cX5_part_ 1 = .ok (.iload_n 1, 1) := by decide +kernel
theorem dX5_part__2 : decode cX5_part_ 2 = .ok (.invokestatic 69, 3) := by decide +kernel
theorem dX5_part__5 : decode cX5_part_ 5 = .ok (.iconst 1, 1) := by decide +kernel
theorem dX5_part__6 : decode cX5_part_ 6 = .ok (.invokevirtual 72, 3) := by decide +kernel
theorem dX5_part__9 : decode cX5_part_ 9 = .ok (.ifCond .eq 6, 3) := by decide +kernel
theorem dX5_part__12 : decode cX5_part_ 12 = .ok (.ldc 33, 2) := by decide +kernel
theorem dX5_part__14 : decode cX5_part_ 14 = .ok (.areturn, 1) := by decide +kernel
theorem dX5_part__15 : decode cX5_part_ 15 = .ok (.aload_n 0, 1) := by decide +kernel
theorem dX5_part__16 : decode cX5_part_ 16 = .ok (.getfield 11, 3) := by decide +kernel
theorem dX5_part__19 : decode cX5_part_ 19 = .ok (.iload_n 1, 1) := by decide +kernel
theorem dX5_part__20 : decode cX5_part_ 20 = .ok (.aaload, 1) := by decide +kernel
theorem dX5_part__21 : decode cX5_part_ 21 = .ok (.ifnull 19, 3) := by decide +kernel
theorem dX5_part__24 : decode cX5_part_ 24 = .ok (.iload_n 2, 1) := by decide +kernel
theorem dX5_part__25 : decode cX5_part_ 25 = .ok (.i2l, 1) := by decide +kernel
theorem dX5_part__26 : decode cX5_part_ 26 = .ok (.iload_n 3, 1) := by decide +kernel
theorem dX5_part__27 : decode cX5_part_ 27 = .ok (.i2l, 1) := by decide +kernel
theorem dX5_part__28 : decode cX5_part_ 28 = .ok (.aload_n 0, 1) := by decide +kernel
theorem dX5_part__29 : decode cX5_part_ 29 = .ok (.iload_n 1, 1) := by decide +kernel
theorem dX5_part__30 : decode cX5_part_ 30 = .ok (.invokevirtual 75, 3) := by decide +kernel
theorem dX5_part__33 : decode cX5_part_ 33 = .ok (.i2l, 1) := by decide +kernel
theorem dX5_part__34 : decode cX5_part_ 34 = .ok (.invokestatic 86, 3) := by decide +kernel
theorem dX5_part__37 : decode cX5_part_ 37 = .ok (.ifCond .ne 10, 3) := by decide +kernel
theorem dX5_part__40 : decode cX5_part_ 40 = .ok (.aload_n 0, 1) := by decide +kernel
theorem dX5_part__41 : decode cX5_part_ 41 = .ok (.invokevirtual 121, 3) := by decide +kernel
theorem dX5_part__44 : decode cX5_part_ 44 = .ok (.goto 17, 3) := by decide +kernel
theorem dX5_part__47 : decode cX5_part_ 47 = .ok (.aload_n 0, 1) := by decide +kernel
theorem dX5_part__48 : decode cX5_part_ 48 = .ok (.getfield 11, 3) := by decide +kernel
theorem dX5_part__51 : decode cX5_part_ 51 = .ok (.iload_n 1, 1) := by decide +kernel
theorem dX5_part__52 : decode cX5_part_ 52 = .ok (.aaload, 1) := by decide +kernel
theorem dX5_part__53 : decode cX5_part_ 53 = .ok (.iload_n 2, 1) := by decide +kernel
theorem dX5_part__54 : decode cX5_part_ 54 = .ok (.iload_n 3, 1) := by decide +kernel
theorem dX5_part__55 : decode cX5_part_ 55 = .ok (.invokestatic 94, 3) := by decide +kernel
theorem dX5_part__58 : decode cX5_part_ 58 = .ok (.invokestatic 115, 3) := by decide +kernel
theorem dX5_part__61 : decode cX5_part_ 61 = .ok (.areturn, 1) := by decide +kernel
theorem dX5_isEmpty_0 : decode cX5_isEmpty 0 = .ok (.aload_n 0, 1) := by decide +kernel
theorem dX5_isEmpty_1 : decode cX5_isEmpty 1 = .ok (.iload_n 1, 1) := by decide +kernel
theorem dX5_isEmpty_2 : decode cX5_isEmpty 2 = .ok (.invokevirtual 83, 3) := by decide +kernel
theorem dX5_isEmpty_5 : decode cX5_isEmpty 5 = .ok (.ifCond .ne 15, 3) := by decide +kernel
theorem dX5_isEmpty_8 : decode cX5_isEmpty 8 = .ok (.aload_n 0, 1) := by decide +kernel
theorem dX5_isEmpty_9 : decode cX5_isEmpty 9 = .ok (.iload_n 1, 1) := by decide +kernel
theorem dX5_isEmpty_10 : decode cX5_isEmpty 10 = .ok (.invokevirtual 75, 3) := by decide +kernel
theorem dX5_isEmpty_13 : decode cX5_isEmpty 13 = .ok (.ifCond .ne 7, 3) := by decide +kernel
theorem dX5_isEmpty_16 : decode cX5_isEmpty 16 = .ok (.iconst 1, 1) := by decide +kernel
theorem dX5_isEmpty_17 : decode cX5_isEmpty 17 = .ok (.goto 4, 3) := by decide +kernel
theorem dX5_isEmpty_20 : decode cX5_isEmpty 20 = .ok (.iconst 0, 1) := by decide +kernel
theorem dX5_isEmpty_21 : decode cX5_isEmpty 21 = .ok (.ireturn, 1) := by decide +kernel
theorem dX5_compare_0 : decode cX5_compare 0 = .ok (.aload_n 0, 1) := by decide +kernel
theorem dX5_compare_1 : decode cX5_compare 1 = .ok (.iload_n 1, 1) := by decide +kernel
theorem dX5_compare_2 : decode cX5_compare 2 = .ok (.iload_n 2, 1) := by decide +kernel
theorem dX5_compare_3 : decode cX5_compare 3 = .ok (.invokevirtual 101, 3) := by decide +kernel
theorem dX5_compare_6 : decode cX5_compare 6 = .ok (.ifCond .eq 5, 3) := by decide +kernel
theorem dX5_compare_9 : decode cX5_compare 9 = .ok (.iconst 0, 1) := by decide +kernel
theorem dX5_compare_10 : decode cX5_compare 10 = .ok (.ireturn, 1) := by decide +kernel
theorem dX5_compare_11 : decode cX5_compare 11 = .ok (.aload_n 0, 1) := by decide +kernel
theorem dX5_compare_12 : decode cX5_compare 12 = .ok (.getfield 11, 3) := by decide +kernel
theorem dX5_compare_15 : decode cX5_compare 15 = .ok (.iload_n 1, 1) := by decide +kernel
theorem dX5_compare_16 : decode cX5_compare 16 = .ok (.aaload, 1) := by decide +kernel
theorem dX5_compare_17 : decode cX5_compare 17 = .ok (.ifnull 12, 3) := by decide +kernel
theorem dX5_compare_20 : decode cX5_compare 20 = .ok (.aload_n 0, 1) := by decide +kernel
theorem dX5_compare_21 : decode cX5_compare 21 = .ok (.getfield 11, 3) := by decide +kernel
theorem dX5_compare_24 : decode cX5_compare 24 = .ok (.iload_n 2, 1) := by decide +kernel
theorem dX5_compare_25 : decode cX5_compare 25 = .ok (.aaload, 1) := by decide +kernel
theorem dX5_compare_26 : decode cX5_compare 26 = .ok (.ifnonnull 10, 3) := by decide +kernel
theorem dX5_compare_29 : decode cX5_compare 29 = .ok (.aload_n 0, 1) := by decide +kernel
theorem dX5_compare_30 : decode cX5_compare 30 = .ok (.invokevirtual 90, 3) := by decide +kernel
theorem dX5_compare_33 : decode cX5_compare 33 = .ok (.goto 18, 3) := by decide +kernel
theorem dX5_compare_36 : decode cX5_compare 36 = .ok (.aload_n 0, 1) := by decide +kernel
theorem dX5_compare_37 : decode cX5_compare 37 = .ok (.getfield 11, 3) := by decide +kernel
theorem dX5_compare_40 : decode cX5_compare 40 = .ok (.iload_n 1, 1) := by decide +kernel
theorem dX5_compare_41 : decode cX5_compare 41 = .ok (.aaload, 1) := by decide +kernel
theorem dX5_compare_42 : decode cX5_compare 42 = .ok (.aload_n 0, 1) := by decide +kernel
theorem dX5_compare_43 : decode cX5_compare 43 = .ok (.getfield 11, 3) := by decide +kernel
theorem dX5_compare_46 : decode cX5_compare 46 = .ok (.iload_n 2, 1) := by decide +kernel
theorem dX5_compare_47 : decode cX5_compare 47 = .ok (.aaload, 1) := by decide +kernel
theorem dX5_compare_48 : decode cX5_compare 48 = .ok (.invokestatic 61, 3) := by decide +kernel
theorem dX5_compare_51 : decode cX5_compare 51 = .ok (.ireturn, 1) := by decide +kernel
theorem dX5_compareParts_0 : decode cX5_compareParts 0 = .ok (.aload_n 0, 1) := by decide +kernel
theorem dX5_compareParts_1 : decode cX5_compareParts 1 = .ok (.iload_n 1, 1) := by decide +kernel
theorem dX5_compareParts_2 : decode cX5_compareParts 2 = .ok (.iload_n 2, 1) := by decide +kernel
theorem dX5_compareParts_3 : decode cX5_compareParts 3 = .ok (.invokevirtual 101, 3) := by decide +kernel
theorem dX5_compareParts_6 : decode cX5_compareParts 6 = .ok (.ifCond .eq 5, 3) := by decide +kernel
theorem dX5_compareParts_9 : decode cX5_compareParts 9 = .ok (.iconst 0, 1) := by decide +kernel
theorem dX5_compareParts_10 : decode cX5_compareParts 10 = .ok (.ireturn, 1) := by decide +kernel
theorem dX5_compareParts_11 : decode cX5_compareParts 11 = .ok (.aload_n 0, 1) := by decide +kernel
theorem dX5_compareParts_12 : decode cX5_compareParts 12 = .ok (.getfield 11, 3) := by decide +kernel
theorem dX5_compareParts_15 : decode cX5_compareParts 15 = .ok (.iload_n 1, 1) := by decide +kernel
theorem dX5_compareParts_16 : decode cX5_compareParts 16 = .ok (.aaload, 1) := by decide +kernel
theorem dX5_compareParts_17 : decode cX5_compareParts 17 = .ok (.ifnull 46, 3) := by decide +kernel
theorem dX5_compareParts_20 : decode cX5_compareParts 20 = .ok (.aload_n 0, 1) := by decide +kernel
theorem dX5_compareParts_21 : decode cX5_compareParts 21 = .ok (.getfield 11, 3) := by decide +kernel
theorem dX5_compareParts_24 : decode cX5_compareParts 24 = .ok (.iload_n 2, 1) := by decide +kernel
theorem dX5_compareParts_25 : decode cX5_compareParts 25 = .ok (.aaload, 1) := by decide +kernel
theorem dX5_compareParts_26 : decode cX5_compareParts 26 = .ok (.ifnull 37, 3) := by decide +kernel
theorem dX5_compareParts_29 : decode cX5_compareParts 29 = .ok (.iload_n 3, 1) := by decide +kernel
theorem dX5_compareParts_30 : decode cX5_compareParts 30 = .ok (.i2l, 1) := by decide +kernel
theorem dX5_compareParts_31 : decode cX5_compareParts 31 = .ok (.iload 4, 2) := by decide +kernel
theorem dX5_compareParts_33 : decode cX5_compareParts 33 = .ok (.i2l, 1) := by decide +kernel
theorem dX5_compareParts_34 : decode cX5_compareParts 34 = .ok (.aload_n 0, 1) := by decide +kernel
theorem dX5_compareParts_35 : decode cX5_compareParts 35 = .ok (.iload_n 1, 1) := by decide +kernel
theorem dX5_compareParts_36 : decode cX5_compareParts 36 = .ok (.invokevirtual 75, 3) := by decide +kernel
theorem dX5_compareParts_39 : decode cX5_compareParts 39 = .ok (.i2l, 1) := by decide +kernel
theorem dX5_compareParts_40 : decode cX5_compareParts 40 = .ok (.invokestatic 86, 3) := by decide +kernel
theorem dX5_compareParts_43 : decode cX5_compareParts 43 = .ok (.ifCond .eq 20, 3) := by decide +kernel
theorem dX5_compareParts_46 : decode cX5_compareParts 46 = .ok (.iload_n 3, 1) := by decide +kernel
theorem dX5_compareParts_47 : decode cX5_compareParts 47 = .ok (.i2l, 1) := by decide +kernel
theorem dX5_compareParts_48 : decode cX5_compareParts 48 = .ok (.iload 4, 2) := by decide +kernel
theorem dX5_compareParts_50 : decode cX5_compareParts 50 = .ok (.i2l, 1) := by decide +kernel
theorem dX5_compareParts_51 : decode cX5_compareParts 51 = .ok (.aload_n 0, 1) := by decide +kernel
theorem dX5_compareParts_52 : decode cX5_compareParts 52 = .ok (.iload_n 2, 1) := by decide +kernel
theorem dX5_compareParts_53 : decode cX5_compareParts 53 = .ok (.invokevirtual 75, 3) := by decide +kernel
theorem dX5_compareParts_56 : decode cX5_compareParts 56 = .ok (.i2l, 1) := by decide +kernel
theorem dX5_compareParts_57 : decode cX5_compareParts 57 = .ok (.invokestatic 86, 3) := by decide +kernel
theorem dX5_compareParts_60 : decode cX5_compareParts 60 = .ok (.ifCond .ne 8, 3) := by decide +kernel
theorem dX5_compareParts_63 : decode cX5_compareParts 63 = .ok (.aload_n 0, 1) := by decide +kernel
theorem dX5_compareParts_64 : decode cX5_compareParts 64 = .ok (.invokevirtual 90, 3) := by decide +kernel
theorem dX5_compareParts_67 : decode cX5_compareParts 67 = .ok (.ireturn, 1) := by decide +kernel
theorem dX5_compareParts_68 : decode cX5_compareParts 68 = .ok (.aload_n 0, 1) := by decide +kernel
theorem dX5_compareParts_69 : decode cX5_compareParts 69 = .ok (.getfield 11, 3) := by decide +kernel
theorem dX5_compareParts_72 : decode cX5_compareParts 72 = .ok (.iload_n 1, 1) := by decide +kernel
theorem dX5_compareParts_73 : decode cX5_compareParts 73 = .ok (.aaload, 1) := by decide +kernel
theorem dX5_compareParts_74 : decode cX5_compareParts 74 = .ok (.iload_n 3, 1) := by decide +kernel
theorem dX5_compareParts_75 : decode cX5_compareParts 75 = .ok (.iload 4, 2) := by decide +kernel
theorem dX5_compareParts_77 : decode cX5_compareParts 77 = .ok (.invokestatic 94, 3) := by decide +kernel
theorem dX5_compareParts_80 : decode cX5_compareParts 80 = .ok (.aload_n 0, 1) := by decide +kernel
theorem dX5_compareParts_81 : decode cX5_compareParts 81 = .ok (.getfield 11, 3) := by decide +kernel
theorem dX5_compareParts_84 : decode cX5_compareParts 84 = .ok (.iload_n 2, 1) := by decide +kernel
theorem dX5_compareParts_85 : decode cX5_compareParts 85 = .ok (.aaload, 1) := by decide +kernel
theorem dX5_compareParts_86 : decode cX5_compareParts 86 = .ok (.iload_n 3, 1) := by decide +kernel
theorem dX5_compareParts_87 : decode cX5_compareParts 87 = .ok (.iload 4, 2) := by decide +kernel
theorem dX5_compareParts_89 : decode cX5_compareParts 89 = .ok (.invokestatic 94, 3) := by decide +kernel
theorem dX5_compareParts_92 : decode cX5_compareParts 92 = .ok (.invokestatic 61, 3) := by decide +kernel
theorem dX5_compareParts_95 : decode cX5_compareParts 95 = .ok (.ireturn, 1) := by decide +kernel
theorem dX5_isLike_0 : decode cX5_isLike 0 = .ok (.aload_n 0, 1) := by decide +kernel
theorem dX5_isLike_1 : decode cX5_isLike 1 = .ok (.iload_n 1, 1) := by decide +kernel
theorem dX5_isLike_2 : decode cX5_isLike 2 = .ok (.iconst 0, 1) := by decide +kernel
theorem dX5_isLike_3 : decode cX5_isLike 3 = .ok (.iconst 2, 1) := by decide +kernel
theorem dX5_isLike_4 : decode cX5_isLike 4 = .ok (.invokestatic 22, 3) := by decide +kernel
theorem dX5_isLike_7 : decode cX5_isLike 7 = .ok (.ifCond .eq 10, 3) := by decide +kernel
theorem dX5_isLike_10 : decode cX5_isLike 10 = .ok (.iload_n 2, 1) := by decide +kernel
theorem dX5_isLike_11 : decode cX5_isLike 11 = .ok (.invokestatic 69, 3) := by decide +kernel
theorem dX5_isLike_14 : decode cX5_isLike 14 = .ok (.ifCond .eq 7, 3) := by decide +kernel
theorem dX5_isLike_17 : decode cX5_isLike 17 = .ok (.iconst 1, 1) := by decide +kernel
theorem dX5_isLike_18 : decode cX5_isLike 18 = .ok (.goto 4, 3) := by decide +kernel
theorem dX5_isLike_21 : decode cX5_isLike 21 = .ok (.iconst 0, 1) := by decide +kernel
theorem dX5_isLike_22 : decode cX5_isLike 22 = .ok (.iconst 1, 1) := by decide +kernel
theorem dX5_isLike_23 : decode cX5_isLike 23 = .ok (.invokevirtual 72, 3) := by decide +kernel
theorem dX5_isLike_26 : decode cX5_isLike 26 = .ok (.ifCond .ne 25, 3) := by decide +kernel
theorem dX5_isLike_29 : decode cX5_isLike 29 = .ok (.aload_n 0, 1) := by decide +kernel
theorem dX5_isLike_30 : decode cX5_isLike 30 = .ok (.aload_n 0, 1) := by decide +kernel
theorem dX5_isLike_31 : decode cX5_isLike 31 = .ok (.getfield 11, 3) := by decide +kernel
theorem dX5_isLike_34 : decode cX5_isLike 34 = .ok (.iload_n 1, 1) := by decide +kernel
theorem dX5_isLike_35 : decode cX5_isLike 35 = .ok (.aaload, 1) := by decide +kernel
theorem dX5_isLike_36 : decode cX5_isLike 36 = .ok (.ifnonnull 7, 3) := by decide +kernel
theorem dX5_isLike_39 : decode cX5_isLike 39 = .ok (.iconst 1, 1) := by decide +kernel
theorem dX5_isLike_40 : decode cX5_isLike 40 = .ok (.goto 4, 3) := by decide +kernel
theorem dX5_isLike_43 : decode cX5_isLike 43 = .ok (.iconst 0, 1) := by decide +kernel
theorem dX5_isLike_44 : decode cX5_isLike 44 = .ok (.iconst 2, 1) := by decide +kernel
theorem dX5_isLike_45 : decode cX5_isLike 45 = .ok (.invokevirtual 18, 3) := by decide +kernel
theorem dX5_isLike_48 : decode cX5_isLike 48 = .ok (.ifCond .eq 5, 3) := by decide +kernel
theorem dX5_isLike_51 : decode cX5_isLike 51 = .ok (.iconst 0, 1) := by decide +kernel
theorem dX5_isLike_52 : decode cX5_isLike 52 = .ok (.ireturn, 1) := by decide +kernel
theorem dX5_isLike_53 : decode cX5_isLike 53 = .ok (.aload_n 0, 1) := by decide +kernel
theorem dX5_isLike_54 : decode cX5_isLike 54 = .ok (.getfield 11, 3) := by decide +kernel
theorem dX5_isLike_57 : decode cX5_isLike 57 = .ok (.iload_n 2, 1) := by decide +kernel
theorem dX5_isLike_58 : decode cX5_isLike 58 = .ok (.aaload, 1) := by decide +kernel
theorem dX5_isLike_59 : decode cX5_isLike 59 = .ok (.ifnonnull 10, 3) := by decide +kernel
theorem dX5_isLike_62 : decode cX5_isLike 62 = .ok (.aload_n 0, 1) := by decide +kernel
theorem dX5_isLike_63 : decode cX5_isLike 63 = .ok (.invokevirtual 90, 3) := by decide +kernel
theorem dX5_isLike_66 : decode cX5_isLike 66 = .ok (.goto 29, 3) := by decide +kernel
theorem dX5_isLike_69 : decode cX5_isLike 69 = .ok (.aload_n 0, 1) := by decide +kernel
theorem dX5_isLike_70 : decode cX5_isLike 70 = .ok (.getfield 11, 3) := by decide +kernel
theorem dX5_isLike_73 : decode cX5_isLike 73 = .ok (.iload_n 1, 1) := by decide +kernel
theorem dX5_isLike_74 : decode cX5_isLike 74 = .ok (.aaload, 1) := by decide +kernel
theorem dX5_isLike_75 : decode cX5_isLike 75 = .ok (.aload_n 0, 1) := by decide +kernel
theorem dX5_isLike_76 : decode cX5_isLike 76 = .ok (.getfield 11, 3) := by decide +kernel
theorem dX5_isLike_79 : decode cX5_isLike 79 = .ok (.iload_n 2, 1) := by decide +kernel
theorem dX5_isLike_80 : decode cX5_isLike 80 = .ok (.aaload, 1) := by decide +kernel
theorem dX5_isLike_81 : decode cX5_isLike 81 = .ok (.invokestatic 61, 3) := by decide +kernel
theorem dX5_isLike_84 : decode cX5_isLike 84 = .ok (.ifCond .ne 7, 3) := by decide +kernel
theorem dX5_isLike_87 : decode cX5_isLike 87 = .ok (.iconst 1, 1) := by decide +kernel
theorem dX5_isLike_88 : decode cX5_isLike 88 = .ok (.goto 4, 3) := by decide +kernel
theorem dX5_isLike_91 : decode cX5_isLike 91 = .ok (.iconst 0, 1) := by decide +kernel
theorem dX5_isLike_92 : decode cX5_isLike 92 = .ok (.invokestatic 49, 3) := by decide +kernel
theorem dX5_isLike_95 : decode cX5_isLike 95 = .ok (.ireturn, 1) := by decide +kernel
theorem dX5_order_0 : decode cX5_order 0 = .ok (.aload_n 0, 1) := by decide +kernel
theorem dX5_order_1 : decode cX5_order 1 = .ok (.iload_n 1, 1) := by decide +kernel
theorem dX5_order_2 : decode cX5_order 2 = .ok (.iload_n 2, 1) := by decide +kernel
theorem dX5_order_3 : decode cX5_order 3 = .ok (.invokevirtual 101, 3) := by decide +kernel
theorem dX5_order_6 : decode cX5_order 6 = .ok (.ifCond .ne 25, 3) := by decide +kernel
theorem dX5_order_9 : decode cX5_order 9 = .ok (.aload_n 0, 1) := by decide +kernel
theorem dX5_order_10 : decode cX5_order 10 = .ok (.iload_n 3, 1) := by decide +kernel
theorem dX5_order_11 : decode cX5_order 11 = .ok (.iconst 0, 1) := by decide +kernel
theorem dX5_order_12 : decode cX5_order 12 = .ok (.iconst 3, 1) := by decide +kernel
theorem dX5_order_13 : decode cX5_order 13 = .ok (.invokestatic 22, 3) := by decide +kernel
theorem dX5_order_16 : decode cX5_order 16 = .ok (.ifCond .ne 7, 3) := by decide +kernel
theorem dX5_order_19 : decode cX5_order 19 = .ok (.iconst 1, 1) := by decide +kernel
theorem dX5_order_20 : decode cX5_order 20 = .ok (.goto 4, 3) := by decide +kernel
theorem dX5_order_23 : decode cX5_order 23 = .ok (.iconst 0, 1) := by decide +kernel
theorem dX5_order_24 : decode cX5_order 24 = .ok (.iconst 2, 1) := by decide +kernel
theorem dX5_order_25 : decode cX5_order 25 = .ok (.invokevirtual 18, 3) := by decide +kernel
theorem dX5_order_28 : decode cX5_order 28 = .ok (.ifCond .eq 5, 3) := by decide +kernel
theorem dX5_order_31 : decode cX5_order 31 = .ok (.iconst 0, 1) := by decide +kernel
theorem dX5_order_32 : decode cX5_order 32 = .ok (.ireturn, 1) := by decide +kernel
theorem dX5_order_33 : decode cX5_order 33 = .ok (.aload_n 0, 1) := by decide +kernel
theorem dX5_order_34 : decode cX5_order 34 = .ok (.dup, 1) := by decide +kernel
theorem dX5_order_35 : decode cX5_order 35 = .ok (.getfield 124, 3) := by decide +kernel
theorem dX5_order_38 : decode cX5_order 38 = .ok (.aload_n 0, 1) := by decide +kernel
theorem dX5_order_39 : decode cX5_order 39 = .ok (.iload_n 1, 1) := by decide +kernel
theorem dX5_order_40 : decode cX5_order 40 = .ok (.iload_n 2, 1) := by decide +kernel
theorem dX5_order_41 : decode cX5_order 41 = .ok (.invokevirtual 127, 3) := by decide +kernel
theorem dX5_order_44 : decode cX5_order 44 = .ok (.invokestatic 49, 3) := by decide +kernel
theorem dX5_order_47 : decode cX5_order 47 = .ok (.iadd, 1) := by decide +kernel
theorem dX5_order_48 : decode cX5_order 48 = .ok (.putfield 124, 3) := by decide +kernel
theorem dX5_order_51 : decode cX5_order 51 = .ok (.aload_n 0, 1) := by decide +kernel
theorem dX5_order_52 : decode cX5_order 52 = .ok (.iload_n 1, 1) := by decide +kernel
theorem dX5_order_53 : decode cX5_order 53 = .ok (.iload_n 2, 1) := by decide +kernel
theorem dX5_order_54 : decode cX5_order 54 = .ok (.iload_n 3, 1) := by decide +kernel
theorem dX5_order_55 : decode cX5_order 55 = .ok (.invokevirtual 130, 3) := by decide +kernel
theorem dX5_order_58 : decode cX5_order 58 = .ok (.ireturn, 1) := by decide +kernel
theorem dX5_ahead_0 : decode cX5_ahead 0 = .ok (.aload_n 0, 1) := by decide +kernel
theorem dX5_ahead_1 : decode cX5_ahead 1 = .ok (.iload_n 1, 1) := by decide +kernel
theorem dX5_ahead_2 : decode cX5_ahead 2 = .ok (.invokestatic 69, 3) := by decide +kernel
theorem dX5_ahead_5 : decode cX5_ahead 5 = .ok (.iconst 1, 1) := by decide +kernel
theorem dX5_ahead_6 : decode cX5_ahead 6 = .ok (.invokevirtual 72, 3) := by decide +kernel
theorem dX5_ahead_9 : decode cX5_ahead 9 = .ok (.ifCond .ne 25, 3) := by decide +kernel
theorem dX5_ahead_12 : decode cX5_ahead 12 = .ok (.aload_n 0, 1) := by decide +kernel
theorem dX5_ahead_13 : decode cX5_ahead 13 = .ok (.iload_n 2, 1) := by decide +kernel
theorem dX5_ahead_14 : decode cX5_ahead 14 = .ok (.iconst 0, 1) := by decide +kernel
theorem dX5_ahead_15 : decode cX5_ahead 15 = .ok (.iconst 3, 1) := by decide +kernel
theorem dX5_ahead_16 : decode cX5_ahead 16 = .ok (.invokestatic 22, 3) := by decide +kernel
theorem dX5_ahead_19 : decode cX5_ahead 19 = .ok (.ifCond .ne 7, 3) := by decide +kernel
theorem dX5_ahead_22 : decode cX5_ahead 22 = .ok (.iconst 1, 1) := by decide +kernel
theorem dX5_ahead_23 : decode cX5_ahead 23 = .ok (.goto 4, 3) := by decide +kernel
theorem dX5_ahead_26 : decode cX5_ahead 26 = .ok (.iconst 0, 1) := by decide +kernel
theorem dX5_ahead_27 : decode cX5_ahead 27 = .ok (.iconst 2, 1) := by decide +kernel
theorem dX5_ahead_28 : decode cX5_ahead 28 = .ok (.invokevirtual 18, 3) := by decide +kernel
theorem dX5_ahead_31 : decode cX5_ahead 31 = .ok (.ifCond .eq 5, 3) := by decide +kernel
theorem dX5_ahead_34 : decode cX5_ahead 34 = .ok (.iconst 0, 1) := by decide +kernel
theorem dX5_ahead_35 : decode cX5_ahead 35 = .ok (.ireturn, 1) := by decide +kernel
theorem dX5_ahead_36 : decode cX5_ahead 36 = .ok (.iconst 0, 1) := by decide +kernel
theorem dX5_ahead_37 : decode cX5_ahead 37 = .ok (.istore_n 3, 1) := by decide +kernel
theorem dX5_ahead_38 : decode cX5_ahead 38 = .ok (.iconst 0, 1) := by decide +kernel
theorem dX5_ahead_39 : decode cX5_ahead 39 = .ok (.istore 4, 2) := by decide +kernel
theorem dX5_ahead_41 : decode cX5_ahead 41 = .ok (.iload 4, 2) := by decide +kernel
theorem dX5_ahead_43 : decode cX5_ahead 43 = .ok (.bipush 9, 2) := by decide +kernel
theorem dX5_ahead_45 : decode cX5_ahead 45 = .ok (.if_icmp .ge 50, 3) := by decide +kernel
theorem dX5_ahead_48 : decode cX5_ahead 48 = .ok (.aload_n 0, 1) := by decide +kernel
theorem dX5_ahead_49 : decode cX5_ahead 49 = .ok (.dup, 1) := by decide +kernel
theorem dX5_ahead_50 : decode cX5_ahead 50 = .ok (.getfield 124, 3) := by decide +kernel
theorem dX5_ahead_53 : decode cX5_ahead 53 = .ok (.aload_n 0, 1) := by decide +kernel
theorem dX5_ahead_54 : decode cX5_ahead 54 = .ok (.iload_n 1, 1) := by decide +kernel
theorem dX5_ahead_55 : decode cX5_ahead 55 = .ok (.iload 4, 2) := by decide +kernel
theorem dX5_ahead_57 : decode cX5_ahead 57 = .ok (.invokevirtual 127, 3) := by decide +kernel
theorem dX5_ahead_60 : decode cX5_ahead 60 = .ok (.invokestatic 49, 3) := by decide +kernel
theorem dX5_ahead_63 : decode cX5_ahead 63 = .ok (.iadd, 1) := by decide +kernel
theorem dX5_ahead_64 : decode cX5_ahead 64 = .ok (.putfield 124, 3) := by decide +kernel
theorem dX5_ahead_67 : decode cX5_ahead 67 = .ok (.iload_n 3, 1) := by decide +kernel
theorem dX5_ahead_68 : decode cX5_ahead 68 = .ok (.aload_n 0, 1) := by decide +kernel
theorem dX5_ahead_69 : decode cX5_ahead 69 = .ok (.iload 4, 2) := by decide +kernel
theorem dX5_ahead_71 : decode cX5_ahead 71 = .ok (.iload_n 1, 1) := by decide +kernel
theorem dX5_ahead_72 : decode cX5_ahead 72 = .ok (.iload_n 2, 1) := by decide +kernel
theorem dX5_ahead_73 : decode cX5_ahead 73 = .ok (.invokevirtual 130, 3) := by decide +kernel
theorem dX5_ahead_76 : decode cX5_ahead 76 = .ok (.ifCond .ge 7, 3) := by decide +kernel
theorem dX5_ahead_79 : decode cX5_ahead 79 = .ok (.iconst 1, 1) := by decide +kernel
theorem dX5_ahead_80 : decode cX5_ahead 80 = .ok (.goto 4, 3) := by decide +kernel
theorem dX5_ahead_83 : decode cX5_ahead 83 = .ok (.iconst 0, 1) := by decide +kernel
theorem dX5_ahead_84 : decode cX5_ahead 84 = .ok (.invokestatic 49, 3) := by decide +kernel
theorem dX5_ahead_87 : decode cX5_ahead 87 = .ok (.iadd, 1) := by decide +kernel
theorem dX5_ahead_88 : decode cX5_ahead 88 = .ok (.istore_n 3, 1) := by decide +kernel
theorem dX5_ahead_89 : decode cX5_ahead 89 = .ok (.iinc 4 1, 3) := by decide +kernel
theorem dX5_ahead_92 : decode cX5_ahead 92 = .ok (.goto (-51), 3) := by decide +kernel
theorem dX5_ahead_95 : decode cX5_ahead 95 = .ok (.iload_n 3, 1) := by decide +kernel
theorem dX5_ahead_96 : decode cX5_ahead 96 = .ok (.ireturn, 1) := by decide +kernel
theorem dX5_must_0 : decode cX5_must 0 = .ok (.aload_n 0, 1) := by decide +kernel
theorem dX5_must_1 : decode cX5_must 1 = .ok (.iload_n 1, 1) := by decide +kernel
theorem dX5_must_2 : decode cX5_must 2 = .ok (.invokestatic 69, 3) := by decide +kernel
theorem dX5_must_5 : decode cX5_must 5 = .ok (.iconst 1, 1) := by decide +kernel
theorem dX5_must_6 : decode cX5_must 6 = .ok (.invokevirtual 72, 3) := by decide +kernel
theorem dX5_must_9 : decode cX5_must 9 = .ok (.ifCond .eq 7, 3) := by decide +kernel
theorem dX5_must_12 : decode cX5_must 12 = .ok (.iconst 0, 1) := by decide +kernel
theorem dX5_must_13 : decode cX5_must 13 = .ok (.goto 24, 3) := by decide +kernel
theorem dX5_must_16 : decode cX5_must 16 = .ok (.aload_n 0, 1) := by decide +kernel
theorem dX5_must_17 : decode cX5_must 17 = .ok (.getfield 11, 3) := by decide +kernel
theorem dX5_must_20 : decode cX5_must 20 = .ok (.iload_n 1, 1) := by decide +kernel
theorem dX5_must_21 : decode cX5_must 21 = .ok (.aaload, 1) := by decide +kernel
theorem dX5_must_22 : decode cX5_must 22 = .ok (.ifnonnull 10, 3) := by decide +kernel
theorem dX5_must_25 : decode cX5_must 25 = .ok (.aload_n 0, 1) := by decide +kernel
theorem dX5_must_26 : decode cX5_must 26 = .ok (.invokevirtual 90, 3) := by decide +kernel
theorem dX5_must_29 : decode cX5_must 29 = .ok (.goto 8, 3) := by decide +kernel
theorem dX5_must_32 : decode cX5_must 32 = .ok (.aload_n 0, 1) := by decide +kernel
theorem dX5_must_33 : decode cX5_must 33 = .ok (.iload_n 1, 1) := by decide +kernel
theorem dX5_must_34 : decode cX5_must 34 = .ok (.invokevirtual 75, 3) := by decide +kernel
theorem dX5_must_37 : decode cX5_must 37 = .ok (.ireturn, 1) := by decide +kernel
theorem dX5_mustSaying_0 : decode cX5_mustSaying 0 = .ok (.aload_n 0, 1) := by decide +kernel
theorem dX5_mustSaying_1 : decode cX5_mustSaying 1 = .ok (.iload_n 1, 1) := by decide +kernel
theorem dX5_mustSaying_2 : decode cX5_mustSaying 2 = .ok (.invokestatic 69, 3) := by decide +kernel
theorem dX5_mustSaying_5 : decode cX5_mustSaying 5 = .ok (.iconst 1, 1) := by decide +kernel
theorem dX5_mustSaying_6 : decode cX5_mustSaying 6 = .ok (.invokevirtual 72, 3) := by decide +kernel
theorem dX5_mustSaying_9 : decode cX5_mustSaying 9 = .ok (.ifCond .eq 5, 3) := by decide +kernel
theorem dX5_mustSaying_12 : decode cX5_mustSaying 12 = .ok (.iconst 0, 1) := by decide +kernel
theorem dX5_mustSaying_13 : decode cX5_mustSaying 13 = .ok (.ireturn, 1) := by decide +kernel
theorem dX5_mustSaying_14 : decode cX5_mustSaying 14 = .ok (.aload_n 0, 1) := by decide +kernel
theorem dX5_mustSaying_15 : decode cX5_mustSaying 15 = .ok (.dup, 1) := by decide +kernel
theorem dX5_mustSaying_16 : decode cX5_mustSaying 16 = .ok (.getfield 134, 3) := by decide +kernel
theorem dX5_mustSaying_19 : decode cX5_mustSaying 19 = .ok (.aload_n 0, 1) := by decide +kernel
theorem dX5_mustSaying_20 : decode cX5_mustSaying 20 = .ok (.getfield 11, 3) := by decide +kernel
theorem dX5_mustSaying_23 : decode cX5_mustSaying 23 = .ok (.iload_n 1, 1) := by decide +kernel
theorem dX5_mustSaying_24 : decode cX5_mustSaying 24 = .ok (.aaload, 1) := by decide +kernel
theorem dX5_mustSaying_25 : decode cX5_mustSaying 25 = .ok (.ifnonnull 7, 3) := by decide +kernel
theorem dX5_mustSaying_28 : decode cX5_mustSaying 28 = .ok (.iconst 1, 1) := by decide +kernel
theorem dX5_mustSaying_29 : decode cX5_mustSaying 29 = .ok (.goto 4, 3) := by decide +kernel
theorem dX5_mustSaying_32 : decode cX5_mustSaying 32 = .ok (.iconst 0, 1) := by decide +kernel
theorem dX5_mustSaying_33 : decode cX5_mustSaying 33 = .ok (.invokestatic 49, 3) := by decide +kernel
theorem dX5_mustSaying_36 : decode cX5_mustSaying 36 = .ok (.iadd, 1) := by decide +kernel
theorem dX5_mustSaying_37 : decode cX5_mustSaying 37 = .ok (.putfield 134, 3) := by decide +kernel
theorem dX5_mustSaying_40 : decode cX5_mustSaying 40 = .ok (.aload_n 0, 1) := by decide +kernel
theorem dX5_mustSaying_41 : decode cX5_mustSaying 41 = .ok (.getfield 11, 3) := by decide +kernel
theorem dX5_mustSaying_44 : decode cX5_mustSaying 44 = .ok (.iload_n 1, 1) := by decide +kernel
theorem dX5_mustSaying_45 : decode cX5_mustSaying 45 = .ok (.aaload, 1) := by decide +kernel
theorem dX5_mustSaying_46 : decode cX5_mustSaying 46 = .ok (.ifnonnull 10, 3) := by decide +kernel
theorem dX5_mustSaying_49 : decode cX5_mustSaying 49 = .ok (.aload_n 0, 1) := by decide +kernel
theorem dX5_mustSaying_50 : decode cX5_mustSaying 50 = .ok (.invokevirtual 90, 3) := by decide +kernel
theorem dX5_mustSaying_53 : decode cX5_mustSaying 53 = .ok (.goto 8, 3) := by decide +kernel
theorem dX5_mustSaying_56 : decode cX5_mustSaying 56 = .ok (.aload_n 0, 1) := by decide +kernel
theorem dX5_mustSaying_57 : decode cX5_mustSaying 57 = .ok (.iload_n 1, 1) := by decide +kernel
theorem dX5_mustSaying_58 : decode cX5_mustSaying 58 = .ok (.invokevirtual 75, 3) := by decide +kernel
theorem dX5_mustSaying_61 : decode cX5_mustSaying 61 = .ok (.ireturn, 1) := by decide +kernel
theorem dX5_either_0 : decode cX5_either 0 = .ok (.aload_n 0, 1) := by decide +kernel
theorem dX5_either_1 : decode cX5_either 1 = .ok (.getfield 11, 3) := by decide +kernel
theorem dX5_either_4 : decode cX5_either 4 = .ok (.iload_n 1, 1) := by decide +kernel
theorem dX5_either_5 : decode cX5_either 5 = .ok (.aaload, 1) := by decide +kernel
theorem dX5_either_6 : decode cX5_either 6 = .ok (.ifnonnull 12, 3) := by decide +kernel
theorem dX5_either_9 : decode cX5_either 9 = .ok (.aload_n 0, 1) := by decide +kernel
theorem dX5_either_10 : decode cX5_either 10 = .ok (.getfield 11, 3) := by decide +kernel
theorem dX5_either_13 : decode cX5_either 13 = .ok (.iload_n 2, 1) := by decide +kernel
theorem dX5_either_14 : decode cX5_either 14 = .ok (.aaload, 1) := by decide +kernel
