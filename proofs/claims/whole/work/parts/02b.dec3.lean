theorem dX11_supposeEachMissed_14 : decode cX11_supposeEachMissed 14 = .ok (.getfield 68, 3) := by decide +kernel
theorem dX11_supposeEachMissed_17 : decode cX11_supposeEachMissed 17 = .ok (.getfield 123, 3) := by decide +kernel
theorem dX11_supposeEachMissed_20 : decode cX11_supposeEachMissed 20 = .ok (.aload_n 0, 1) := by decide +kernel
theorem dX11_supposeEachMissed_21 : decode cX11_supposeEachMissed 21 = .ok (.getfield 19, 3) := by decide +kernel
theorem dX11_supposeEachMissed_24 : decode cX11_supposeEachMissed 24 = .ok (.getfield 191, 3) := by decide +kernel
theorem dX11_supposeEachMissed_27 : decode cX11_supposeEachMissed 27 = .ok (.iload_n 1, 1) := by decide +kernel
theorem dX11_supposeEachMissed_28 : decode cX11_supposeEachMissed 28 = .ok (.iaload, 1) := by decide +kernel
theorem dX11_supposeEachMissed_29 : decode cX11_supposeEachMissed 29 = .ok (.iconst 1, 1) := by decide +kernel
theorem dX11_supposeEachMissed_30 : decode cX11_supposeEachMissed 30 = .ok (.iload_n 2, 1) := by decide +kernel
theorem dX11_supposeEachMissed_31 : decode cX11_supposeEachMissed 31 = .ok (.ishl, 1) := by decide +kernel
theorem dX11_supposeEachMissed_32 : decode cX11_supposeEachMissed 32 = .ok (.ior, 1) := by decide +kernel
theorem dX11_supposeEachMissed_33 : decode cX11_supposeEachMissed 33 = .ok (.aload_n 0, 1) := by decide +kernel
theorem dX11_supposeEachMissed_34 : decode cX11_supposeEachMissed 34 = .ok (.getfield 19, 3) := by decide +kernel
theorem dX11_supposeEachMissed_37 : decode cX11_supposeEachMissed 37 = .ok (.getfield 139, 3) := by decide +kernel
theorem dX11_supposeEachMissed_40 : decode cX11_supposeEachMissed 40 = .ok (.invokevirtual 262, 3) := by decide +kernel
theorem dX11_supposeEachMissed_43 : decode cX11_supposeEachMissed 43 = .ok (.iastore, 1) := by decide +kernel
theorem dX11_supposeEachMissed_44 : decode cX11_supposeEachMissed 44 = .ok (.iinc 2 1, 3) := by decide +kernel
theorem dX11_supposeEachMissed_47 : decode cX11_supposeEachMissed 47 = .ok (.goto (-45), 3) := by decide +kernel
theorem dX11_supposeEachMissed_50 : decode cX11_supposeEachMissed 50 = .ok (.return_, 1) := by decide +kernel
theorem dX11_thatAgree_0 : decode cX11_thatAgree 0 = .ok (.iconst 0, 1) := by decide +kernel
theorem dX11_thatAgree_1 : decode cX11_thatAgree 1 = .ok (.istore_n 2, 1) := by decide +kernel
theorem dX11_thatAgree_2 : decode cX11_thatAgree 2 = .ok (.iconst 0, 1) := by decide +kernel
theorem dX11_thatAgree_3 : decode cX11_thatAgree 3 = .ok (.istore_n 3, 1) := by decide +kernel
theorem dX11_thatAgree_4 : decode cX11_thatAgree 4 = .ok (.iload_n 3, 1) := by decide +kernel
theorem dX11_thatAgree_5 : decode cX11_thatAgree 5 = .ok (.bipush 10, 2) := by decide +kernel
theorem dX11_thatAgree_7 : decode cX11_thatAgree 7 = .ok (.if_icmp .ge 32, 3) := by decide +kernel
theorem dX11_thatAgree_10 : decode cX11_thatAgree 10 = .ok (.aload_n 0, 1) := by decide +kernel
theorem dX11_thatAgree_11 : decode cX11_thatAgree 11 = .ok (.getfield 33, 3) := by decide +kernel
theorem dX11_thatAgree_14 : decode cX11_thatAgree 14 = .ok (.iload_n 1, 1) := by decide +kernel
theorem dX11_thatAgree_15 : decode cX11_thatAgree 15 = .ok (.aload_n 0, 1) := by decide +kernel
theorem dX11_thatAgree_16 : decode cX11_thatAgree 16 = .ok (.getfield 55, 3) := by decide +kernel
theorem dX11_thatAgree_19 : decode cX11_thatAgree 19 = .ok (.iload_n 3, 1) := by decide +kernel
theorem dX11_thatAgree_20 : decode cX11_thatAgree 20 = .ok (.iaload, 1) := by decide +kernel
theorem dX11_thatAgree_21 : decode cX11_thatAgree 21 = .ok (.invokevirtual 307, 3) := by decide +kernel
theorem dX11_thatAgree_24 : decode cX11_thatAgree 24 = .ok (.ifCond .eq 9, 3) := by decide +kernel
theorem dX11_thatAgree_27 : decode cX11_thatAgree 27 = .ok (.iload_n 2, 1) := by decide +kernel
theorem dX11_thatAgree_28 : decode cX11_thatAgree 28 = .ok (.iconst 1, 1) := by decide +kernel
theorem dX11_thatAgree_29 : decode cX11_thatAgree 29 = .ok (.iload_n 3, 1) := by decide +kernel
theorem dX11_thatAgree_30 : decode cX11_thatAgree 30 = .ok (.ishl, 1) := by decide +kernel
theorem dX11_thatAgree_31 : decode cX11_thatAgree 31 = .ok (.ior, 1) := by decide +kernel
theorem dX11_thatAgree_32 : decode cX11_thatAgree 32 = .ok (.istore_n 2, 1) := by decide +kernel
theorem dX11_thatAgree_33 : decode cX11_thatAgree 33 = .ok (.iinc 3 1, 3) := by decide +kernel
theorem dX11_thatAgree_36 : decode cX11_thatAgree 36 = .ok (.goto (-32), 3) := by decide +kernel
theorem dX11_thatAgree_39 : decode cX11_thatAgree 39 = .ok (.iload_n 2, 1) := by decide +kernel
theorem dX11_thatAgree_40 : decode cX11_thatAgree 40 = .ok (.ireturn, 1) := by decide +kernel
theorem dX11_howManyWith_0 : decode cX11_howManyWith 0 = .ok (.iconst 0, 1) := by decide +kernel
theorem dX11_howManyWith_1 : decode cX11_howManyWith 1 = .ok (.istore_n 3, 1) := by decide +kernel
theorem dX11_howManyWith_2 : decode cX11_howManyWith 2 = .ok (.iconst 0, 1) := by decide +kernel
theorem dX11_howManyWith_3 : decode cX11_howManyWith 3 = .ok (.istore 4, 2) := by decide +kernel
theorem dX11_howManyWith_5 : decode cX11_howManyWith 5 = .ok (.iload 4, 2) := by decide +kernel
theorem dX11_howManyWith_7 : decode cX11_howManyWith 7 = .ok (.bipush 10, 2) := by decide +kernel
theorem dX11_howManyWith_9 : decode cX11_howManyWith 9 = .ok (.if_icmp .ge 35, 3) := by decide +kernel
theorem dX11_howManyWith_12 : decode cX11_howManyWith 12 = .ok (.iload 4, 2) := by decide +kernel
theorem dX11_howManyWith_14 : decode cX11_howManyWith 14 = .ok (.iload_n 2, 1) := by decide +kernel
theorem dX11_howManyWith_15 : decode cX11_howManyWith 15 = .ok (.invokestatic 182, 3) := by decide +kernel
theorem dX11_howManyWith_18 : decode cX11_howManyWith 18 = .ok (.ifCond .eq 20, 3) := by decide +kernel
theorem dX11_howManyWith_21 : decode cX11_howManyWith 21 = .ok (.iload_n 1, 1) := by decide +kernel
theorem dX11_howManyWith_22 : decode cX11_howManyWith 22 = .ok (.aload_n 0, 1) := by decide +kernel
theorem dX11_howManyWith_23 : decode cX11_howManyWith 23 = .ok (.getfield 55, 3) := by decide +kernel
theorem dX11_howManyWith_26 : decode cX11_howManyWith 26 = .ok (.iload 4, 2) := by decide +kernel
theorem dX11_howManyWith_28 : decode cX11_howManyWith 28 = .ok (.iaload, 1) := by decide +kernel
theorem dX11_howManyWith_29 : decode cX11_howManyWith 29 = .ok (.invokestatic 182, 3) := by decide +kernel
theorem dX11_howManyWith_32 : decode cX11_howManyWith 32 = .ok (.ifCond .eq 6, 3) := by decide +kernel
theorem dX11_howManyWith_35 : decode cX11_howManyWith 35 = .ok (.iinc 3 1, 3) := by decide +kernel
theorem dX11_howManyWith_38 : decode cX11_howManyWith 38 = .ok (.iinc 4 1, 3) := by decide +kernel
theorem dX11_howManyWith_41 : decode cX11_howManyWith 41 = .ok (.goto (-36), 3) := by decide +kernel
theorem dX11_howManyWith_44 : decode cX11_howManyWith 44 = .ok (.iload_n 3, 1) := by decide +kernel
theorem dX11_howManyWith_45 : decode cX11_howManyWith 45 = .ok (.ireturn, 1) := by decide +kernel
theorem dX11_game_0 : decode cX11_game 0 = .ok (.aload_n 0, 1) := by decide +kernel
theorem dX11_game_1 : decode cX11_game 1 = .ok (.iload_n 1, 1) := by decide +kernel
theorem dX11_game_2 : decode cX11_game 2 = .ok (.invokevirtual 188, 3) := by decide +kernel
theorem dX11_game_5 : decode cX11_game 5 = .ok (.aload_n 0, 1) := by decide +kernel
theorem dX11_game_6 : decode cX11_game 6 = .ok (.iload_n 2, 1) := by decide +kernel
theorem dX11_game_7 : decode cX11_game 7 = .ok (.invokevirtual 188, 3) := by decide +kernel
theorem dX11_game_10 : decode cX11_game 10 = .ok (.iload_n 3, 1) := by decide +kernel
theorem dX11_game_11 : decode cX11_game 11 = .ok (.iconst 1, 1) := by decide +kernel
theorem dX11_game_12 : decode cX11_game 12 = .ok (.invokestatic 247, 3) := by decide +kernel
theorem dX11_game_15 : decode cX11_game 15 = .ok (.iload_n 1, 1) := by decide +kernel
theorem dX11_game_16 : decode cX11_game 16 = .ok (.iload_n 2, 1) := by decide +kernel
theorem dX11_game_17 : decode cX11_game 17 = .ok (.if_icmp .ne 14, 3) := by decide +kernel
theorem dX11_game_20 : decode cX11_game 20 = .ok (.new 310, 3) := by decide +kernel
theorem dX11_game_23 : decode cX11_game 23 = .ok (.dup, 1) := by decide +kernel
theorem dX11_game_24 : decode cX11_game 24 = .ok (.ldc_w 312, 3) := by decide +kernel
theorem dX11_game_27 : decode cX11_game 27 = .ok (.invokespecial 314, 3) := by decide +kernel
theorem dX11_game_30 : decode cX11_game 30 = .ok (.athrow, 1) := by decide +kernel
theorem dX11_game_31 : decode cX11_game 31 = .ok (.aload_n 0, 1) := by decide +kernel
theorem dX11_game_32 : decode cX11_game 32 = .ok (.getfield 77, 3) := by decide +kernel
theorem dX11_game_35 : decode cX11_game 35 = .ok (.aload_n 0, 1) := by decide +kernel
theorem dX11_game_36 : decode cX11_game 36 = .ok (.getfield 68, 3) := by decide +kernel
theorem dX11_game_39 : decode cX11_game 39 = .ok (.aload_n 0, 1) := by decide +kernel
theorem dX11_game_40 : decode cX11_game 40 = .ok (.getfield 19, 3) := by decide +kernel
theorem dX11_game_43 : decode cX11_game 43 = .ok (.invokevirtual 219, 3) := by decide +kernel
theorem dX11_game_46 : decode cX11_game 46 = .ok (.aload_n 0, 1) := by decide +kernel
theorem dX11_game_47 : decode cX11_game 47 = .ok (.getfield 77, 3) := by decide +kernel
theorem dX11_game_50 : decode cX11_game 50 = .ok (.getfield 315, 3) := by decide +kernel
theorem dX11_game_53 : decode cX11_game 53 = .ok (.iload_n 1, 1) := by decide +kernel
theorem dX11_game_54 : decode cX11_game 54 = .ok (.iaload, 1) := by decide +kernel
theorem dX11_game_55 : decode cX11_game 55 = .ok (.aload_n 0, 1) := by decide +kernel
theorem dX11_game_56 : decode cX11_game 56 = .ok (.getfield 77, 3) := by decide +kernel
theorem dX11_game_59 : decode cX11_game 59 = .ok (.getfield 315, 3) := by decide +kernel
theorem dX11_game_62 : decode cX11_game 62 = .ok (.iload_n 2, 1) := by decide +kernel
theorem dX11_game_63 : decode cX11_game 63 = .ok (.iaload, 1) := by decide +kernel
theorem dX11_game_64 : decode cX11_game 64 = .ok (.iand, 1) := by decide +kernel
theorem dX11_game_65 : decode cX11_game 65 = .ok (.invokestatic 257, 3) := by decide +kernel
theorem dX11_game_68 : decode cX11_game 68 = .ok (.istore 4, 2) := by decide +kernel
theorem dX11_game_70 : decode cX11_game 70 = .ok (.iconst 0, 1) := by decide +kernel
theorem dX11_game_71 : decode cX11_game 71 = .ok (.istore 5, 2) := by decide +kernel
theorem dX11_game_73 : decode cX11_game 73 = .ok (.iconst (-1), 1) := by decide +kernel
theorem dX11_game_74 : decode cX11_game 74 = .ok (.istore 6, 2) := by decide +kernel
theorem dX11_game_76 : decode cX11_game 76 = .ok (.iconst 0, 1) := by decide +kernel
theorem dX11_game_77 : decode cX11_game 77 = .ok (.istore 7, 2) := by decide +kernel
theorem dX11_game_79 : decode cX11_game 79 = .ok (.iload 7, 2) := by decide +kernel
theorem dX11_game_81 : decode cX11_game 81 = .ok (.iconst 4, 1) := by decide +kernel
theorem dX11_game_82 : decode cX11_game 82 = .ok (.if_icmp .ge 85, 3) := by decide +kernel
theorem dX11_game_85 : decode cX11_game 85 = .ok (.iload 7, 2) := by decide +kernel
theorem dX11_game_87 : decode cX11_game 87 = .ok (.iconst 1, 1) := by decide +kernel
theorem dX11_game_88 : decode cX11_game 88 = .ok (.ishr, 1) := by decide +kernel
theorem dX11_game_89 : decode cX11_game 89 = .ok (.istore 8, 2) := by decide +kernel
theorem dX11_game_91 : decode cX11_game 91 = .ok (.iload 7, 2) := by decide +kernel
theorem dX11_game_93 : decode cX11_game 93 = .ok (.iconst 1, 1) := by decide +kernel
theorem dX11_game_94 : decode cX11_game 94 = .ok (.iand, 1) := by decide +kernel
theorem dX11_game_95 : decode cX11_game 95 = .ok (.istore 9, 2) := by decide +kernel
theorem dX11_game_97 : decode cX11_game 97 = .ok (.iload 8, 2) := by decide +kernel
theorem dX11_game_99 : decode cX11_game 99 = .ok (.iload 9, 2) := by decide +kernel
theorem dX11_game_101 : decode cX11_game 101 = .ok (.aload_n 0, 1) := by decide +kernel
theorem dX11_game_102 : decode cX11_game 102 = .ok (.getfield 77, 3) := by decide +kernel
theorem dX11_game_105 : decode cX11_game 105 = .ok (.iload_n 1, 1) := by decide +kernel
theorem dX11_game_106 : decode cX11_game 106 = .ok (.invokevirtual 317, 3) := by decide +kernel
theorem dX11_game_109 : decode cX11_game 109 = .ok (.iload 4, 2) := by decide +kernel
theorem dX11_game_111 : decode cX11_game 111 = .ok (.invokestatic 320, 3) := by decide +kernel
theorem dX11_game_114 : decode cX11_game 114 = .ok (.ifCond .eq 47, 3) := by decide +kernel
theorem dX11_game_117 : decode cX11_game 117 = .ok (.iload 9, 2) := by decide +kernel
theorem dX11_game_119 : decode cX11_game 119 = .ok (.iload 8, 2) := by decide +kernel
theorem dX11_game_121 : decode cX11_game 121 = .ok (.aload_n 0, 1) := by decide +kernel
theorem dX11_game_122 : decode cX11_game 122 = .ok (.getfield 77, 3) := by decide +kernel
theorem dX11_game_125 : decode cX11_game 125 = .ok (.iload_n 2, 1) := by decide +kernel
theorem dX11_game_126 : decode cX11_game 126 = .ok (.invokevirtual 317, 3) := by decide +kernel
theorem dX11_game_129 : decode cX11_game 129 = .ok (.iload 4, 2) := by decide +kernel
theorem dX11_game_131 : decode cX11_game 131 = .ok (.invokestatic 320, 3) := by decide +kernel
theorem dX11_game_134 : decode cX11_game 134 = .ok (.ifCond .eq 27, 3) := by decide +kernel
theorem dX11_game_137 : decode cX11_game 137 = .ok (.iinc 5 1, 3) := by decide +kernel
theorem dX11_game_140 : decode cX11_game 140 = .ok (.iload 6, 2) := by decide +kernel
theorem dX11_game_142 : decode cX11_game 142 = .ok (.iconst (-1), 1) := by decide +kernel
theorem dX11_game_143 : decode cX11_game 143 = .ok (.if_icmp .ne 14, 3) := by decide +kernel
theorem dX11_game_146 : decode cX11_game 146 = .ok (.bipush 10, 2) := by decide +kernel
theorem dX11_game_148 : decode cX11_game 148 = .ok (.iload 8, 2) := by decide +kernel
theorem dX11_game_150 : decode cX11_game 150 = .ok (.imul, 1) := by decide +kernel
theorem dX11_game_151 : decode cX11_game 151 = .ok (.iload 9, 2) := by decide +kernel
theorem dX11_game_153 : decode cX11_game 153 = .ok (.iadd, 1) := by decide +kernel
theorem dX11_game_154 : decode cX11_game 154 = .ok (.goto 5, 3) := by decide +kernel
theorem dX11_game_157 : decode cX11_game 157 = .ok (.iload 6, 2) := by decide +kernel
theorem dX11_game_159 : decode cX11_game 159 = .ok (.istore 6, 2) := by decide +kernel
theorem dX11_game_161 : decode cX11_game 161 = .ok (.iinc 7 1, 3) := by decide +kernel
theorem dX11_game_164 : decode cX11_game 164 = .ok (.goto (-85), 3) := by decide +kernel
theorem dX11_game_167 : decode cX11_game 167 = .ok (.iload_n 3, 1) := by decide +kernel
theorem dX11_game_168 : decode cX11_game 168 = .ok (.ifCond .ne 8, 3) := by decide +kernel
theorem dX11_game_171 : decode cX11_game 171 = .ok (.iload 5, 2) := by decide +kernel
theorem dX11_game_173 : decode cX11_game 173 = .ok (.goto 5, 3) := by decide +kernel
theorem dX11_game_176 : decode cX11_game 176 = .ok (.iload 6, 2) := by decide +kernel
theorem dX11_game_178 : decode cX11_game 178 = .ok (.ireturn, 1) := by decide +kernel
theorem dX11_isContent_0 : decode cX11_isContent 0 = .ok (.iload_n 0, 1) := by decide +kernel
theorem dX11_isContent_1 : decode cX11_isContent 1 = .ok (.iload_n 1, 1) := by decide +kernel
theorem dX11_isContent_2 : decode cX11_isContent 2 = .ok (.iload_n 2, 1) := by decide +kernel
theorem dX11_isContent_3 : decode cX11_isContent 3 = .ok (.iload_n 3, 1) := by decide +kernel
theorem dX11_isContent_4 : decode cX11_isContent 4 = .ok (.invokestatic 324, 3) := by decide +kernel
theorem dX11_isContent_7 : decode cX11_isContent 7 = .ok (.iconst 1, 1) := by decide +kernel
theorem dX11_isContent_8 : decode cX11_isContent 8 = .ok (.iload_n 0, 1) := by decide +kernel
theorem dX11_isContent_9 : decode cX11_isContent 9 = .ok (.isub, 1) := by decide +kernel
theorem dX11_isContent_10 : decode cX11_isContent 10 = .ok (.iload_n 1, 1) := by decide +kernel
theorem dX11_isContent_11 : decode cX11_isContent 11 = .ok (.iload_n 2, 1) := by decide +kernel
theorem dX11_isContent_12 : decode cX11_isContent 12 = .ok (.iload_n 3, 1) := by decide +kernel
theorem dX11_isContent_13 : decode cX11_isContent 13 = .ok (.invokestatic 324, 3) := by decide +kernel
theorem dX11_isContent_16 : decode cX11_isContent 16 = .ok (.if_icmp .lt 7, 3) := by decide +kernel
theorem dX11_isContent_19 : decode cX11_isContent 19 = .ok (.iconst 1, 1) := by decide +kernel
theorem dX11_isContent_20 : decode cX11_isContent 20 = .ok (.goto 4, 3) := by decide +kernel
theorem dX11_isContent_23 : decode cX11_isContent 23 = .ok (.iconst 0, 1) := by decide +kernel
theorem dX11_isContent_24 : decode cX11_isContent 24 = .ok (.ireturn, 1) := by decide +kernel
theorem dX11_gained_0 : decode cX11_gained 0 = .ok (.iload_n 0, 1) := by decide +kernel
theorem dX11_gained_1 : decode cX11_gained 1 = .ok (.ifCond .ne 5, 3) := by decide +kernel
theorem dX11_gained_4 : decode cX11_gained 4 = .ok (.iconst 1, 1) := by decide +kernel
theorem dX11_gained_5 : decode cX11_gained 5 = .ok (.ireturn, 1) := by decide +kernel
theorem dX11_gained_6 : decode cX11_gained 6 = .ok (.iload_n 1, 1) := by decide +kernel
theorem dX11_gained_7 : decode cX11_gained 7 = .ok (.ifCond .ne 7, 3) := by decide +kernel
theorem dX11_gained_10 : decode cX11_gained 10 = .ok (.iload_n 2, 1) := by decide +kernel
theorem dX11_gained_11 : decode cX11_gained 11 = .ok (.goto 10, 3) := by decide +kernel
theorem dX11_gained_14 : decode cX11_gained 14 = .ok (.iload_n 2, 1) := by decide +kernel
theorem dX11_gained_15 : decode cX11_gained 15 = .ok (.iconst 2, 1) := by decide +kernel
theorem dX11_gained_16 : decode cX11_gained 16 = .ok (.idiv, 1) := by decide +kernel
theorem dX11_gained_17 : decode cX11_gained 17 = .ok (.iconst 2, 1) := by decide +kernel
theorem dX11_gained_18 : decode cX11_gained 18 = .ok (.iload_n 3, 1) := by decide +kernel
theorem dX11_gained_19 : decode cX11_gained 19 = .ok (.imul, 1) := by decide +kernel
theorem dX11_gained_20 : decode cX11_gained 20 = .ok (.iadd, 1) := by decide +kernel
theorem dX11_gained_21 : decode cX11_gained 21 = .ok (.ireturn, 1) := by decide +kernel
theorem dX11_years_0 : decode cX11_years 0 = .ok (.iload_n 3, 1) := by decide +kernel
theorem dX11_years_1 : decode cX11_years 1 = .ok (.iconst 2, 1) := by decide +kernel
theorem dX11_years_2 : decode cX11_years 2 = .ok (.invokestatic 247, 3) := by decide +kernel
theorem dX11_years_5 : decode cX11_years 5 = .ok (.iload_n 2, 1) := by decide +kernel
theorem dX11_years_6 : decode cX11_years 6 = .ok (.iconst 0, 1) := by decide +kernel
theorem dX11_years_7 : decode cX11_years 7 = .ok (.bipush 60, 2) := by decide +kernel
theorem dX11_years_9 : decode cX11_years 9 = .ok (.invokestatic 94, 3) := by decide +kernel
theorem dX11_years_12 : decode cX11_years 12 = .ok (.aload_n 0, 1) := by decide +kernel
theorem dX11_years_13 : decode cX11_years 13 = .ok (.getfield 77, 3) := by decide +kernel
theorem dX11_years_16 : decode cX11_years 16 = .ok (.aload_n 0, 1) := by decide +kernel
theorem dX11_years_17 : decode cX11_years 17 = .ok (.getfield 68, 3) := by decide +kernel
theorem dX11_years_20 : decode cX11_years 20 = .ok (.aload_n 0, 1) := by decide +kernel
theorem dX11_years_21 : decode cX11_years 21 = .ok (.getfield 19, 3) := by decide +kernel
theorem dX11_years_24 : decode cX11_years 24 = .ok (.invokevirtual 219, 3) := by decide +kernel
theorem dX11_years_27 : decode cX11_years 27 = .ok (.aload_n 0, 1) := by decide +kernel
theorem dX11_years_28 : decode cX11_years 28 = .ok (.iload_n 1, 1) := by decide +kernel
theorem dX11_years_29 : decode cX11_years 29 = .ok (.putfield 62, 3) := by decide +kernel
theorem dX11_years_32 : decode cX11_years 32 = .ok (.iconst 0, 1) := by decide +kernel
theorem dX11_years_33 : decode cX11_years 33 = .ok (.istore 4, 2) := by decide +kernel
theorem dX11_years_35 : decode cX11_years 35 = .ok (.iconst 0, 1) := by decide +kernel
theorem dX11_years_36 : decode cX11_years 36 = .ok (.istore 5, 2) := by decide +kernel
theorem dX11_years_38 : decode cX11_years 38 = .ok (.iload 5, 2) := by decide +kernel
theorem dX11_years_40 : decode cX11_years 40 = .ok (.iload_n 2, 1) := by decide +kernel
theorem dX11_years_41 : decode cX11_years 41 = .ok (.if_icmp .ge 38, 3) := by decide +kernel
theorem dX11_years_44 : decode cX11_years 44 = .ok (.aload_n 0, 1) := by decide +kernel
theorem dX11_years_45 : decode cX11_years 45 = .ok (.invokevirtual 328, 3) := by decide +kernel
theorem dX11_years_48 : decode cX11_years 48 = .ok (.aload_n 0, 1) := by decide +kernel
theorem dX11_years_49 : decode cX11_years 49 = .ok (.getfield 77, 3) := by decide +kernel
theorem dX11_years_52 : decode cX11_years 52 = .ok (.invokevirtual 234, 3) := by decide +kernel
theorem dX11_years_55 : decode cX11_years 55 = .ok (.iload 4, 2) := by decide +kernel
theorem dX11_years_57 : decode cX11_years 57 = .ok (.aload_n 0, 1) := by decide +kernel
theorem dX11_years_58 : decode cX11_years 58 = .ok (.getfield 77, 3) := by decide +kernel
theorem dX11_years_61 : decode cX11_years 61 = .ok (.getfield 237, 3) := by decide +kernel
theorem dX11_years_64 : decode cX11_years 64 = .ok (.getfield 136, 3) := by decide +kernel
theorem dX11_years_67 : decode cX11_years 67 = .ok (.invokestatic 257, 3) := by decide +kernel
theorem dX11_years_70 : decode cX11_years 70 = .ok (.iadd, 1) := by decide +kernel
theorem dX11_years_71 : decode cX11_years 71 = .ok (.istore 4, 2) := by decide +kernel
theorem dX11_years_73 : decode cX11_years 73 = .ok (.iinc 5 1, 3) := by decide +kernel
theorem dX11_years_76 : decode cX11_years 76 = .ok (.goto (-38), 3) := by decide +kernel
theorem dX11_years_79 : decode cX11_years 79 = .ok (.iload_n 3, 1) := by decide +kernel
theorem dX11_years_80 : decode cX11_years 80 = .ok (.ifCond .ne 6, 3) := by decide +kernel
theorem dX11_years_83 : decode cX11_years 83 = .ok (.iload 4, 2) := by decide +kernel
theorem dX11_years_85 : decode cX11_years 85 = .ok (.ireturn, 1) := by decide +kernel
theorem dX11_years_86 : decode cX11_years 86 = .ok (.aload_n 0, 1) := by decide +kernel
theorem dX11_years_87 : decode cX11_years 87 = .ok (.iload_n 3, 1) := by decide +kernel
theorem dX11_years_88 : decode cX11_years 88 = .ok (.iconst 1, 1) := by decide +kernel
theorem dX11_years_89 : decode cX11_years 89 = .ok (.if_icmp .ne 16, 3) := by decide +kernel
theorem dX11_years_92 : decode cX11_years 92 = .ok (.aload_n 0, 1) := by decide +kernel
theorem dX11_years_93 : decode cX11_years 93 = .ok (.getfield 77, 3) := by decide +kernel
theorem dX11_years_96 : decode cX11_years 96 = .ok (.getfield 237, 3) := by decide +kernel
theorem dX11_years_99 : decode cX11_years 99 = .ok (.getfield 203, 3) := by decide +kernel
theorem dX11_years_102 : decode cX11_years 102 = .ok (.goto 13, 3) := by decide +kernel
theorem dX11_years_105 : decode cX11_years 105 = .ok (.aload_n 0, 1) := by decide +kernel
theorem dX11_years_106 : decode cX11_years 106 = .ok (.getfield 77, 3) := by decide +kernel
theorem dX11_years_109 : decode cX11_years 109 = .ok (.getfield 237, 3) := by decide +kernel
theorem dX11_years_112 : decode cX11_years 112 = .ok (.getfield 200, 3) := by decide +kernel
theorem dX11_years_115 : decode cX11_years 115 = .ok (.invokevirtual 331, 3) := by decide +kernel
theorem dX11_years_118 : decode cX11_years 118 = .ok (.ireturn, 1) := by decide +kernel
theorem dX11_drawAhead_0 : decode cX11_drawAhead 0 = .ok (.aload_n 0, 1) := by decide +kernel
theorem dX11_drawAhead_1 : decode cX11_drawAhead 1 = .ok (.bipush 6, 2) := by decide +kernel
theorem dX11_drawAhead_3 : decode cX11_drawAhead 3 = .ok (.invokevirtual 335, 3) := by decide +kernel
theorem dX11_drawAhead_6 : decode cX11_drawAhead 6 = .ok (.istore_n 1, 1) := by decide +kernel
theorem dX11_drawAhead_7 : decode cX11_drawAhead 7 = .ok (.iload_n 1, 1) := by decide +kernel
theorem dX11_drawAhead_8 : decode cX11_drawAhead 8 = .ok (.iconst 2, 1) := by decide +kernel
theorem dX11_drawAhead_9 : decode cX11_drawAhead 9 = .ok (.if_icmp .gt 13, 3) := by decide +kernel
theorem dX11_drawAhead_12 : decode cX11_drawAhead 12 = .ok (.aload_n 0, 1) := by decide +kernel
theorem dX11_drawAhead_13 : decode cX11_drawAhead 13 = .ok (.getfield 68, 3) := by decide +kernel
theorem dX11_drawAhead_16 : decode cX11_drawAhead 16 = .ok (.getfield 120, 3) := by decide +kernel
theorem dX11_drawAhead_19 : decode cX11_drawAhead 19 = .ok (.ifCond .ne 4, 3) := by decide +kernel
theorem dX11_drawAhead_22 : decode cX11_drawAhead 22 = .ok (.return_, 1) := by decide +kernel
theorem dX11_drawAhead_23 : decode cX11_drawAhead 23 = .ok (.aload_n 0, 1) := by decide +kernel
theorem dX11_drawAhead_24 : decode cX11_drawAhead 24 = .ok (.aload_n 0, 1) := by decide +kernel
theorem dX11_drawAhead_25 : decode cX11_drawAhead 25 = .ok (.getfield 68, 3) := by decide +kernel
theorem dX11_drawAhead_28 : decode cX11_drawAhead 28 = .ok (.getfield 120, 3) := by decide +kernel
theorem dX11_drawAhead_31 : decode cX11_drawAhead 31 = .ok (.invokevirtual 335, 3) := by decide +kernel
theorem dX11_drawAhead_34 : decode cX11_drawAhead 34 = .ok (.istore_n 2, 1) := by decide +kernel
theorem dX11_drawAhead_35 : decode cX11_drawAhead 35 = .ok (.aload_n 0, 1) := by decide +kernel
theorem dX11_drawAhead_36 : decode cX11_drawAhead 36 = .ok (.bipush 10, 2) := by decide +kernel
theorem dX11_drawAhead_38 : decode cX11_drawAhead 38 = .ok (.invokevirtual 335, 3) := by decide +kernel
theorem dX11_drawAhead_41 : decode cX11_drawAhead 41 = .ok (.istore_n 3, 1) := by decide +kernel
theorem dX11_drawAhead_42 : decode cX11_drawAhead 42 = .ok (.aload_n 0, 1) := by decide +kernel
theorem dX11_drawAhead_43 : decode cX11_drawAhead 43 = .ok (.getfield 77, 3) := by decide +kernel
theorem dX11_drawAhead_46 : decode cX11_drawAhead 46 = .ok (.iload_n 1, 1) := by decide +kernel
theorem dX11_drawAhead_47 : decode cX11_drawAhead 47 = .ok (.iload_n 2, 1) := by decide +kernel
theorem dX11_drawAhead_48 : decode cX11_drawAhead 48 = .ok (.iload_n 3, 1) := by decide +kernel
theorem dX11_drawAhead_49 : decode cX11_drawAhead 49 = .ok (.invokevirtual 338, 3) := by decide +kernel
theorem dX11_drawAhead_52 : decode cX11_drawAhead 52 = .ok (.return_, 1) := by decide +kernel
theorem dX11_draw_0 : decode cX11_draw 0 = .ok (.aload_n 0, 1) := by decide +kernel
theorem dX11_draw_1 : decode cX11_draw 1 = .ok (.aload_n 0, 1) := by decide +kernel
theorem dX11_draw_2 : decode cX11_draw 2 = .ok (.getfield 62, 3) := by decide +kernel
theorem dX11_draw_5 : decode cX11_draw 5 = .ok (.ldc_w 341, 3) := by decide +kernel
theorem dX11_draw_8 : decode cX11_draw 8 = .ok (.imul, 1) := by decide +kernel
theorem dX11_draw_9 : decode cX11_draw 9 = .ok (.sipush 12345, 3) := by decide +kernel
theorem dX11_draw_12 : decode cX11_draw 12 = .ok (.iadd, 1) := by decide +kernel
theorem dX11_draw_13 : decode cX11_draw 13 = .ok (.putfield 62, 3) := by decide +kernel
theorem dX11_draw_16 : decode cX11_draw 16 = .ok (.iload_n 1, 1) := by decide +kernel
theorem dX11_draw_17 : decode cX11_draw 17 = .ok (.iconst 1, 1) := by decide +kernel
theorem dX11_draw_18 : decode cX11_draw 18 = .ok (.if_icmp .ge 7, 3) := by decide +kernel
theorem dX11_draw_21 : decode cX11_draw 21 = .ok (.iconst 0, 1) := by decide +kernel
theorem dX11_draw_22 : decode cX11_draw 22 = .ok (.goto 16, 3) := by decide +kernel
theorem dX11_draw_25 : decode cX11_draw 25 = .ok (.aload_n 0, 1) := by decide +kernel
theorem dX11_draw_26 : decode cX11_draw 26 = .ok (.getfield 62, 3) := by decide +kernel
theorem dX11_draw_29 : decode cX11_draw 29 = .ok (.bipush 16, 2) := by decide +kernel
theorem dX11_draw_31 : decode cX11_draw 31 = .ok (.iushr, 1) := by decide +kernel
theorem dX11_draw_32 : decode cX11_draw 32 = .ok (.sipush 32767, 3) := by decide +kernel
theorem dX11_draw_35 : decode cX11_draw 35 = .ok (.iand, 1) := by decide +kernel
theorem dX11_draw_36 : decode cX11_draw 36 = .ok (.iload_n 1, 1) := by decide +kernel
theorem dX11_draw_37 : decode cX11_draw 37 = .ok (.irem, 1) := by decide +kernel
theorem dX11_draw_38 : decode cX11_draw 38 = .ok (.ireturn, 1) := by decide +kernel
theorem dX11_totalOf_0 : decode cX11_totalOf 0 = .ok (.iconst 0, 1) := by decide +kernel
theorem dX11_totalOf_1 : decode cX11_totalOf 1 = .ok (.istore_n 2, 1) := by decide +kernel
theorem dX11_totalOf_2 : decode cX11_totalOf 2 = .ok (.iconst 0, 1) := by decide +kernel
theorem dX11_totalOf_3 : decode cX11_totalOf 3 = .ok (.istore_n 3, 1) := by decide +kernel
theorem dX11_totalOf_4 : decode cX11_totalOf 4 = .ok (.iload_n 3, 1) := by decide +kernel
theorem dX11_totalOf_5 : decode cX11_totalOf 5 = .ok (.aload_n 0, 1) := by decide +kernel
theorem dX11_totalOf_6 : decode cX11_totalOf 6 = .ok (.getfield 68, 3) := by decide +kernel
theorem dX11_totalOf_9 : decode cX11_totalOf 9 = .ok (.getfield 120, 3) := by decide +kernel
theorem dX11_totalOf_12 : decode cX11_totalOf 12 = .ok (.if_icmp .ge 15, 3) := by decide +kernel
theorem dX11_totalOf_15 : decode cX11_totalOf 15 = .ok (.iload_n 2, 1) := by decide +kernel
theorem dX11_totalOf_16 : decode cX11_totalOf 16 = .ok (.aload_n 1, 1) := by decide +kernel
theorem dX11_totalOf_17 : decode cX11_totalOf 17 = .ok (.iload_n 3, 1) := by decide +kernel
theorem dX11_totalOf_18 : decode cX11_totalOf 18 = .ok (.iaload, 1) := by decide +kernel
theorem dX11_totalOf_19 : decode cX11_totalOf 19 = .ok (.iadd, 1) := by decide +kernel
theorem dX11_totalOf_20 : decode cX11_totalOf 20 = .ok (.istore_n 2, 1) := by decide +kernel
theorem dX11_totalOf_21 : decode cX11_totalOf 21 = .ok (.iinc 3 1, 3) := by decide +kernel
theorem dX11_totalOf_24 : decode cX11_totalOf 24 = .ok (.goto (-20), 3) := by decide +kernel
theorem dX11_totalOf_27 : decode cX11_totalOf 27 = .ok (.iload_n 2, 1) := by decide +kernel
theorem dX11_totalOf_28 : decode cX11_totalOf 28 = .ok (.ireturn, 1) := by decide +kernel
theorem dX11_image_0 : decode cX11_image 0 = .ok (.aload_n 0, 1) := by decide +kernel
theorem dX11_image_1 : decode cX11_image 1 = .ok (.getfield 44, 3) := by decide +kernel
theorem dX11_image_4 : decode cX11_image 4 = .ok (.getfield 342, 3) := by decide +kernel
theorem dX11_image_7 : decode cX11_image 7 = .ok (.aload_n 0, 1) := by decide +kernel
theorem dX11_image_8 : decode cX11_image 8 = .ok (.getfield 19, 3) := by decide +kernel
theorem dX11_image_11 : decode cX11_image 11 = .ok (.invokevirtual 240, 3) := by decide +kernel
theorem dX11_image_14 : decode cX11_image 14 = .ok (.aload_n 0, 1) := by decide +kernel
theorem dX11_image_15 : decode cX11_image 15 = .ok (.getfield 44, 3) := by decide +kernel
theorem dX11_image_18 : decode cX11_image 18 = .ok (.getfield 343, 3) := by decide +kernel
theorem dX11_image_21 : decode cX11_image 21 = .ok (.aload_n 0, 1) := by decide +kernel
theorem dX11_image_22 : decode cX11_image 22 = .ok (.getfield 26, 3) := by decide +kernel
theorem dX11_image_25 : decode cX11_image 25 = .ok (.invokevirtual 344, 3) := by decide +kernel
theorem dX11_image_28 : decode cX11_image 28 = .ok (.aload_n 0, 1) := by decide +kernel
theorem dX11_image_29 : decode cX11_image 29 = .ok (.getfield 44, 3) := by decide +kernel
theorem dX11_image_32 : decode cX11_image 32 = .ok (.getfield 347, 3) := by decide +kernel
theorem dX11_image_35 : decode cX11_image 35 = .ok (.aload_n 0, 1) := by decide +kernel
theorem dX11_image_36 : decode cX11_image 36 = .ok (.getfield 33, 3) := by decide +kernel
theorem dX11_image_39 : decode cX11_image 39 = .ok (.invokevirtual 348, 3) := by decide +kernel
theorem dX11_image_42 : decode cX11_image 42 = .ok (.aload_n 0, 1) := by decide +kernel
theorem dX11_image_43 : decode cX11_image 43 = .ok (.getfield 37, 3) := by decide +kernel
theorem dX11_image_46 : decode cX11_image 46 = .ok (.iconst 0, 1) := by decide +kernel
theorem dX11_image_47 : decode cX11_image 47 = .ok (.aload_n 0, 1) := by decide +kernel
theorem dX11_image_48 : decode cX11_image 48 = .ok (.getfield 44, 3) := by decide +kernel
theorem dX11_image_51 : decode cX11_image 51 = .ok (.getfield 351, 3) := by decide +kernel
theorem dX11_image_54 : decode cX11_image 54 = .ok (.iconst 0, 1) := by decide +kernel
theorem dX11_image_55 : decode cX11_image 55 = .ok (.iconst 3, 1) := by decide +kernel
theorem dX11_image_56 : decode cX11_image 56 = .ok (.invokestatic 352, 3) := by decide +kernel
theorem dX11_image_59 : decode cX11_image 59 = .ok (.aload_n 0, 1) := by decide +kernel
theorem dX11_image_60 : decode cX11_image 60 = .ok (.getfield 44, 3) := by decide +kernel
theorem dX11_image_63 : decode cX11_image 63 = .ok (.iconst 1, 1) := by decide +kernel
theorem dX11_image_64 : decode cX11_image 64 = .ok (.putfield 116, 3) := by decide +kernel
theorem dX11_image_67 : decode cX11_image 67 = .ok (.return_, 1) := by decide +kernel
theorem dX11_restore_0 : decode cX11_restore 0 = .ok (.aload_n 0, 1) := by decide +kernel
theorem dX11_restore_1 : decode cX11_restore 1 = .ok (.getfield 44, 3) := by decide +kernel
theorem dX11_restore_4 : decode cX11_restore 4 = .ok (.getfield 116, 3) := by decide +kernel
theorem dX11_restore_7 : decode cX11_restore 7 = .ok (.ifCond .ne 5, 3) := by decide +kernel
theorem dX11_restore_10 : decode cX11_restore 10 = .ok (.iconst 0, 1) := by decide +kernel
theorem dX11_restore_11 : decode cX11_restore 11 = .ok (.ireturn, 1) := by decide +kernel
theorem dX11_restore_12 : decode cX11_restore 12 = .ok (.aload_n 0, 1) := by decide +kernel
theorem dX11_restore_13 : decode cX11_restore 13 = .ok (.getfield 19, 3) := by decide +kernel
theorem dX11_restore_16 : decode cX11_restore 16 = .ok (.aload_n 0, 1) := by decide +kernel
theorem dX11_restore_17 : decode cX11_restore 17 = .ok (.getfield 44, 3) := by decide +kernel
theorem dX11_restore_20 : decode cX11_restore 20 = .ok (.getfield 342, 3) := by decide +kernel
theorem dX11_restore_23 : decode cX11_restore 23 = .ok (.invokevirtual 240, 3) := by decide +kernel
theorem dX11_restore_26 : decode cX11_restore 26 = .ok (.aload_n 0, 1) := by decide +kernel
theorem dX11_restore_27 : decode cX11_restore 27 = .ok (.getfield 26, 3) := by decide +kernel
theorem dX11_restore_30 : decode cX11_restore 30 = .ok (.aload_n 0, 1) := by decide +kernel
theorem dX11_restore_31 : decode cX11_restore 31 = .ok (.getfield 44, 3) := by decide +kernel
theorem dX11_restore_34 : decode cX11_restore 34 = .ok (.getfield 343, 3) := by decide +kernel
theorem dX11_restore_37 : decode cX11_restore 37 = .ok (.invokevirtual 344, 3) := by decide +kernel
theorem dX11_restore_40 : decode cX11_restore 40 = .ok (.aload_n 0, 1) := by decide +kernel
theorem dX11_restore_41 : decode cX11_restore 41 = .ok (.getfield 33, 3) := by decide +kernel
theorem dX11_restore_44 : decode cX11_restore 44 = .ok (.aload_n 0, 1) := by decide +kernel
theorem dX11_restore_45 : decode cX11_restore 45 = .ok (.getfield 44, 3) := by decide +kernel
theorem dX11_restore_48 : decode cX11_restore 48 = .ok (.getfield 347, 3) := by decide +kernel
theorem dX11_restore_51 : decode cX11_restore 51 = .ok (.invokevirtual 348, 3) := by decide +kernel
theorem dX11_restore_54 : decode cX11_restore 54 = .ok (.aload_n 0, 1) := by decide +kernel
theorem dX11_restore_55 : decode cX11_restore 55 = .ok (.getfield 44, 3) := by decide +kernel
theorem dX11_restore_58 : decode cX11_restore 58 = .ok (.getfield 351, 3) := by decide +kernel
theorem dX11_restore_61 : decode cX11_restore 61 = .ok (.iconst 0, 1) := by decide +kernel
theorem dX11_restore_62 : decode cX11_restore 62 = .ok (.aload_n 0, 1) := by decide +kernel
theorem dX11_restore_63 : decode cX11_restore 63 = .ok (.getfield 37, 3) := by decide +kernel
theorem dX11_restore_66 : decode cX11_restore 66 = .ok (.iconst 0, 1) := by decide +kernel
theorem dX11_restore_67 : decode cX11_restore 67 = .ok (.iconst 3, 1) := by decide +kernel
theorem dX11_restore_68 : decode cX11_restore 68 = .ok (.invokestatic 352, 3) := by decide +kernel
theorem dX11_restore_71 : decode cX11_restore 71 = .ok (.iconst 1, 1) := by decide +kernel
theorem dX11_restore_72 : decode cX11_restore 72 = .ok (.ireturn, 1) := by decide +kernel
theorem dX11_mustBeThing_0 : decode cX11_mustBeThing 0 = .ok (.iload_n 0, 1) := by decide +kernel
theorem dX11_mustBeThing_1 : decode cX11_mustBeThing 1 = .ok (.ifCond .lt 9, 3) := by decide +kernel
theorem dX11_mustBeThing_4 : decode cX11_mustBeThing 4 = .ok (.iload_n 0, 1) := by decide +kernel
theorem dX11_mustBeThing_5 : decode cX11_mustBeThing 5 = .ok (.bipush 10, 2) := by decide +kernel
theorem dX11_mustBeThing_7 : decode cX11_mustBeThing 7 = .ok (.if_icmp .lt 14, 3) := by decide +kernel
theorem dX11_mustBeThing_10 : decode cX11_mustBeThing 10 = .ok (.new 154, 3) := by decide +kernel
theorem dX11_mustBeThing_13 : decode cX11_mustBeThing 13 = .ok (.dup, 1) := by decide +kernel
theorem dX11_mustBeThing_14 : decode cX11_mustBeThing 14 = .ok (.ldc_w 358, 3) := by decide +kernel
theorem dX11_mustBeThing_17 : decode cX11_mustBeThing 17 = .ok (.invokespecial 158, 3) := by decide +kernel
theorem dX11_mustBeThing_20 : decode cX11_mustBeThing 20 = .ok (.athrow, 1) := by decide +kernel
theorem dX11_mustBeThing_21 : decode cX11_mustBeThing 21 = .ok (.return_, 1) := by decide +kernel
theorem dX11_mustBeIf_0 : decode cX11_mustBeIf 0 = .ok (.iload_n 1, 1) := by decide +kernel
theorem dX11_mustBeIf_1 : decode cX11_mustBeIf 1 = .ok (.ifCond .lt 17, 3) := by decide +kernel
theorem dX11_mustBeIf_4 : decode cX11_mustBeIf 4 = .ok (.iload_n 1, 1) := by decide +kernel
theorem dX11_mustBeIf_5 : decode cX11_mustBeIf 5 = .ok (.aload_n 0, 1) := by decide +kernel
theorem dX11_mustBeIf_6 : decode cX11_mustBeIf 6 = .ok (.getfield 68, 3) := by decide +kernel
theorem dX11_mustBeIf_9 : decode cX11_mustBeIf 9 = .ok (.getfield 123, 3) := by decide +kernel
theorem dX11_mustBeIf_12 : decode cX11_mustBeIf 12 = .ok (.getfield 127, 3) := by decide +kernel
theorem dX11_mustBeIf_15 : decode cX11_mustBeIf 15 = .ok (.if_icmp .lt 14, 3) := by decide +kernel
theorem dX11_mustBeIf_18 : decode cX11_mustBeIf 18 = .ok (.new 154, 3) := by decide +kernel
theorem dX11_mustBeIf_21 : decode cX11_mustBeIf 21 = .ok (.dup, 1) := by decide +kernel
theorem dX11_mustBeIf_22 : decode cX11_mustBeIf 22 = .ok (.ldc_w 360, 3) := by decide +kernel
theorem dX11_mustBeIf_25 : decode cX11_mustBeIf 25 = .ok (.invokespecial 158, 3) := by decide +kernel
theorem dX11_mustBeIf_28 : decode cX11_mustBeIf 28 = .ok (.athrow, 1) := by decide +kernel
theorem dX11_mustBeIf_29 : decode cX11_mustBeIf 29 = .ok (.return_, 1) := by decide +kernel
theorem dX11_mustBePerson_0 : decode cX11_mustBePerson 0 = .ok (.iload_n 1, 1) := by decide +kernel
theorem dX11_mustBePerson_1 : decode cX11_mustBePerson 1 = .ok (.ifCond .lt 14, 3) := by decide +kernel
theorem dX11_mustBePerson_4 : decode cX11_mustBePerson 4 = .ok (.iload_n 1, 1) := by decide +kernel
theorem dX11_mustBePerson_5 : decode cX11_mustBePerson 5 = .ok (.aload_n 0, 1) := by decide +kernel
theorem dX11_mustBePerson_6 : decode cX11_mustBePerson 6 = .ok (.getfield 68, 3) := by decide +kernel
theorem dX11_mustBePerson_9 : decode cX11_mustBePerson 9 = .ok (.getfield 120, 3) := by decide +kernel
theorem dX11_mustBePerson_12 : decode cX11_mustBePerson 12 = .ok (.if_icmp .lt 14, 3) := by decide +kernel
theorem dX11_mustBePerson_15 : decode cX11_mustBePerson 15 = .ok (.new 154, 3) := by decide +kernel
theorem dX11_mustBePerson_18 : decode cX11_mustBePerson 18 = .ok (.dup, 1) := by decide +kernel
theorem dX11_mustBePerson_19 : decode cX11_mustBePerson 19 = .ok (.ldc_w 362, 3) := by decide +kernel
theorem dX11_mustBePerson_22 : decode cX11_mustBePerson 22 = .ok (.invokespecial 158, 3) := by decide +kernel
theorem dX11_mustBePerson_25 : decode cX11_mustBePerson 25 = .ok (.athrow, 1) := by decide +kernel
theorem dX11_mustBePerson_26 : decode cX11_mustBePerson 26 = .ok (.return_, 1) := by decide +kernel
theorem dX11_mustBeWhat_0 : decode cX11_mustBeWhat 0 = .ok (.iload_n 0, 1) := by decide +kernel
theorem dX11_mustBeWhat_1 : decode cX11_mustBeWhat 1 = .ok (.ifCond .lt 8, 3) := by decide +kernel
theorem dX11_mustBeWhat_4 : decode cX11_mustBeWhat 4 = .ok (.iload_n 0, 1) := by decide +kernel
theorem dX11_mustBeWhat_5 : decode cX11_mustBeWhat 5 = .ok (.iload_n 1, 1) := by decide +kernel
theorem dX11_mustBeWhat_6 : decode cX11_mustBeWhat 6 = .ok (.if_icmp .le 14, 3) := by decide +kernel
theorem dX11_mustBeWhat_9 : decode cX11_mustBeWhat 9 = .ok (.new 154, 3) := by decide +kernel
theorem dX11_mustBeWhat_12 : decode cX11_mustBeWhat 12 = .ok (.dup, 1) := by decide +kernel
theorem dX11_mustBeWhat_13 : decode cX11_mustBeWhat 13 = .ok (.ldc_w 364, 3) := by decide +kernel
theorem dX11_mustBeWhat_16 : decode cX11_mustBeWhat 16 = .ok (.invokespecial 158, 3) := by decide +kernel
theorem dX11_mustBeWhat_19 : decode cX11_mustBeWhat 19 = .ok (.athrow, 1) := by decide +kernel
theorem dX11_mustBeWhat_20 : decode cX11_mustBeWhat 20 = .ok (.return_, 1) := by decide +kernel
theorem dX11_mustBeWithin_0 : decode cX11_mustBeWithin 0 = .ok (.iload_n 0, 1) := by decide +kernel
theorem dX11_mustBeWithin_1 : decode cX11_mustBeWithin 1 = .ok (.iload_n 1, 1) := by decide +kernel
theorem dX11_mustBeWithin_2 : decode cX11_mustBeWithin 2 = .ok (.if_icmp .lt 8, 3) := by decide +kernel
theorem dX11_mustBeWithin_5 : decode cX11_mustBeWithin 5 = .ok (.iload_n 0, 1) := by decide +kernel
theorem dX11_mustBeWithin_6 : decode cX11_mustBeWithin 6 = .ok (.iload_n 2, 1) := by decide +kernel
theorem dX11_mustBeWithin_7 : decode cX11_mustBeWithin 7 = .ok (.if_icmp .le 14, 3) := by decide +kernel
theorem dX11_mustBeWithin_10 : decode cX11_mustBeWithin 10 = .ok (.new 310, 3) := by decide +kernel
theorem dX11_mustBeWithin_13 : decode cX11_mustBeWithin 13 = .ok (.dup, 1) := by decide +kernel
theorem dX11_mustBeWithin_14 : decode cX11_mustBeWithin 14 = .ok (.ldc_w 366, 3) := by decide +kernel
theorem dX11_mustBeWithin_17 : decode cX11_mustBeWithin 17 = .ok (.invokespecial 314, 3) := by decide +kernel
theorem dX11_mustBeWithin_20 : decode cX11_mustBeWithin 20 = .ok (.athrow, 1) := by decide +kernel
theorem dX11_mustBeWithin_21 : decode cX11_mustBeWithin 21 = .ok (.return_, 1) := by decide +kernel
theorem dX11_isIn_0 : decode cX11_isIn 0 = .ok (.iload_n 1, 1) := by decide +kernel
theorem dX11_isIn_1 : decode cX11_isIn 1 = .ok (.iload_n 0, 1) := by decide +kernel
theorem dX11_isIn_2 : decode cX11_isIn 2 = .ok (.ishr, 1) := by decide +kernel
theorem dX11_isIn_3 : decode cX11_isIn 3 = .ok (.iconst 1, 1) := by decide +kernel
theorem dX11_isIn_4 : decode cX11_isIn 4 = .ok (.iand, 1) := by decide +kernel
theorem dX11_isIn_5 : decode cX11_isIn 5 = .ok (.ifCond .eq 7, 3) := by decide +kernel
theorem dX11_isIn_8 : decode cX11_isIn 8 = .ok (.iconst 1, 1) := by decide +kernel
theorem dX11_isIn_9 : decode cX11_isIn 9 = .ok (.goto 4, 3) := by decide +kernel
theorem dX11_isIn_12 : decode cX11_isIn 12 = .ok (.iconst 0, 1) := by decide +kernel
theorem dX11_isIn_13 : decode cX11_isIn 13 = .ok (.ireturn, 1) := by decide +kernel
theorem dX12_init_0 : decode cX12_init 0 = .ok (.aload_n 0, 1) := by decide +kernel
theorem dX12_init_1 : decode cX12_init 1 = .ok (.invokespecial 3, 3) := by decide +kernel
theorem dX12_init_4 : decode cX12_init 4 = .ok (.aload_n 0, 1) := by decide +kernel
theorem dX12_init_5 : decode cX12_init 5 = .ok (.iconst 2, 1) := by decide +kernel
theorem dX12_init_6 : decode cX12_init 6 = .ok (.anewarray 9, 3) := by decide +kernel
theorem dX12_init_9 : decode cX12_init 9 = .ok (.dup, 1) := by decide +kernel
theorem dX12_init_10 : decode cX12_init 10 = .ok (.iconst 0, 1) := by decide +kernel
theorem dX12_init_11 : decode cX12_init 11 = .ok (.ldc 11, 2) := by decide +kernel
theorem dX12_init_13 : decode cX12_init 13 = .ok (.aastore, 1) := by decide +kernel
theorem dX12_init_14 : decode cX12_init 14 = .ok (.dup, 1) := by decide +kernel
theorem dX12_init_15 : decode cX12_init 15 = .ok (.iconst 1, 1) := by decide +kernel
theorem dX12_init_16 : decode cX12_init 16 = .ok (.ldc 13, 2) := by decide +kernel
theorem dX12_init_18 : decode cX12_init 18 = .ok (.aastore, 1) := by decide +kernel
theorem dX12_init_19 : decode cX12_init 19 = .ok (.putfield 15, 3) := by decide +kernel
theorem dX12_init_22 : decode cX12_init 22 = .ok (.aload_n 0, 1) := by decide +kernel
theorem dX12_init_23 : decode cX12_init 23 = .ok (.bipush 7, 2) := by decide +kernel
theorem dX12_init_25 : decode cX12_init 25 = .ok (.anewarray 9, 3) := by decide +kernel
theorem dX12_init_28 : decode cX12_init 28 = .ok (.dup, 1) := by decide +kernel
theorem dX12_init_29 : decode cX12_init 29 = .ok (.iconst 0, 1) := by decide +kernel
theorem dX12_init_30 : decode cX12_init 30 = .ok (.ldc 19, 2) := by decide +kernel
theorem dX12_init_32 : decode cX12_init 32 = .ok (.aastore, 1) := by decide +kernel
theorem dX12_init_33 : decode cX12_init 33 = .ok (.dup, 1) := by decide +kernel
theorem dX12_init_34 : decode cX12_init 34 = .ok (.iconst 1, 1) := by decide +kernel
theorem dX12_init_35 : decode cX12_init 35 = .ok (.ldc 21, 2) := by decide +kernel
theorem dX12_init_37 : decode cX12_init 37 = .ok (.aastore, 1) := by decide +kernel
theorem dX12_init_38 : decode cX12_init 38 = .ok (.dup, 1) := by decide +kernel
theorem dX12_init_39 : decode cX12_init 39 = .ok (.iconst 2, 1) := by decide +kernel
theorem dX12_init_40 : decode cX12_init 40 = .ok (.ldc 23, 2) := by decide +kernel
theorem dX12_init_42 : decode cX12_init 42 = .ok (.aastore, 1) := by decide +kernel
theorem dX12_init_43 : decode cX12_init 43 = .ok (.dup, 1) := by decide +kernel
theorem dX12_init_44 : decode cX12_init 44 = .ok (.iconst 3, 1) := by decide +kernel
theorem dX12_init_45 : decode cX12_init 45 = .ok (.ldc 25, 2) := by decide +kernel
theorem dX12_init_47 : decode cX12_init 47 = .ok (.aastore, 1) := by decide +kernel
theorem dX12_init_48 : decode cX12_init 48 = .ok (.dup, 1) := by decide +kernel
theorem dX12_init_49 : decode cX12_init 49 = .ok (.iconst 4, 1) := by decide +kernel
theorem dX12_init_50 : decode cX12_init 50 = .ok (.ldc 27, 2) := by decide +kernel
theorem dX12_init_52 : decode cX12_init 52 = .ok (.aastore, 1) := by decide +kernel
theorem dX12_init_53 : decode cX12_init 53 = .ok (.dup, 1) := by decide +kernel
theorem dX12_init_54 : decode cX12_init 54 = .ok (.iconst 5, 1) := by decide +kernel
theorem dX12_init_55 : decode cX12_init 55 = .ok (.ldc 29, 2) := by decide +kernel
theorem dX12_init_57 : decode cX12_init 57 = .ok (.aastore, 1) := by decide +kernel
theorem dX12_init_58 : decode cX12_init 58 = .ok (.dup, 1) := by decide +kernel
theorem dX12_init_59 : decode cX12_init 59 = .ok (.bipush 6, 2) := by decide +kernel
theorem dX12_init_61 : decode cX12_init 61 = .ok (.ldc 31, 2) := by decide +kernel
theorem dX12_init_63 : decode cX12_init 63 = .ok (.aastore, 1) := by decide +kernel
theorem dX12_init_64 : decode cX12_init 64 = .ok (.putfield 33, 3) := by decide +kernel
theorem dX12_init_67 : decode cX12_init 67 = .ok (.aload_n 0, 1) := by decide +kernel
theorem dX12_init_68 : decode cX12_init 68 = .ok (.bipush 8, 2) := by decide +kernel
theorem dX12_init_70 : decode cX12_init 70 = .ok (.newarray .int, 2) := by decide +kernel
theorem dX12_init_72 : decode cX12_init 72 = .ok (.putfield 36, 3) := by decide +kernel
theorem dX12_init_75 : decode cX12_init 75 = .ok (.aload_n 0, 1) := by decide +kernel
theorem dX12_init_76 : decode cX12_init 76 = .ok (.bipush 20, 2) := by decide +kernel
theorem dX12_init_78 : decode cX12_init 78 = .ok (.newarray .int, 2) := by decide +kernel
theorem dX12_init_80 : decode cX12_init 80 = .ok (.putfield 40, 3) := by decide +kernel
theorem dX12_init_83 : decode cX12_init 83 = .ok (.aload_n 0, 1) := by decide +kernel
theorem dX12_init_84 : decode cX12_init 84 = .ok (.bipush 16, 2) := by decide +kernel
theorem dX12_init_86 : decode cX12_init 86 = .ok (.newarray .int, 2) := by decide +kernel
theorem dX12_init_88 : decode cX12_init 88 = .ok (.putfield 43, 3) := by decide +kernel
theorem dX12_init_91 : decode cX12_init 91 = .ok (.aload_n 0, 1) := by decide +kernel
theorem dX12_init_92 : decode cX12_init 92 = .ok (.bipush 16, 2) := by decide +kernel
theorem dX12_init_94 : decode cX12_init 94 = .ok (.newarray .int, 2) := by decide +kernel
theorem dX12_init_96 : decode cX12_init 96 = .ok (.putfield 46, 3) := by decide +kernel
theorem dX12_init_99 : decode cX12_init 99 = .ok (.aload_n 0, 1) := by decide +kernel
theorem dX12_init_100 : decode cX12_init 100 = .ok (.bipush 16, 2) := by decide +kernel
theorem dX12_init_102 : decode cX12_init 102 = .ok (.newarray .int, 2) := by decide +kernel
theorem dX12_init_104 : decode cX12_init 104 = .ok (.putfield 49, 3) := by decide +kernel
theorem dX12_init_107 : decode cX12_init 107 = .ok (.aload_n 0, 1) := by decide +kernel
theorem dX12_init_108 : decode cX12_init 108 = .ok (.bipush 16, 2) := by decide +kernel
theorem dX12_init_110 : decode cX12_init 110 = .ok (.newarray .int, 2) := by decide +kernel
theorem dX12_init_112 : decode cX12_init 112 = .ok (.putfield 52, 3) := by decide +kernel
theorem dX12_init_115 : decode cX12_init 115 = .ok (.aload_n 0, 1) := by decide +kernel
theorem dX12_init_116 : decode cX12_init 116 = .ok (.bipush 24, 2) := by decide +kernel
theorem dX12_init_118 : decode cX12_init 118 = .ok (.newarray .int, 2) := by decide +kernel
theorem dX12_init_120 : decode cX12_init 120 = .ok (.putfield 55, 3) := by decide +kernel
theorem dX12_init_123 : decode cX12_init 123 = .ok (.aload_n 0, 1) := by decide +kernel
theorem dX12_init_124 : decode cX12_init 124 = .ok (.bipush 24, 2) := by decide +kernel
theorem dX12_init_126 : decode cX12_init 126 = .ok (.newarray .int, 2) := by decide +kernel
theorem dX12_init_128 : decode cX12_init 128 = .ok (.putfield 58, 3) := by decide +kernel
theorem dX12_init_131 : decode cX12_init 131 = .ok (.aload_n 0, 1) := by decide +kernel
theorem dX12_init_132 : decode cX12_init 132 = .ok (.bipush 24, 2) := by decide +kernel
theorem dX12_init_134 : decode cX12_init 134 = .ok (.newarray .int, 2) := by decide +kernel
theorem dX12_init_136 : decode cX12_init 136 = .ok (.putfield 61, 3) := by decide +kernel
theorem dX12_init_139 : decode cX12_init 139 = .ok (.aload_n 0, 1) := by decide +kernel
theorem dX12_init_140 : decode cX12_init 140 = .ok (.bipush 24, 2) := by decide +kernel
theorem dX12_init_142 : decode cX12_init 142 = .ok (.newarray .int, 2) := by decide +kernel
theorem dX12_init_144 : decode cX12_init 144 = .ok (.putfield 64, 3) := by decide +kernel
theorem dX12_init_147 : decode cX12_init 147 = .ok (.aload_n 0, 1) := by decide +kernel
theorem dX12_init_148 : decode cX12_init 148 = .ok (.sipush 1400, 3) := by decide +kernel
theorem dX12_init_151 : decode cX12_init 151 = .ok (.newarray .int, 2) := by decide +kernel
theorem dX12_init_153 : decode cX12_init 153 = .ok (.putfield 67, 3) := by decide +kernel
theorem dX12_init_156 : decode cX12_init 156 = .ok (.aload_n 0, 1) := by decide +kernel
theorem dX12_init_157 : decode cX12_init 157 = .ok (.iconst 3, 1) := by decide +kernel
theorem dX12_init_158 : decode cX12_init 158 = .ok (.newarray .int, 2) := by decide +kernel
theorem dX12_init_160 : decode cX12_init 160 = .ok (.putfield 70, 3) := by decide +kernel
theorem dX12_init_163 : decode cX12_init 163 = .ok (.aload_n 0, 1) := by decide +kernel
theorem dX12_init_164 : decode cX12_init 164 = .ok (.sipush 700, 3) := by decide +kernel
theorem dX12_init_167 : decode cX12_init 167 = .ok (.newarray .int, 2) := by decide +kernel
theorem dX12_init_169 : decode cX12_init 169 = .ok (.putfield 73, 3) := by decide +kernel
theorem dX12_init_172 : decode cX12_init 172 = .ok (.aload_n 0, 1) := by decide +kernel
theorem dX12_init_173 : decode cX12_init 173 = .ok (.iconst (-1), 1) := by decide +kernel
theorem dX12_init_174 : decode cX12_init 174 = .ok (.putfield 76, 3) := by decide +kernel
theorem dX12_init_177 : decode cX12_init 177 = .ok (.aload_n 0, 1) := by decide +kernel
theorem dX12_init_178 : decode cX12_init 178 = .ok (.bipush 8, 2) := by decide +kernel
theorem dX12_init_180 : decode cX12_init 180 = .ok (.newarray .int, 2) := by decide +kernel
theorem dX12_init_182 : decode cX12_init 182 = .ok (.putfield 80, 3) := by decide +kernel
theorem dX12_init_185 : decode cX12_init 185 = .ok (.aload_n 0, 1) := by decide +kernel
theorem dX12_init_186 : decode cX12_init 186 = .ok (.bipush 8, 2) := by decide +kernel
theorem dX12_init_188 : decode cX12_init 188 = .ok (.newarray .int, 2) := by decide +kernel
theorem dX12_init_190 : decode cX12_init 190 = .ok (.putfield 83, 3) := by decide +kernel
theorem dX12_init_193 : decode cX12_init 193 = .ok (.aload_n 0, 1) := by decide +kernel
theorem dX12_init_194 : decode cX12_init 194 = .ok (.bipush 8, 2) := by decide +kernel
theorem dX12_init_196 : decode cX12_init 196 = .ok (.newarray .int, 2) := by decide +kernel
theorem dX12_init_198 : decode cX12_init 198 = .ok (.putfield 86, 3) := by decide +kernel
theorem dX12_init_201 : decode cX12_init 201 = .ok (.aload_n 0, 1) := by decide +kernel
theorem dX12_init_202 : decode cX12_init 202 = .ok (.bipush 8, 2) := by decide +kernel
theorem dX12_init_204 : decode cX12_init 204 = .ok (.newarray .int, 2) := by decide +kernel
theorem dX12_init_206 : decode cX12_init 206 = .ok (.putfield 88, 3) := by decide +kernel
theorem dX12_init_209 : decode cX12_init 209 = .ok (.aload_n 0, 1) := by decide +kernel
theorem dX12_init_210 : decode cX12_init 210 = .ok (.sipush 1440, 3) := by decide +kernel
theorem dX12_init_213 : decode cX12_init 213 = .ok (.newarray .int, 2) := by decide +kernel
theorem dX12_init_215 : decode cX12_init 215 = .ok (.putfield 90, 3) := by decide +kernel
theorem dX12_init_218 : decode cX12_init 218 = .ok (.aload_n 0, 1) := by decide +kernel
theorem dX12_init_219 : decode cX12_init 219 = .ok (.bipush 7, 2) := by decide +kernel
theorem dX12_init_221 : decode cX12_init 221 = .ok (.newarray .int, 2) := by decide +kernel
theorem dX12_init_223 : decode cX12_init 223 = .ok (.putfield 93, 3) := by decide +kernel
theorem dX12_init_226 : decode cX12_init 226 = .ok (.aload_n 0, 1) := by decide +kernel
theorem dX12_init_227 : decode cX12_init 227 = .ok (.bipush 64, 2) := by decide +kernel
theorem dX12_init_229 : decode cX12_init 229 = .ok (.newarray .int, 2) := by decide +kernel
theorem dX12_init_231 : decode cX12_init 231 = .ok (.putfield 96, 3) := by decide +kernel
theorem dX12_init_234 : decode cX12_init 234 = .ok (.aload_n 0, 1) := by decide +kernel
theorem dX12_init_235 : decode cX12_init 235 = .ok (.bipush 36, 2) := by decide +kernel
theorem dX12_init_237 : decode cX12_init 237 = .ok (.newarray .int, 2) := by decide +kernel
theorem dX12_init_239 : decode cX12_init 239 = .ok (.putfield 99, 3) := by decide +kernel
theorem dX12_init_242 : decode cX12_init 242 = .ok (.aload_n 0, 1) := by decide +kernel
theorem dX12_init_243 : decode cX12_init 243 = .ok (.sipush 1024, 3) := by decide +kernel
theorem dX12_init_246 : decode cX12_init 246 = .ok (.newarray .int, 2) := by decide +kernel
theorem dX12_init_248 : decode cX12_init 248 = .ok (.putfield 102, 3) := by decide +kernel
theorem dX12_init_251 : decode cX12_init 251 = .ok (.aload_n 0, 1) := by decide +kernel
theorem dX12_init_252 : decode cX12_init 252 = .ok (.sipush 1024, 3) := by decide +kernel
theorem dX12_init_255 : decode cX12_init 255 = .ok (.newarray .int, 2) := by decide +kernel
theorem dX12_init_257 : decode cX12_init 257 = .ok (.putfield 105, 3) := by decide +kernel
theorem dX12_init_260 : decode cX12_init 260 = .ok (.aload_n 0, 1) := by decide +kernel
theorem dX12_init_261 : decode cX12_init 261 = .ok (.bipush 8, 2) := by decide +kernel
theorem dX12_init_263 : decode cX12_init 263 = .ok (.newarray .int, 2) := by decide +kernel
theorem dX12_init_265 : decode cX12_init 265 = .ok (.putfield 108, 3) := by decide +kernel
theorem dX12_init_268 : decode cX12_init 268 = .ok (.aload_n 0, 1) := by decide +kernel
theorem dX12_init_269 : decode cX12_init 269 = .ok (.bipush 8, 2) := by decide +kernel
theorem dX12_init_271 : decode cX12_init 271 = .ok (.newarray .int, 2) := by decide +kernel
theorem dX12_init_273 : decode cX12_init 273 = .ok (.putfield 111, 3) := by decide +kernel
theorem dX12_init_276 : decode cX12_init 276 = .ok (.aload_n 0, 1) := by decide +kernel
theorem dX12_init_277 : decode cX12_init 277 = .ok (.bipush 8, 2) := by decide +kernel
theorem dX12_init_279 : decode cX12_init 279 = .ok (.newarray .boolean, 2) := by decide +kernel
theorem dX12_init_281 : decode cX12_init 281 = .ok (.putfield 114, 3) := by decide +kernel
theorem dX12_init_284 : decode cX12_init 284 = .ok (.aload_n 0, 1) := by decide +kernel
theorem dX12_init_285 : decode cX12_init 285 = .ok (.bipush 36, 2) := by decide +kernel
theorem dX12_init_287 : decode cX12_init 287 = .ok (.newarray .int, 2) := by decide +kernel
theorem dX12_init_289 : decode cX12_init 289 = .ok (.putfield 118, 3) := by decide +kernel
theorem dX12_init_292 : decode cX12_init 292 = .ok (.aload_n 0, 1) := by decide +kernel
theorem dX12_init_293 : decode cX12_init 293 = .ok (.sipush 1440, 3) := by decide +kernel
theorem dX12_init_296 : decode cX12_init 296 = .ok (.newarray .int, 2) := by decide +kernel
theorem dX12_init_298 : decode cX12_init 298 = .ok (.putfield 121, 3) := by decide +kernel
theorem dX12_init_301 : decode cX12_init 301 = .ok (.aload_n 0, 1) := by decide +kernel
theorem dX12_init_302 : decode cX12_init 302 = .ok (.bipush 8, 2) := by decide +kernel
theorem dX12_init_304 : decode cX12_init 304 = .ok (.newarray .int, 2) := by decide +kernel
theorem dX12_init_306 : decode cX12_init 306 = .ok (.putfield 124, 3) := by decide +kernel
theorem dX12_init_309 : decode cX12_init 309 = .ok (.aload_n 0, 1) := by decide +kernel
theorem dX12_init_310 : decode cX12_init 310 = .ok (.bipush 8, 2) := by decide +kernel
theorem dX12_init_312 : decode cX12_init 312 = .ok (.newarray .int, 2) := by decide +kernel
theorem dX12_init_314 : decode cX12_init 314 = .ok (.putfield 127, 3) := by decide +kernel
theorem dX12_init_317 : decode cX12_init 317 = .ok (.aload_n 0, 1) := by decide +kernel
theorem dX12_init_318 : decode cX12_init 318 = .ok (.iconst 3, 1) := by decide +kernel
theorem dX12_init_319 : decode cX12_init 319 = .ok (.newarray .int, 2) := by decide +kernel
theorem dX12_init_321 : decode cX12_init 321 = .ok (.putfield 130, 3) := by decide +kernel
theorem dX12_init_324 : decode cX12_init 324 = .ok (.aload_n 0, 1) := by decide +kernel
theorem dX12_init_325 : decode cX12_init 325 = .ok (.bipush 8, 2) := by decide +kernel
theorem dX12_init_327 : decode cX12_init 327 = .ok (.newarray .boolean, 2) := by decide +kernel
theorem dX12_init_329 : decode cX12_init 329 = .ok (.putfield 133, 3) := by decide +kernel
theorem dX12_init_332 : decode cX12_init 332 = .ok (.aload_n 0, 1) := by decide +kernel
theorem dX12_init_333 : decode cX12_init 333 = .ok (.getfield 36, 3) := by decide +kernel
theorem dX12_init_336 : decode cX12_init 336 = .ok (.iconst 2, 1) := by decide +kernel
theorem dX12_init_337 : decode cX12_init 337 = .ok (.iconst 4, 1) := by decide +kernel
theorem dX12_init_338 : decode cX12_init 338 = .ok (.iastore, 1) := by decide +kernel
theorem dX12_init_339 : decode cX12_init 339 = .ok (.aload_n 0, 1) := by decide +kernel
theorem dX12_init_340 : decode cX12_init 340 = .ok (.iconst 4, 1) := by decide +kernel
theorem dX12_init_341 : decode cX12_init 341 = .ok (.putfield 136, 3) := by decide +kernel
theorem dX12_init_344 : decode cX12_init 344 = .ok (.return_, 1) := by decide +kernel
theorem dX12_thrown_0 : decode cX12_thrown 0 = .ok (.aload_n 0, 1) := by decide +kernel
theorem dX12_thrown_1 : decode cX12_thrown 1 = .ok (.getfield 139, 3) := by decide +kernel
theorem dX12_thrown_4 : decode cX12_thrown 4 = .ok (.ireturn, 1) := by decide +kernel
theorem dX12_fail_0 : decode cX12_fail 0 = .ok (.aload_n 0, 1) := by decide +kernel
theorem dX12_fail_1 : decode cX12_fail 1 = .ok (.iload_n 1, 1) := by decide +kernel
theorem dX12_fail_2 : decode cX12_fail 2 = .ok (.putfield 139, 3) := by decide +kernel
theorem dX12_fail_5 : decode cX12_fail 5 = .ok (.iconst 0, 1) := by decide +kernel
theorem dX12_fail_6 : decode cX12_fail 6 = .ok (.ireturn, 1) := by decide +kernel
theorem dX12_failing_0 : decode cX12_failing 0 = .ok (.aload_n 0, 1) := by decide +kernel
theorem dX12_failing_1 : decode cX12_failing 1 = .ok (.iload_n 1, 1) := by decide +kernel
theorem dX12_failing_2 : decode cX12_failing 2 = .ok (.putfield 139, 3) := by decide +kernel
theorem dX12_failing_5 : decode cX12_failing 5 = .ok (.iconst 0, 1) := by decide +kernel
theorem dX12_failing_6 : decode cX12_failing 6 = .ok (.ireturn, 1) := by decide +kernel
theorem dX12_isIn_0 : decode cX12_isIn 0 = .ok (.lload_n 0, 1) := by decide +kernel
theorem dX12_isIn_1 : decode cX12_isIn 1 = .ok (.lload_n 2, 1) := by decide +kernel
theorem dX12_isIn_2 : decode cX12_isIn 2 = .ok (.lcmp, 1) := by decide +kernel
theorem dX12_isIn_3 : decode cX12_isIn 3 = .ok (.ifCond .lt 14, 3) := by decide +kernel
theorem dX12_isIn_6 : decode cX12_isIn 6 = .ok (.lload_n 0, 1) := by decide +kernel
theorem dX12_isIn_7 : decode cX12_isIn 7 = .ok (.lload 4, 2) := by decide +kernel
theorem dX12_isIn_9 : decode cX12_isIn 9 = .ok (.lcmp, 1) := by decide +kernel
theorem dX12_isIn_10 : decode cX12_isIn 10 = .ok (.ifCond .gt 7, 3) := by decide +kernel
theorem dX12_isIn_13 : decode cX12_isIn 13 = .ok (.iconst 1, 1) := by decide +kernel
theorem dX12_isIn_14 : decode cX12_isIn 14 = .ok (.goto 4, 3) := by decide +kernel
theorem dX12_isIn_17 : decode cX12_isIn 17 = .ok (.iconst 0, 1) := by decide +kernel
theorem dX12_isIn_18 : decode cX12_isIn 18 = .ok (.ireturn, 1) := by decide +kernel
theorem dX12_isOf_0 : decode cX12_isOf 0 = .ok (.iload_n 0, 1) := by decide +kernel
theorem dX12_isOf_1 : decode cX12_isOf 1 = .ok (.iload_n 1, 1) := by decide +kernel
theorem dX12_isOf_2 : decode cX12_isOf 2 = .ok (.ishr, 1) := by decide +kernel
theorem dX12_isOf_3 : decode cX12_isOf 3 = .ok (.iconst 1, 1) := by decide +kernel
theorem dX12_isOf_4 : decode cX12_isOf 4 = .ok (.iand, 1) := by decide +kernel
theorem dX12_isOf_5 : decode cX12_isOf 5 = .ok (.iconst 1, 1) := by decide +kernel
theorem dX12_isOf_6 : decode cX12_isOf 6 = .ok (.if_icmp .ne 7, 3) := by decide +kernel
theorem dX12_isOf_9 : decode cX12_isOf 9 = .ok (.iconst 1, 1) := by decide +kernel
theorem dX12_isOf_10 : decode cX12_isOf 10 = .ok (.goto 4, 3) := by decide +kernel
theorem dX12_isOf_13 : decode cX12_isOf 13 = .ok (.iconst 0, 1) := by decide +kernel
theorem dX12_isOf_14 : decode cX12_isOf 14 = .ok (.ireturn, 1) := by decide +kernel
theorem dX12_bitsOf_0 : decode cX12_bitsOf 0 = .ok (.iconst 0, 1) := by decide +kernel
theorem dX12_bitsOf_1 : decode cX12_bitsOf 1 = .ok (.istore_n 1, 1) := by decide +kernel
theorem dX12_bitsOf_2 : decode cX12_bitsOf 2 = .ok (.iload_n 0, 1) := by decide +kernel
theorem dX12_bitsOf_3 : decode cX12_bitsOf 3 = .ok (.istore_n 2, 1) := by decide +kernel
theorem dX12_bitsOf_4 : decode cX12_bitsOf 4 = .ok (.iload_n 2, 1) := by decide +kernel
theorem dX12_bitsOf_5 : decode cX12_bitsOf 5 = .ok (.ifCond .eq 15, 3) := by decide +kernel
theorem dX12_bitsOf_8 : decode cX12_bitsOf 8 = .ok (.iinc 1 1, 3) := by decide +kernel
theorem dX12_bitsOf_11 : decode cX12_bitsOf 11 = .ok (.iload_n 2, 1) := by decide +kernel
theorem dX12_bitsOf_12 : decode cX12_bitsOf 12 = .ok (.iload_n 2, 1) := by decide +kernel
theorem dX12_bitsOf_13 : decode cX12_bitsOf 13 = .ok (.iconst 1, 1) := by decide +kernel
theorem dX12_bitsOf_14 : decode cX12_bitsOf 14 = .ok (.isub, 1) := by decide +kernel
theorem dX12_bitsOf_15 : decode cX12_bitsOf 15 = .ok (.iand, 1) := by decide +kernel
theorem dX12_bitsOf_16 : decode cX12_bitsOf 16 = .ok (.istore_n 2, 1) := by decide +kernel
theorem dX12_bitsOf_17 : decode cX12_bitsOf 17 = .ok (.goto (-13), 3) := by decide +kernel
theorem dX12_bitsOf_20 : decode cX12_bitsOf 20 = .ok (.iload_n 1, 1) := by decide +kernel
theorem dX12_bitsOf_21 : decode cX12_bitsOf 21 = .ok (.ireturn, 1) := by decide +kernel
theorem dX12_isPerson_0 : decode cX12_isPerson 0 = .ok (.iload_n 1, 1) := by decide +kernel
theorem dX12_isPerson_1 : decode cX12_isPerson 1 = .ok (.i2l, 1) := by decide +kernel
theorem dX12_isPerson_2 : decode cX12_isPerson 2 = .ok (.lconst 0, 1) := by decide +kernel
theorem dX12_isPerson_3 : decode cX12_isPerson 3 = .ok (.aload_n 0, 1) := by decide +kernel
theorem dX12_isPerson_4 : decode cX12_isPerson 4 = .ok (.getfield 36, 3) := by decide +kernel
theorem dX12_isPerson_7 : decode cX12_isPerson 7 = .ok (.iconst 0, 1) := by decide +kernel
theorem dX12_isPerson_8 : decode cX12_isPerson 8 = .ok (.iaload, 1) := by decide +kernel
theorem dX12_isPerson_9 : decode cX12_isPerson 9 = .ok (.iconst 1, 1) := by decide +kernel
theorem dX12_isPerson_10 : decode cX12_isPerson 10 = .ok (.isub, 1) := by decide +kernel
theorem dX12_isPerson_11 : decode cX12_isPerson 11 = .ok (.i2l, 1) := by decide +kernel
theorem dX12_isPerson_12 : decode cX12_isPerson 12 = .ok (.invokestatic 142, 3) := by decide +kernel
theorem dX12_isPerson_15 : decode cX12_isPerson 15 = .ok (.ireturn, 1) := by decide +kernel
theorem dX12_isIf_0 : decode cX12_isIf 0 = .ok (.iload_n 1, 1) := by decide +kernel
theorem dX12_isIf_1 : decode cX12_isIf 1 = .ok (.i2l, 1) := by decide +kernel
theorem dX12_isIf_2 : decode cX12_isIf 2 = .ok (.lconst 0, 1) := by decide +kernel
theorem dX12_isIf_3 : decode cX12_isIf 3 = .ok (.aload_n 0, 1) := by decide +kernel
theorem dX12_isIf_4 : decode cX12_isIf 4 = .ok (.getfield 36, 3) := by decide +kernel
theorem dX12_isIf_7 : decode cX12_isIf 7 = .ok (.iconst 1, 1) := by decide +kernel
theorem dX12_isIf_8 : decode cX12_isIf 8 = .ok (.iaload, 1) := by decide +kernel
theorem dX12_isIf_9 : decode cX12_isIf 9 = .ok (.iconst 1, 1) := by decide +kernel
theorem dX12_isIf_10 : decode cX12_isIf 10 = .ok (.isub, 1) := by decide +kernel
theorem dX12_isIf_11 : decode cX12_isIf 11 = .ok (.i2l, 1) := by decide +kernel
theorem dX12_isIf_12 : decode cX12_isIf 12 = .ok (.invokestatic 142, 3) := by decide +kernel
theorem dX12_isIf_15 : decode cX12_isIf 15 = .ok (.ireturn, 1) := by decide +kernel
theorem dX12_isThing_0 : decode cX12_isThing 0 = .ok (.iload_n 0, 1) := by decide +kernel
theorem dX12_isThing_1 : decode cX12_isThing 1 = .ok (.i2l, 1) := by decide +kernel
theorem dX12_isThing_2 : decode cX12_isThing 2 = .ok (.lconst 0, 1) := by decide +kernel
theorem dX12_isThing_3 : decode cX12_isThing 3 = .ok (.ldc2_w 146, 3) := by decide +kernel
theorem dX12_isThing_6 : decode cX12_isThing 6 = .ok (.invokestatic 142, 3) := by decide +kernel
theorem dX12_isThing_9 : decode cX12_isThing 9 = .ok (.ireturn, 1) := by decide +kernel
theorem dX12_isSet_0 : decode cX12_isSet 0 = .ok (.iload_n 0, 1) := by decide +kernel
theorem dX12_isSet_1 : decode cX12_isSet 1 = .ok (.i2l, 1) := by decide +kernel
theorem dX12_isSet_2 : decode cX12_isSet 2 = .ok (.lconst 0, 1) := by decide +kernel
theorem dX12_isSet_3 : decode cX12_isSet 3 = .ok (.ldc2_w 148, 3) := by decide +kernel
theorem dX12_isSet_6 : decode cX12_isSet 6 = .ok (.invokestatic 142, 3) := by decide +kernel
theorem dX12_isSet_9 : decode cX12_isSet 9 = .ok (.ireturn, 1) := by decide +kernel
theorem dX12_feed_0 : decode cX12_feed 0 = .ok (.aload_n 0, 1) := by decide +kernel
theorem dX12_feed_1 : decode cX12_feed 1 = .ok (.iconst 0, 1) := by decide +kernel
theorem dX12_feed_2 : decode cX12_feed 2 = .ok (.putfield 139, 3) := by decide +kernel
theorem dX12_feed_5 : decode cX12_feed 5 = .ok (.aload_n 0, 1) := by decide +kernel
theorem dX12_feed_6 : decode cX12_feed 6 = .ok (.getfield 150, 3) := by decide +kernel
theorem dX12_feed_9 : decode cX12_feed 9 = .ok (.bipush 20, 2) := by decide +kernel
theorem dX12_feed_11 : decode cX12_feed 11 = .ok (.iadd, 1) := by decide +kernel
theorem dX12_feed_12 : decode cX12_feed 12 = .ok (.sipush 700, 3) := by decide +kernel
theorem dX12_feed_15 : decode cX12_feed 15 = .ok (.if_icmp .le 5, 3) := by decide +kernel
theorem dX12_feed_18 : decode cX12_feed 18 = .ok (.iconst (-1), 1) := by decide +kernel
theorem dX12_feed_19 : decode cX12_feed 19 = .ok (.ireturn, 1) := by decide +kernel
theorem dX12_feed_20 : decode cX12_feed 20 = .ok (.iconst 0, 1) := by decide +kernel
theorem dX12_feed_21 : decode cX12_feed 21 = .ok (.istore 6, 2) := by decide +kernel
theorem dX12_feed_23 : decode cX12_feed 23 = .ok (.iload 6, 2) := by decide +kernel
theorem dX12_feed_25 : decode cX12_feed 25 = .ok (.bipush 20, 2) := by decide +kernel
theorem dX12_feed_27 : decode cX12_feed 27 = .ok (.if_icmp .ge 93, 3) := by decide +kernel
theorem dX12_feed_30 : decode cX12_feed 30 = .ok (.iload 6, 2) := by decide +kernel
theorem dX12_feed_32 : decode cX12_feed 32 = .ok (.iconst 4, 1) := by decide +kernel
theorem dX12_feed_33 : decode cX12_feed 33 = .ok (.if_icmp .ge 7, 3) := by decide +kernel
theorem dX12_feed_36 : decode cX12_feed 36 = .ok (.iload_n 1, 1) := by decide +kernel
theorem dX12_feed_37 : decode cX12_feed 37 = .ok (.goto 39, 3) := by decide +kernel
theorem dX12_feed_40 : decode cX12_feed 40 = .ok (.iload 6, 2) := by decide +kernel
theorem dX12_feed_42 : decode cX12_feed 42 = .ok (.bipush 8, 2) := by decide +kernel
theorem dX12_feed_44 : decode cX12_feed 44 = .ok (.if_icmp .ge 7, 3) := by decide +kernel
theorem dX12_feed_47 : decode cX12_feed 47 = .ok (.iload_n 2, 1) := by decide +kernel
theorem dX12_feed_48 : decode cX12_feed 48 = .ok (.goto 28, 3) := by decide +kernel
theorem dX12_feed_51 : decode cX12_feed 51 = .ok (.iload 6, 2) := by decide +kernel
theorem dX12_feed_53 : decode cX12_feed 53 = .ok (.bipush 12, 2) := by decide +kernel
theorem dX12_feed_55 : decode cX12_feed 55 = .ok (.if_icmp .ge 7, 3) := by decide +kernel
theorem dX12_feed_58 : decode cX12_feed 58 = .ok (.iload_n 3, 1) := by decide +kernel
theorem dX12_feed_59 : decode cX12_feed 59 = .ok (.goto 17, 3) := by decide +kernel
theorem dX12_feed_62 : decode cX12_feed 62 = .ok (.iload 6, 2) := by decide +kernel
theorem dX12_feed_64 : decode cX12_feed 64 = .ok (.bipush 16, 2) := by decide +kernel
theorem dX12_feed_66 : decode cX12_feed 66 = .ok (.if_icmp .ge 8, 3) := by decide +kernel
theorem dX12_feed_69 : decode cX12_feed 69 = .ok (.iload 4, 2) := by decide +kernel
theorem dX12_feed_71 : decode cX12_feed 71 = .ok (.goto 5, 3) := by decide +kernel
theorem dX12_feed_74 : decode cX12_feed 74 = .ok (.iload 5, 2) := by decide +kernel
theorem dX12_feed_76 : decode cX12_feed 76 = .ok (.istore 7, 2) := by decide +kernel
theorem dX12_feed_78 : decode cX12_feed 78 = .ok (.aload_n 0, 1) := by decide +kernel
theorem dX12_feed_79 : decode cX12_feed 79 = .ok (.getfield 73, 3) := by decide +kernel
theorem dX12_feed_82 : decode cX12_feed 82 = .ok (.aload_n 0, 1) := by decide +kernel
theorem dX12_feed_83 : decode cX12_feed 83 = .ok (.getfield 150, 3) := by decide +kernel
theorem dX12_feed_86 : decode cX12_feed 86 = .ok (.iload 7, 2) := by decide +kernel
theorem dX12_feed_88 : decode cX12_feed 88 = .ok (.bipush 24, 2) := by decide +kernel
theorem dX12_feed_90 : decode cX12_feed 90 = .ok (.bipush 8, 2) := by decide +kernel
theorem dX12_feed_92 : decode cX12_feed 92 = .ok (.iload 6, 2) := by decide +kernel
theorem dX12_feed_94 : decode cX12_feed 94 = .ok (.iconst 4, 1) := by decide +kernel
theorem dX12_feed_95 : decode cX12_feed 95 = .ok (.irem, 1) := by decide +kernel
theorem dX12_feed_96 : decode cX12_feed 96 = .ok (.imul, 1) := by decide +kernel
theorem dX12_feed_97 : decode cX12_feed 97 = .ok (.isub, 1) := by decide +kernel
theorem dX12_feed_98 : decode cX12_feed 98 = .ok (.ishr, 1) := by decide +kernel
theorem dX12_feed_99 : decode cX12_feed 99 = .ok (.sipush 255, 3) := by decide +kernel
theorem dX12_feed_102 : decode cX12_feed 102 = .ok (.iand, 1) := by decide +kernel
theorem dX12_feed_103 : decode cX12_feed 103 = .ok (.iastore, 1) := by decide +kernel
theorem dX12_feed_104 : decode cX12_feed 104 = .ok (.aload_n 0, 1) := by decide +kernel
theorem dX12_feed_105 : decode cX12_feed 105 = .ok (.dup, 1) := by decide +kernel
theorem dX12_feed_106 : decode cX12_feed 106 = .ok (.getfield 150, 3) := by decide +kernel
theorem dX12_feed_109 : decode cX12_feed 109 = .ok (.iconst 1, 1) := by decide +kernel
theorem dX12_feed_110 : decode cX12_feed 110 = .ok (.iadd, 1) := by decide +kernel
theorem dX12_feed_111 : decode cX12_feed 111 = .ok (.putfield 150, 3) := by decide +kernel
theorem dX12_feed_114 : decode cX12_feed 114 = .ok (.iinc 6 1, 3) := by decide +kernel
theorem dX12_feed_117 : decode cX12_feed 117 = .ok (.goto (-94), 3) := by decide +kernel
theorem dX12_feed_120 : decode cX12_feed 120 = .ok (.aload_n 0, 1) := by decide +kernel
theorem dX12_feed_121 : decode cX12_feed 121 = .ok (.getfield 150, 3) := by decide +kernel
theorem dX12_feed_124 : decode cX12_feed 124 = .ok (.ireturn, 1) := by decide +kernel
theorem dX12_byteAt_0 : decode cX12_byteAt 0 = .ok (.iload_n 1, 1) := by decide +kernel
theorem dX12_byteAt_1 : decode cX12_byteAt 1 = .ok (.aload_n 0, 1) := by decide +kernel
theorem dX12_byteAt_2 : decode cX12_byteAt 2 = .ok (.getfield 153, 3) := by decide +kernel
theorem dX12_byteAt_5 : decode cX12_byteAt 5 = .ok (.if_icmp .ge 12, 3) := by decide +kernel
theorem dX12_byteAt_8 : decode cX12_byteAt 8 = .ok (.aload_n 0, 1) := by decide +kernel
theorem dX12_byteAt_9 : decode cX12_byteAt 9 = .ok (.getfield 73, 3) := by decide +kernel
theorem dX12_byteAt_12 : decode cX12_byteAt 12 = .ok (.iload_n 1, 1) := by decide +kernel
theorem dX12_byteAt_13 : decode cX12_byteAt 13 = .ok (.iaload, 1) := by decide +kernel
theorem dX12_byteAt_14 : decode cX12_byteAt 14 = .ok (.goto 4, 3) := by decide +kernel
theorem dX12_byteAt_17 : decode cX12_byteAt 17 = .ok (.iconst (-1), 1) := by decide +kernel
theorem dX12_byteAt_18 : decode cX12_byteAt 18 = .ok (.ireturn, 1) := by decide +kernel
theorem dX12_isLetter_0 : decode cX12_isLetter 0 = .ok (.iload_n 0, 1) := by decide +kernel
theorem dX12_isLetter_1 : decode cX12_isLetter 1 = .ok (.bipush 97, 2) := by decide +kernel
theorem dX12_isLetter_3 : decode cX12_isLetter 3 = .ok (.if_icmp .lt 13, 3) := by decide +kernel
theorem dX12_isLetter_6 : decode cX12_isLetter 6 = .ok (.iload_n 0, 1) := by decide +kernel
theorem dX12_isLetter_7 : decode cX12_isLetter 7 = .ok (.bipush 122, 2) := by decide +kernel
theorem dX12_isLetter_9 : decode cX12_isLetter 9 = .ok (.if_icmp .gt 7, 3) := by decide +kernel
theorem dX12_isLetter_12 : decode cX12_isLetter 12 = .ok (.iconst 1, 1) := by decide +kernel
theorem dX12_isLetter_13 : decode cX12_isLetter 13 = .ok (.goto 4, 3) := by decide +kernel
theorem dX12_isLetter_16 : decode cX12_isLetter 16 = .ok (.iconst 0, 1) := by decide +kernel
theorem dX12_isLetter_17 : decode cX12_isLetter 17 = .ok (.ireturn, 1) := by decide +kernel
theorem dX12_isDigit_0 : decode cX12_isDigit 0 = .ok (.iload_n 0, 1) := by decide +kernel
theorem dX12_isDigit_1 : decode cX12_isDigit 1 = .ok (.bipush 48, 2) := by decide +kernel
theorem dX12_isDigit_3 : decode cX12_isDigit 3 = .ok (.if_icmp .lt 13, 3) := by decide +kernel
theorem dX12_isDigit_6 : decode cX12_isDigit 6 = .ok (.iload_n 0, 1) := by decide +kernel
theorem dX12_isDigit_7 : decode cX12_isDigit 7 = .ok (.bipush 57, 2) := by decide +kernel
theorem dX12_isDigit_9 : decode cX12_isDigit 9 = .ok (.if_icmp .gt 7, 3) := by decide +kernel
theorem dX12_isDigit_12 : decode cX12_isDigit 12 = .ok (.iconst 1, 1) := by decide +kernel
theorem dX12_isDigit_13 : decode cX12_isDigit 13 = .ok (.goto 4, 3) := by decide +kernel
theorem dX12_isDigit_16 : decode cX12_isDigit 16 = .ok (.iconst 0, 1) := by decide +kernel
theorem dX12_isDigit_17 : decode cX12_isDigit 17 = .ok (.ireturn, 1) := by decide +kernel
theorem dX12_isMark_0 : decode cX12_isMark 0 = .ok (.iload_n 0, 1) := by decide +kernel
theorem dX12_isMark_1 : decode cX12_isMark 1 = .ok (.bipush 59, 2) := by decide +kernel
theorem dX12_isMark_3 : decode cX12_isMark 3 = .ok (.if_icmp .eq 51, 3) := by decide +kernel
theorem dX12_isMark_6 : decode cX12_isMark 6 = .ok (.iload_n 0, 1) := by decide +kernel
theorem dX12_isMark_7 : decode cX12_isMark 7 = .ok (.bipush 40, 2) := by decide +kernel
theorem dX12_isMark_9 : decode cX12_isMark 9 = .ok (.if_icmp .eq 45, 3) := by decide +kernel
theorem dX12_isMark_12 : decode cX12_isMark 12 = .ok (.iload_n 0, 1) := by decide +kernel
theorem dX12_isMark_13 : decode cX12_isMark 13 = .ok (.bipush 41, 2) := by decide +kernel
theorem dX12_isMark_15 : decode cX12_isMark 15 = .ok (.if_icmp .eq 39, 3) := by decide +kernel
theorem dX12_isMark_18 : decode cX12_isMark 18 = .ok (.iload_n 0, 1) := by decide +kernel
theorem dX12_isMark_19 : decode cX12_isMark 19 = .ok (.bipush 43, 2) := by decide +kernel
theorem dX12_isMark_21 : decode cX12_isMark 21 = .ok (.if_icmp .eq 33, 3) := by decide +kernel
theorem dX12_isMark_24 : decode cX12_isMark 24 = .ok (.iload_n 0, 1) := by decide +kernel
theorem dX12_isMark_25 : decode cX12_isMark 25 = .ok (.bipush 45, 2) := by decide +kernel
theorem dX12_isMark_27 : decode cX12_isMark 27 = .ok (.if_icmp .eq 27, 3) := by decide +kernel
theorem dX12_isMark_30 : decode cX12_isMark 30 = .ok (.iload_n 0, 1) := by decide +kernel
theorem dX12_isMark_31 : decode cX12_isMark 31 = .ok (.bipush 42, 2) := by decide +kernel
theorem dX12_isMark_33 : decode cX12_isMark 33 = .ok (.if_icmp .eq 21, 3) := by decide +kernel
theorem dX12_isMark_36 : decode cX12_isMark 36 = .ok (.iload_n 0, 1) := by decide +kernel
theorem dX12_isMark_37 : decode cX12_isMark 37 = .ok (.bipush 47, 2) := by decide +kernel
theorem dX12_isMark_39 : decode cX12_isMark 39 = .ok (.if_icmp .eq 15, 3) := by decide +kernel
theorem dX12_isMark_42 : decode cX12_isMark 42 = .ok (.iload_n 0, 1) := by decide +kernel
theorem dX12_isMark_43 : decode cX12_isMark 43 = .ok (.bipush 60, 2) := by decide +kernel
theorem dX12_isMark_45 : decode cX12_isMark 45 = .ok (.if_icmp .eq 9, 3) := by decide +kernel
theorem dX12_isMark_48 : decode cX12_isMark 48 = .ok (.iload_n 0, 1) := by decide +kernel
theorem dX12_isMark_49 : decode cX12_isMark 49 = .ok (.bipush 61, 2) := by decide +kernel
theorem dX12_isMark_51 : decode cX12_isMark 51 = .ok (.if_icmp .ne 7, 3) := by decide +kernel
theorem dX12_isMark_54 : decode cX12_isMark 54 = .ok (.iconst 1, 1) := by decide +kernel
theorem dX12_isMark_55 : decode cX12_isMark 55 = .ok (.goto 4, 3) := by decide +kernel
theorem dX12_isMark_58 : decode cX12_isMark 58 = .ok (.iconst 0, 1) := by decide +kernel
theorem dX12_isMark_59 : decode cX12_isMark 59 = .ok (.ireturn, 1) := by decide +kernel
theorem dX12_stepOn_0 : decode cX12_stepOn 0 = .ok (.aload_n 0, 1) := by decide +kernel
theorem dX12_stepOn_1 : decode cX12_stepOn 1 = .ok (.aload_n 0, 1) := by decide +kernel
theorem dX12_stepOn_2 : decode cX12_stepOn 2 = .ok (.getfield 156, 3) := by decide +kernel
theorem dX12_stepOn_5 : decode cX12_stepOn 5 = .ok (.invokevirtual 159, 3) := by decide +kernel
theorem dX12_stepOn_8 : decode cX12_stepOn 8 = .ok (.bipush 32, 2) := by decide +kernel
theorem dX12_stepOn_10 : decode cX12_stepOn 10 = .ok (.if_icmp .eq 16, 3) := by decide +kernel
theorem dX12_stepOn_13 : decode cX12_stepOn 13 = .ok (.aload_n 0, 1) := by decide +kernel
theorem dX12_stepOn_14 : decode cX12_stepOn 14 = .ok (.aload_n 0, 1) := by decide +kernel
theorem dX12_stepOn_15 : decode cX12_stepOn 15 = .ok (.getfield 156, 3) := by decide +kernel
theorem dX12_stepOn_18 : decode cX12_stepOn 18 = .ok (.invokevirtual 159, 3) := by decide +kernel
theorem dX12_stepOn_21 : decode cX12_stepOn 21 = .ok (.bipush 10, 2) := by decide +kernel
theorem dX12_stepOn_23 : decode cX12_stepOn 23 = .ok (.if_icmp .ne 16, 3) := by decide +kernel
theorem dX12_stepOn_26 : decode cX12_stepOn 26 = .ok (.aload_n 0, 1) := by decide +kernel
theorem dX12_stepOn_27 : decode cX12_stepOn 27 = .ok (.dup, 1) := by decide +kernel
theorem dX12_stepOn_28 : decode cX12_stepOn 28 = .ok (.getfield 156, 3) := by decide +kernel
theorem dX12_stepOn_31 : decode cX12_stepOn 31 = .ok (.iconst 1, 1) := by decide +kernel
theorem dX12_stepOn_32 : decode cX12_stepOn 32 = .ok (.iadd, 1) := by decide +kernel
theorem dX12_stepOn_33 : decode cX12_stepOn 33 = .ok (.putfield 156, 3) := by decide +kernel
theorem dX12_stepOn_36 : decode cX12_stepOn 36 = .ok (.goto (-36), 3) := by decide +kernel
theorem dX12_stepOn_39 : decode cX12_stepOn 39 = .ok (.aload_n 0, 1) := by decide +kernel
theorem dX12_stepOn_40 : decode cX12_stepOn 40 = .ok (.aload_n 0, 1) := by decide +kernel
theorem dX12_stepOn_41 : decode cX12_stepOn 41 = .ok (.getfield 156, 3) := by decide +kernel
theorem dX12_stepOn_44 : decode cX12_stepOn 44 = .ok (.putfield 163, 3) := by decide +kernel
theorem dX12_stepOn_47 : decode cX12_stepOn 47 = .ok (.aload_n 0, 1) := by decide +kernel
theorem dX12_stepOn_48 : decode cX12_stepOn 48 = .ok (.aload_n 0, 1) := by decide +kernel
theorem dX12_stepOn_49 : decode cX12_stepOn 49 = .ok (.getfield 156, 3) := by decide +kernel
theorem dX12_stepOn_52 : decode cX12_stepOn 52 = .ok (.invokevirtual 159, 3) := by decide +kernel
theorem dX12_stepOn_55 : decode cX12_stepOn 55 = .ok (.istore_n 1, 1) := by decide +kernel
theorem dX12_stepOn_56 : decode cX12_stepOn 56 = .ok (.iload_n 1, 1) := by decide +kernel
theorem dX12_stepOn_57 : decode cX12_stepOn 57 = .ok (.iconst (-1), 1) := by decide +kernel
theorem dX12_stepOn_58 : decode cX12_stepOn 58 = .ok (.if_icmp .ne 11, 3) := by decide +kernel
theorem dX12_stepOn_61 : decode cX12_stepOn 61 = .ok (.aload_n 0, 1) := by decide +kernel
theorem dX12_stepOn_62 : decode cX12_stepOn 62 = .ok (.iconst 0, 1) := by decide +kernel
theorem dX12_stepOn_63 : decode cX12_stepOn 63 = .ok (.putfield 166, 3) := by decide +kernel
theorem dX12_stepOn_66 : decode cX12_stepOn 66 = .ok (.goto 146, 3) := by decide +kernel
theorem dX12_stepOn_69 : decode cX12_stepOn 69 = .ok (.iload_n 1, 1) := by decide +kernel
theorem dX12_stepOn_70 : decode cX12_stepOn 70 = .ok (.invokestatic 169, 3) := by decide +kernel
theorem dX12_stepOn_73 : decode cX12_stepOn 73 = .ok (.ifCond .eq 38, 3) := by decide +kernel
theorem dX12_stepOn_76 : decode cX12_stepOn 76 = .ok (.aload_n 0, 1) := by decide +kernel
theorem dX12_stepOn_77 : decode cX12_stepOn 77 = .ok (.aload_n 0, 1) := by decide +kernel
theorem dX12_stepOn_78 : decode cX12_stepOn 78 = .ok (.getfield 156, 3) := by decide +kernel
theorem dX12_stepOn_81 : decode cX12_stepOn 81 = .ok (.invokevirtual 159, 3) := by decide +kernel
theorem dX12_stepOn_84 : decode cX12_stepOn 84 = .ok (.invokestatic 169, 3) := by decide +kernel
theorem dX12_stepOn_87 : decode cX12_stepOn 87 = .ok (.ifCond .eq 16, 3) := by decide +kernel
theorem dX12_stepOn_90 : decode cX12_stepOn 90 = .ok (.aload_n 0, 1) := by decide +kernel
theorem dX12_stepOn_91 : decode cX12_stepOn 91 = .ok (.dup, 1) := by decide +kernel
theorem dX12_stepOn_92 : decode cX12_stepOn 92 = .ok (.getfield 156, 3) := by decide +kernel
theorem dX12_stepOn_95 : decode cX12_stepOn 95 = .ok (.iconst 1, 1) := by decide +kernel
theorem dX12_stepOn_96 : decode cX12_stepOn 96 = .ok (.iadd, 1) := by decide +kernel
theorem dX12_stepOn_97 : decode cX12_stepOn 97 = .ok (.putfield 156, 3) := by decide +kernel
theorem dX12_stepOn_100 : decode cX12_stepOn 100 = .ok (.goto (-24), 3) := by decide +kernel
theorem dX12_stepOn_103 : decode cX12_stepOn 103 = .ok (.aload_n 0, 1) := by decide +kernel
theorem dX12_stepOn_104 : decode cX12_stepOn 104 = .ok (.iconst 1, 1) := by decide +kernel
theorem dX12_stepOn_105 : decode cX12_stepOn 105 = .ok (.putfield 166, 3) := by decide +kernel
theorem dX12_stepOn_108 : decode cX12_stepOn 108 = .ok (.goto 104, 3) := by decide +kernel
theorem dX12_stepOn_111 : decode cX12_stepOn 111 = .ok (.iload_n 1, 1) := by decide +kernel
theorem dX12_stepOn_112 : decode cX12_stepOn 112 = .ok (.invokestatic 173, 3) := by decide +kernel
theorem dX12_stepOn_115 : decode cX12_stepOn 115 = .ok (.ifCond .eq 71, 3) := by decide +kernel
theorem dX12_stepOn_118 : decode cX12_stepOn 118 = .ok (.aload_n 0, 1) := by decide +kernel
theorem dX12_stepOn_119 : decode cX12_stepOn 119 = .ok (.iconst 0, 1) := by decide +kernel
theorem dX12_stepOn_120 : decode cX12_stepOn 120 = .ok (.putfield 176, 3) := by decide +kernel
theorem dX12_stepOn_123 : decode cX12_stepOn 123 = .ok (.aload_n 0, 1) := by decide +kernel
theorem dX12_stepOn_124 : decode cX12_stepOn 124 = .ok (.aload_n 0, 1) := by decide +kernel
theorem dX12_stepOn_125 : decode cX12_stepOn 125 = .ok (.getfield 156, 3) := by decide +kernel
theorem dX12_stepOn_128 : decode cX12_stepOn 128 = .ok (.invokevirtual 159, 3) := by decide +kernel
theorem dX12_stepOn_131 : decode cX12_stepOn 131 = .ok (.invokestatic 173, 3) := by decide +kernel
theorem dX12_stepOn_134 : decode cX12_stepOn 134 = .ok (.ifCond .eq 44, 3) := by decide +kernel
theorem dX12_stepOn_137 : decode cX12_stepOn 137 = .ok (.aload_n 0, 1) := by decide +kernel
theorem dX12_stepOn_138 : decode cX12_stepOn 138 = .ok (.ldc 179, 2) := by decide +kernel
theorem dX12_stepOn_140 : decode cX12_stepOn 140 = .ok (.bipush 10, 2) := by decide +kernel
theorem dX12_stepOn_142 : decode cX12_stepOn 142 = .ok (.aload_n 0, 1) := by decide +kernel
theorem dX12_stepOn_143 : decode cX12_stepOn 143 = .ok (.getfield 176, 3) := by decide +kernel
theorem dX12_stepOn_146 : decode cX12_stepOn 146 = .ok (.imul, 1) := by decide +kernel
theorem dX12_stepOn_147 : decode cX12_stepOn 147 = .ok (.aload_n 0, 1) := by decide +kernel
theorem dX12_stepOn_148 : decode cX12_stepOn 148 = .ok (.aload_n 0, 1) := by decide +kernel
theorem dX12_stepOn_149 : decode cX12_stepOn 149 = .ok (.getfield 156, 3) := by decide +kernel
theorem dX12_stepOn_152 : decode cX12_stepOn 152 = .ok (.invokevirtual 159, 3) := by decide +kernel
theorem dX12_stepOn_155 : decode cX12_stepOn 155 = .ok (.iadd, 1) := by decide +kernel
theorem dX12_stepOn_156 : decode cX12_stepOn 156 = .ok (.bipush 48, 2) := by decide +kernel
theorem dX12_stepOn_158 : decode cX12_stepOn 158 = .ok (.isub, 1) := by decide +kernel
theorem dX12_stepOn_159 : decode cX12_stepOn 159 = .ok (.invokestatic 180, 3) := by decide +kernel
theorem dX12_stepOn_162 : decode cX12_stepOn 162 = .ok (.putfield 176, 3) := by decide +kernel
theorem dX12_stepOn_165 : decode cX12_stepOn 165 = .ok (.aload_n 0, 1) := by decide +kernel
theorem dX12_stepOn_166 : decode cX12_stepOn 166 = .ok (.dup, 1) := by decide +kernel
theorem dX12_stepOn_167 : decode cX12_stepOn 167 = .ok (.getfield 156, 3) := by decide +kernel
theorem dX12_stepOn_170 : decode cX12_stepOn 170 = .ok (.iconst 1, 1) := by decide +kernel
theorem dX12_stepOn_171 : decode cX12_stepOn 171 = .ok (.iadd, 1) := by decide +kernel
theorem dX12_stepOn_172 : decode cX12_stepOn 172 = .ok (.putfield 156, 3) := by decide +kernel
theorem dX12_stepOn_175 : decode cX12_stepOn 175 = .ok (.goto (-52), 3) := by decide +kernel
theorem dX12_stepOn_178 : decode cX12_stepOn 178 = .ok (.aload_n 0, 1) := by decide +kernel
theorem dX12_stepOn_179 : decode cX12_stepOn 179 = .ok (.iconst 2, 1) := by decide +kernel
theorem dX12_stepOn_180 : decode cX12_stepOn 180 = .ok (.putfield 166, 3) := by decide +kernel
theorem dX12_stepOn_183 : decode cX12_stepOn 183 = .ok (.goto 29, 3) := by decide +kernel
theorem dX12_stepOn_186 : decode cX12_stepOn 186 = .ok (.aload_n 0, 1) := by decide +kernel
theorem dX12_stepOn_187 : decode cX12_stepOn 187 = .ok (.dup, 1) := by decide +kernel
theorem dX12_stepOn_188 : decode cX12_stepOn 188 = .ok (.getfield 156, 3) := by decide +kernel
theorem dX12_stepOn_191 : decode cX12_stepOn 191 = .ok (.iconst 1, 1) := by decide +kernel
theorem dX12_stepOn_192 : decode cX12_stepOn 192 = .ok (.iadd, 1) := by decide +kernel
theorem dX12_stepOn_193 : decode cX12_stepOn 193 = .ok (.putfield 156, 3) := by decide +kernel
theorem dX12_stepOn_196 : decode cX12_stepOn 196 = .ok (.aload_n 0, 1) := by decide +kernel
theorem dX12_stepOn_197 : decode cX12_stepOn 197 = .ok (.iload_n 1, 1) := by decide +kernel
theorem dX12_stepOn_198 : decode cX12_stepOn 198 = .ok (.invokestatic 186, 3) := by decide +kernel
theorem dX12_stepOn_201 : decode cX12_stepOn 201 = .ok (.ifCond .eq 7, 3) := by decide +kernel
theorem dX12_stepOn_204 : decode cX12_stepOn 204 = .ok (.iconst 3, 1) := by decide +kernel
theorem dX12_stepOn_205 : decode cX12_stepOn 205 = .ok (.goto 4, 3) := by decide +kernel
theorem dX12_stepOn_208 : decode cX12_stepOn 208 = .ok (.iconst 4, 1) := by decide +kernel
theorem dX12_stepOn_209 : decode cX12_stepOn 209 = .ok (.putfield 166, 3) := by decide +kernel
theorem dX12_stepOn_212 : decode cX12_stepOn 212 = .ok (.aload_n 0, 1) := by decide +kernel
theorem dX12_stepOn_213 : decode cX12_stepOn 213 = .ok (.aload_n 0, 1) := by decide +kernel
theorem dX12_stepOn_214 : decode cX12_stepOn 214 = .ok (.getfield 156, 3) := by decide +kernel
theorem dX12_stepOn_217 : decode cX12_stepOn 217 = .ok (.putfield 189, 3) := by decide +kernel
theorem dX12_stepOn_220 : decode cX12_stepOn 220 = .ok (.return_, 1) := by decide +kernel
theorem dX12_wrong_0 : decode cX12_wrong 0 = .ok (.aload_n 0, 1) := by decide +kernel
theorem dX12_wrong_1 : decode cX12_wrong 1 = .ok (.getfield 192, 3) := by decide +kernel
theorem dX12_wrong_4 : decode cX12_wrong 4 = .ok (.ifCond .eq 4, 3) := by decide +kernel
theorem dX12_wrong_7 : decode cX12_wrong 7 = .ok (.return_, 1) := by decide +kernel
theorem dX12_wrong_8 : decode cX12_wrong 8 = .ok (.aload_n 0, 1) := by decide +kernel
theorem dX12_wrong_9 : decode cX12_wrong 9 = .ok (.iload_n 1, 1) := by decide +kernel
theorem dX12_wrong_10 : decode cX12_wrong 10 = .ok (.putfield 192, 3) := by decide +kernel
theorem dX12_wrong_13 : decode cX12_wrong 13 = .ok (.aload_n 0, 1) := by decide +kernel
theorem dX12_wrong_14 : decode cX12_wrong 14 = .ok (.aload_n 0, 1) := by decide +kernel
theorem dX12_wrong_15 : decode cX12_wrong 15 = .ok (.getfield 163, 3) := by decide +kernel
theorem dX12_wrong_18 : decode cX12_wrong 18 = .ok (.putfield 195, 3) := by decide +kernel
theorem dX12_wrong_21 : decode cX12_wrong 21 = .ok (.return_, 1) := by decide +kernel
theorem dX12_is_0 : decode cX12_is 0 = .ok (.aload_n 0, 1) := by decide +kernel
theorem dX12_is_1 : decode cX12_is 1 = .ok (.getfield 192, 3) := by decide +kernel
theorem dX12_is_4 : decode cX12_is 4 = .ok (.ifCond .ne 31, 3) := by decide +kernel
theorem dX12_is_7 : decode cX12_is 7 = .ok (.aload_n 0, 1) := by decide +kernel
theorem dX12_is_8 : decode cX12_is 8 = .ok (.getfield 166, 3) := by decide +kernel
theorem dX12_is_11 : decode cX12_is 11 = .ok (.iconst 1, 1) := by decide +kernel
theorem dX12_is_12 : decode cX12_is 12 = .ok (.if_icmp .ne 23, 3) := by decide +kernel
theorem dX12_is_15 : decode cX12_is 15 = .ok (.aload_n 1, 1) := by decide +kernel
theorem dX12_is_16 : decode cX12_is 16 = .ok (.invokevirtual 198, 3) := by decide +kernel
theorem dX12_is_19 : decode cX12_is 19 = .ok (.aload_n 0, 1) := by decide +kernel
theorem dX12_is_20 : decode cX12_is 20 = .ok (.getfield 189, 3) := by decide +kernel
theorem dX12_is_23 : decode cX12_is 23 = .ok (.aload_n 0, 1) := by decide +kernel
theorem dX12_is_24 : decode cX12_is 24 = .ok (.getfield 163, 3) := by decide +kernel
theorem dX12_is_27 : decode cX12_is 27 = .ok (.isub, 1) := by decide +kernel
theorem dX12_is_28 : decode cX12_is 28 = .ok (.if_icmp .ne 7, 3) := by decide +kernel
theorem dX12_is_31 : decode cX12_is 31 = .ok (.iconst 1, 1) := by decide +kernel
theorem dX12_is_32 : decode cX12_is 32 = .ok (.goto 4, 3) := by decide +kernel
theorem dX12_is_35 : decode cX12_is 35 = .ok (.iconst 0, 1) := by decide +kernel
theorem dX12_is_36 : decode cX12_is 36 = .ok (.istore_n 2, 1) := by decide +kernel
theorem dX12_is_37 : decode cX12_is 37 = .ok (.iconst 0, 1) := by decide +kernel
theorem dX12_is_38 : decode cX12_is 38 = .ok (.istore_n 3, 1) := by decide +kernel
theorem dX12_is_39 : decode cX12_is 39 = .ok (.iload_n 2, 1) := by decide +kernel
theorem dX12_is_40 : decode cX12_is 40 = .ok (.ifCond .eq 42, 3) := by decide +kernel
theorem dX12_is_43 : decode cX12_is 43 = .ok (.iload_n 3, 1) := by decide +kernel
theorem dX12_is_44 : decode cX12_is 44 = .ok (.aload_n 1, 1) := by decide +kernel
theorem dX12_is_45 : decode cX12_is 45 = .ok (.invokevirtual 198, 3) := by decide +kernel
theorem dX12_is_48 : decode cX12_is 48 = .ok (.if_icmp .ge 34, 3) := by decide +kernel
theorem dX12_is_51 : decode cX12_is 51 = .ok (.aload_n 1, 1) := by decide +kernel
theorem dX12_is_52 : decode cX12_is 52 = .ok (.iload_n 3, 1) := by decide +kernel
theorem dX12_is_53 : decode cX12_is 53 = .ok (.invokevirtual 202, 3) := by decide +kernel
theorem dX12_is_56 : decode cX12_is 56 = .ok (.aload_n 0, 1) := by decide +kernel
theorem dX12_is_57 : decode cX12_is 57 = .ok (.getfield 73, 3) := by decide +kernel
theorem dX12_is_60 : decode cX12_is 60 = .ok (.aload_n 0, 1) := by decide +kernel
theorem dX12_is_61 : decode cX12_is 61 = .ok (.getfield 163, 3) := by decide +kernel
theorem dX12_is_64 : decode cX12_is 64 = .ok (.iload_n 3, 1) := by decide +kernel
theorem dX12_is_65 : decode cX12_is 65 = .ok (.iadd, 1) := by decide +kernel
theorem dX12_is_66 : decode cX12_is 66 = .ok (.iaload, 1) := by decide +kernel
theorem dX12_is_67 : decode cX12_is 67 = .ok (.if_icmp .ne 7, 3) := by decide +kernel
theorem dX12_is_70 : decode cX12_is 70 = .ok (.iconst 1, 1) := by decide +kernel
theorem dX12_is_71 : decode cX12_is 71 = .ok (.goto 4, 3) := by decide +kernel
theorem dX12_is_74 : decode cX12_is 74 = .ok (.iconst 0, 1) := by decide +kernel
theorem dX12_is_75 : decode cX12_is 75 = .ok (.istore_n 2, 1) := by decide +kernel
theorem dX12_is_76 : decode cX12_is 76 = .ok (.iinc 3 1, 3) := by decide +kernel
theorem dX12_is_79 : decode cX12_is 79 = .ok (.goto (-40), 3) := by decide +kernel
theorem dX12_is_82 : decode cX12_is 82 = .ok (.iload_n 2, 1) := by decide +kernel
theorem dX12_is_83 : decode cX12_is 83 = .ok (.ireturn, 1) := by decide +kernel
theorem dX12_which_0 : decode cX12_which 0 = .ok (.iconst 0, 1) := by decide +kernel
theorem dX12_which_1 : decode cX12_which 1 = .ok (.istore_n 2, 1) := by decide +kernel
theorem dX12_which_2 : decode cX12_which 2 = .ok (.iload_n 2, 1) := by decide +kernel
theorem dX12_which_3 : decode cX12_which 3 = .ok (.aload_n 1, 1) := by decide +kernel
theorem dX12_which_4 : decode cX12_which 4 = .ok (.arraylength, 1) := by decide +kernel
theorem dX12_which_5 : decode cX12_which 5 = .ok (.if_icmp .ge 21, 3) := by decide +kernel
theorem dX12_which_8 : decode cX12_which 8 = .ok (.aload_n 0, 1) := by decide +kernel
theorem dX12_which_9 : decode cX12_which 9 = .ok (.aload_n 1, 1) := by decide +kernel
theorem dX12_which_10 : decode cX12_which 10 = .ok (.iload_n 2, 1) := by decide +kernel
theorem dX12_which_11 : decode cX12_which 11 = .ok (.aaload, 1) := by decide +kernel
theorem dX12_which_12 : decode cX12_which 12 = .ok (.invokevirtual 206, 3) := by decide +kernel
theorem dX12_which_15 : decode cX12_which 15 = .ok (.ifCond .eq 5, 3) := by decide +kernel
theorem dX12_which_18 : decode cX12_which 18 = .ok (.iload_n 2, 1) := by decide +kernel
theorem dX12_which_19 : decode cX12_which 19 = .ok (.ireturn, 1) := by decide +kernel
theorem dX12_which_20 : decode cX12_which 20 = .ok (.iinc 2 1, 3) := by decide +kernel
theorem dX12_which_23 : decode cX12_which 23 = .ok (.goto (-21), 3) := by decide +kernel
theorem dX12_which_26 : decode cX12_which 26 = .ok (.iconst (-1), 1) := by decide +kernel
theorem dX12_which_27 : decode cX12_which 27 = .ok (.ireturn, 1) := by decide +kernel
theorem dX12_isMarked_0 : decode cX12_isMarked 0 = .ok (.aload_n 0, 1) := by decide +kernel
theorem dX12_isMarked_1 : decode cX12_isMarked 1 = .ok (.getfield 192, 3) := by decide +kernel
theorem dX12_isMarked_4 : decode cX12_isMarked 4 = .ok (.ifCond .ne 28, 3) := by decide +kernel
theorem dX12_isMarked_7 : decode cX12_isMarked 7 = .ok (.aload_n 0, 1) := by decide +kernel
theorem dX12_isMarked_8 : decode cX12_isMarked 8 = .ok (.getfield 166, 3) := by decide +kernel
theorem dX12_isMarked_11 : decode cX12_isMarked 11 = .ok (.iconst 3, 1) := by decide +kernel
theorem dX12_isMarked_12 : decode cX12_isMarked 12 = .ok (.if_icmp .ne 20, 3) := by decide +kernel
theorem dX12_isMarked_15 : decode cX12_isMarked 15 = .ok (.aload_n 0, 1) := by decide +kernel
theorem dX12_isMarked_16 : decode cX12_isMarked 16 = .ok (.getfield 73, 3) := by decide +kernel
theorem dX12_isMarked_19 : decode cX12_isMarked 19 = .ok (.aload_n 0, 1) := by decide +kernel
theorem dX12_isMarked_20 : decode cX12_isMarked 20 = .ok (.getfield 163, 3) := by decide +kernel
theorem dX12_isMarked_23 : decode cX12_isMarked 23 = .ok (.iaload, 1) := by decide +kernel
theorem dX12_isMarked_24 : decode cX12_isMarked 24 = .ok (.iload_n 1, 1) := by decide +kernel
theorem dX12_isMarked_25 : decode cX12_isMarked 25 = .ok (.if_icmp .ne 7, 3) := by decide +kernel
theorem dX12_isMarked_28 : decode cX12_isMarked 28 = .ok (.iconst 1, 1) := by decide +kernel
theorem dX12_isMarked_29 : decode cX12_isMarked 29 = .ok (.goto 4, 3) := by decide +kernel
theorem dX12_isMarked_32 : decode cX12_isMarked 32 = .ok (.iconst 0, 1) := by decide +kernel
theorem dX12_isMarked_33 : decode cX12_isMarked 33 = .ok (.ireturn, 1) := by decide +kernel
theorem dX12_mark_0 : decode cX12_mark 0 = .ok (.aload_n 0, 1) := by decide +kernel
theorem dX12_mark_1 : decode cX12_mark 1 = .ok (.getfield 192, 3) := by decide +kernel
theorem dX12_mark_4 : decode cX12_mark 4 = .ok (.ifCond .ne 16, 3) := by decide +kernel
theorem dX12_mark_7 : decode cX12_mark 7 = .ok (.aload_n 0, 1) := by decide +kernel
theorem dX12_mark_8 : decode cX12_mark 8 = .ok (.iload_n 1, 1) := by decide +kernel
theorem dX12_mark_9 : decode cX12_mark 9 = .ok (.invokevirtual 210, 3) := by decide +kernel
theorem dX12_mark_12 : decode cX12_mark 12 = .ok (.ifCond .ne 8, 3) := by decide +kernel
theorem dX12_mark_15 : decode cX12_mark 15 = .ok (.aload_n 0, 1) := by decide +kernel
theorem dX12_mark_16 : decode cX12_mark 16 = .ok (.iconst 1, 1) := by decide +kernel
theorem dX12_mark_17 : decode cX12_mark 17 = .ok (.invokevirtual 213, 3) := by decide +kernel
theorem dX12_mark_20 : decode cX12_mark 20 = .ok (.aload_n 0, 1) := by decide +kernel
theorem dX12_mark_21 : decode cX12_mark 21 = .ok (.getfield 192, 3) := by decide +kernel
theorem dX12_mark_24 : decode cX12_mark 24 = .ok (.ifCond .ne 7, 3) := by decide +kernel
theorem dX12_mark_27 : decode cX12_mark 27 = .ok (.aload_n 0, 1) := by decide +kernel
theorem dX12_mark_28 : decode cX12_mark 28 = .ok (.invokevirtual 217, 3) := by decide +kernel
theorem dX12_mark_31 : decode cX12_mark 31 = .ok (.return_, 1) := by decide +kernel
theorem dX12_numberNow_0 : decode cX12_numberNow 0 = .ok (.aload_n 0, 1) := by decide +kernel
theorem dX12_numberNow_1 : decode cX12_numberNow 1 = .ok (.getfield 192, 3) := by decide +kernel
theorem dX12_numberNow_4 : decode cX12_numberNow 4 = .ok (.ifCond .eq 5, 3) := by decide +kernel
theorem dX12_numberNow_7 : decode cX12_numberNow 7 = .ok (.iconst 0, 1) := by decide +kernel
theorem dX12_numberNow_8 : decode cX12_numberNow 8 = .ok (.ireturn, 1) := by decide +kernel
theorem dX12_numberNow_9 : decode cX12_numberNow 9 = .ok (.aload_n 0, 1) := by decide +kernel
theorem dX12_numberNow_10 : decode cX12_numberNow 10 = .ok (.getfield 166, 3) := by decide +kernel
theorem dX12_numberNow_13 : decode cX12_numberNow 13 = .ok (.iconst 2, 1) := by decide +kernel
theorem dX12_numberNow_14 : decode cX12_numberNow 14 = .ok (.if_icmp .eq 11, 3) := by decide +kernel
theorem dX12_numberNow_17 : decode cX12_numberNow 17 = .ok (.aload_n 0, 1) := by decide +kernel
theorem dX12_numberNow_18 : decode cX12_numberNow 18 = .ok (.iconst 1, 1) := by decide +kernel
theorem dX12_numberNow_19 : decode cX12_numberNow 19 = .ok (.invokevirtual 213, 3) := by decide +kernel
theorem dX12_numberNow_22 : decode cX12_numberNow 22 = .ok (.goto 37, 3) := by decide +kernel
theorem dX12_numberNow_25 : decode cX12_numberNow 25 = .ok (.aload_n 0, 1) := by decide +kernel
theorem dX12_numberNow_26 : decode cX12_numberNow 26 = .ok (.getfield 189, 3) := by decide +kernel
theorem dX12_numberNow_29 : decode cX12_numberNow 29 = .ok (.aload_n 0, 1) := by decide +kernel
theorem dX12_numberNow_30 : decode cX12_numberNow 30 = .ok (.getfield 163, 3) := by decide +kernel
theorem dX12_numberNow_33 : decode cX12_numberNow 33 = .ok (.isub, 1) := by decide +kernel
theorem dX12_numberNow_34 : decode cX12_numberNow 34 = .ok (.iconst 4, 1) := by decide +kernel
theorem dX12_numberNow_35 : decode cX12_numberNow 35 = .ok (.if_icmp .gt 19, 3) := by decide +kernel
theorem dX12_numberNow_38 : decode cX12_numberNow 38 = .ok (.aload_n 0, 1) := by decide +kernel
theorem dX12_numberNow_39 : decode cX12_numberNow 39 = .ok (.getfield 176, 3) := by decide +kernel
theorem dX12_numberNow_42 : decode cX12_numberNow 42 = .ok (.iload_n 1, 1) := by decide +kernel
theorem dX12_numberNow_43 : decode cX12_numberNow 43 = .ok (.if_icmp .lt 11, 3) := by decide +kernel
theorem dX12_numberNow_46 : decode cX12_numberNow 46 = .ok (.aload_n 0, 1) := by decide +kernel
theorem dX12_numberNow_47 : decode cX12_numberNow 47 = .ok (.getfield 176, 3) := by decide +kernel
theorem dX12_numberNow_50 : decode cX12_numberNow 50 = .ok (.iload_n 2, 1) := by decide +kernel
theorem dX12_numberNow_51 : decode cX12_numberNow 51 = .ok (.if_icmp .le 8, 3) := by decide +kernel
theorem dX12_numberNow_54 : decode cX12_numberNow 54 = .ok (.aload_n 0, 1) := by decide +kernel
theorem dX12_numberNow_55 : decode cX12_numberNow 55 = .ok (.iconst 2, 1) := by decide +kernel
theorem dX12_numberNow_56 : decode cX12_numberNow 56 = .ok (.invokevirtual 213, 3) := by decide +kernel
theorem dX12_numberNow_59 : decode cX12_numberNow 59 = .ok (.aload_n 0, 1) := by decide +kernel
theorem dX12_numberNow_60 : decode cX12_numberNow 60 = .ok (.getfield 192, 3) := by decide +kernel
theorem dX12_numberNow_63 : decode cX12_numberNow 63 = .ok (.ifCond .ne 10, 3) := by decide +kernel
theorem dX12_numberNow_66 : decode cX12_numberNow 66 = .ok (.aload_n 0, 1) := by decide +kernel
theorem dX12_numberNow_67 : decode cX12_numberNow 67 = .ok (.getfield 176, 3) := by decide +kernel
theorem dX12_numberNow_70 : decode cX12_numberNow 70 = .ok (.goto 4, 3) := by decide +kernel
theorem dX12_numberNow_73 : decode cX12_numberNow 73 = .ok (.iconst 0, 1) := by decide +kernel
theorem dX12_numberNow_74 : decode cX12_numberNow 74 = .ok (.ireturn, 1) := by decide +kernel
theorem dX12_readNumber_0 : decode cX12_readNumber 0 = .ok (.aload_n 0, 1) := by decide +kernel
theorem dX12_readNumber_1 : decode cX12_readNumber 1 = .ok (.iload_n 1, 1) := by decide +kernel
theorem dX12_readNumber_2 : decode cX12_readNumber 2 = .ok (.iload_n 2, 1) := by decide +kernel
theorem dX12_readNumber_3 : decode cX12_readNumber 3 = .ok (.invokevirtual 220, 3) := by decide +kernel
theorem dX12_readNumber_6 : decode cX12_readNumber 6 = .ok (.istore_n 3, 1) := by decide +kernel
theorem dX12_readNumber_7 : decode cX12_readNumber 7 = .ok (.aload_n 0, 1) := by decide +kernel
theorem dX12_readNumber_8 : decode cX12_readNumber 8 = .ok (.getfield 192, 3) := by decide +kernel
theorem dX12_readNumber_11 : decode cX12_readNumber 11 = .ok (.ifCond .ne 7, 3) := by decide +kernel
theorem dX12_readNumber_14 : decode cX12_readNumber 14 = .ok (.aload_n 0, 1) := by decide +kernel
theorem dX12_readNumber_15 : decode cX12_readNumber 15 = .ok (.invokevirtual 217, 3) := by decide +kernel
theorem dX12_readNumber_18 : decode cX12_readNumber 18 = .ok (.iload_n 3, 1) := by decide +kernel
theorem dX12_readNumber_19 : decode cX12_readNumber 19 = .ok (.ireturn, 1) := by decide +kernel
theorem dX12_lay_0 : decode cX12_lay 0 = .ok (.aload_n 0, 1) := by decide +kernel
theorem dX12_lay_1 : decode cX12_lay 1 = .ok (.getfield 192, 3) := by decide +kernel
theorem dX12_lay_4 : decode cX12_lay 4 = .ok (.ifCond .eq 4, 3) := by decide +kernel
theorem dX12_lay_7 : decode cX12_lay 7 = .ok (.return_, 1) := by decide +kernel
theorem dX12_lay_8 : decode cX12_lay 8 = .ok (.aload_n 0, 1) := by decide +kernel
theorem dX12_lay_9 : decode cX12_lay 9 = .ok (.getfield 67, 3) := by decide +kernel
theorem dX12_lay_12 : decode cX12_lay 12 = .ok (.sipush 700, 3) := by decide +kernel
theorem dX12_lay_15 : decode cX12_lay 15 = .ok (.aload_n 0, 1) := by decide +kernel
theorem dX12_lay_16 : decode cX12_lay 16 = .ok (.getfield 36, 3) := by decide +kernel
theorem dX12_lay_19 : decode cX12_lay 19 = .ok (.bipush 7, 2) := by decide +kernel
theorem dX12_lay_21 : decode cX12_lay 21 = .ok (.iaload, 1) := by decide +kernel
theorem dX12_lay_22 : decode cX12_lay 22 = .ok (.iadd, 1) := by decide +kernel
theorem dX12_lay_23 : decode cX12_lay 23 = .ok (.iload_n 1, 1) := by decide +kernel
theorem dX12_lay_24 : decode cX12_lay 24 = .ok (.iastore, 1) := by decide +kernel
theorem dX12_lay_25 : decode cX12_lay 25 = .ok (.aload_n 0, 1) := by decide +kernel
theorem dX12_lay_26 : decode cX12_lay 26 = .ok (.getfield 36, 3) := by decide +kernel
theorem dX12_lay_29 : decode cX12_lay 29 = .ok (.bipush 7, 2) := by decide +kernel
theorem dX12_lay_31 : decode cX12_lay 31 = .ok (.dup2, 1) := by decide +kernel
theorem dX12_lay_32 : decode cX12_lay 32 = .ok (.iaload, 1) := by decide +kernel
theorem dX12_lay_33 : decode cX12_lay 33 = .ok (.iconst 1, 1) := by decide +kernel
theorem dX12_lay_34 : decode cX12_lay 34 = .ok (.iadd, 1) := by decide +kernel
theorem dX12_lay_35 : decode cX12_lay 35 = .ok (.iastore, 1) := by decide +kernel
theorem dX12_lay_36 : decode cX12_lay 36 = .ok (.return_, 1) := by decide +kernel
theorem dX12_readPart_0 : decode cX12_readPart 0 = .ok (.aload_n 0, 1) := by decide +kernel
theorem dX12_readPart_1 : decode cX12_readPart 1 = .ok (.getfield 192, 3) := by decide +kernel
theorem dX12_readPart_4 : decode cX12_readPart 4 = .ok (.ifCond .eq 4, 3) := by decide +kernel
theorem dX12_readPart_7 : decode cX12_readPart 7 = .ok (.return_, 1) := by decide +kernel
theorem dX12_readPart_8 : decode cX12_readPart 8 = .ok (.aload_n 0, 1) := by decide +kernel
theorem dX12_readPart_9 : decode cX12_readPart 9 = .ok (.getfield 166, 3) := by decide +kernel
theorem dX12_readPart_12 : decode cX12_readPart 12 = .ok (.iconst 2, 1) := by decide +kernel
theorem dX12_readPart_13 : decode cX12_readPart 13 = .ok (.if_icmp .ne 16, 3) := by decide +kernel
theorem dX12_readPart_16 : decode cX12_readPart 16 = .ok (.aload_n 0, 1) := by decide +kernel
theorem dX12_readPart_17 : decode cX12_readPart 17 = .ok (.aload_n 0, 1) := by decide +kernel
theorem dX12_readPart_18 : decode cX12_readPart 18 = .ok (.iconst 0, 1) := by decide +kernel
theorem dX12_readPart_19 : decode cX12_readPart 19 = .ok (.sipush 9999, 3) := by decide +kernel
theorem dX12_readPart_22 : decode cX12_readPart 22 = .ok (.invokevirtual 223, 3) := by decide +kernel
theorem dX12_readPart_25 : decode cX12_readPart 25 = .ok (.invokevirtual 226, 3) := by decide +kernel
theorem dX12_readPart_28 : decode cX12_readPart 28 = .ok (.return_, 1) := by decide +kernel
theorem dX12_readPart_29 : decode cX12_readPart 29 = .ok (.aload_n 0, 1) := by decide +kernel
theorem dX12_readPart_30 : decode cX12_readPart 30 = .ok (.getfield 166, 3) := by decide +kernel
theorem dX12_readPart_33 : decode cX12_readPart 33 = .ok (.iconst 1, 1) := by decide +kernel
theorem dX12_readPart_34 : decode cX12_readPart 34 = .ok (.if_icmp .ne 41, 3) := by decide +kernel
theorem dX12_readPart_37 : decode cX12_readPart 37 = .ok (.aload_n 0, 1) := by decide +kernel
theorem dX12_readPart_38 : decode cX12_readPart 38 = .ok (.aload_n 0, 1) := by decide +kernel
theorem dX12_readPart_39 : decode cX12_readPart 39 = .ok (.getfield 33, 3) := by decide +kernel
theorem dX12_readPart_42 : decode cX12_readPart 42 = .ok (.invokevirtual 229, 3) := by decide +kernel
theorem dX12_readPart_45 : decode cX12_readPart 45 = .ok (.istore_n 2, 1) := by decide +kernel
theorem dX12_readPart_46 : decode cX12_readPart 46 = .ok (.iload_n 2, 1) := by decide +kernel
theorem dX12_readPart_47 : decode cX12_readPart 47 = .ok (.iconst (-1), 1) := by decide +kernel
theorem dX12_readPart_48 : decode cX12_readPart 48 = .ok (.if_icmp .ne 8, 3) := by decide +kernel
theorem dX12_readPart_51 : decode cX12_readPart 51 = .ok (.aload_n 0, 1) := by decide +kernel
theorem dX12_readPart_52 : decode cX12_readPart 52 = .ok (.iconst 3, 1) := by decide +kernel
theorem dX12_readPart_53 : decode cX12_readPart 53 = .ok (.invokevirtual 213, 3) := by decide +kernel
theorem dX12_readPart_56 : decode cX12_readPart 56 = .ok (.aload_n 0, 1) := by decide +kernel
theorem dX12_readPart_57 : decode cX12_readPart 57 = .ok (.iconst (-1), 1) := by decide +kernel
theorem dX12_readPart_58 : decode cX12_readPart 58 = .ok (.iload_n 2, 1) := by decide +kernel
theorem dX12_readPart_59 : decode cX12_readPart 59 = .ok (.isub, 1) := by decide +kernel
theorem dX12_readPart_60 : decode cX12_readPart 60 = .ok (.invokevirtual 226, 3) := by decide +kernel
theorem dX12_readPart_63 : decode cX12_readPart 63 = .ok (.aload_n 0, 1) := by decide +kernel
theorem dX12_readPart_64 : decode cX12_readPart 64 = .ok (.getfield 192, 3) := by decide +kernel
theorem dX12_readPart_67 : decode cX12_readPart 67 = .ok (.ifCond .ne 7, 3) := by decide +kernel
theorem dX12_readPart_70 : decode cX12_readPart 70 = .ok (.aload_n 0, 1) := by decide +kernel
theorem dX12_readPart_71 : decode cX12_readPart 71 = .ok (.invokevirtual 217, 3) := by decide +kernel
theorem dX12_readPart_74 : decode cX12_readPart 74 = .ok (.return_, 1) := by decide +kernel
theorem dX12_readPart_75 : decode cX12_readPart 75 = .ok (.aload_n 0, 1) := by decide +kernel
theorem dX12_readPart_76 : decode cX12_readPart 76 = .ok (.bipush 40, 2) := by decide +kernel
theorem dX12_readPart_78 : decode cX12_readPart 78 = .ok (.invokevirtual 233, 3) := by decide +kernel
theorem dX12_readPart_81 : decode cX12_readPart 81 = .ok (.aload_n 0, 1) := by decide +kernel
theorem dX12_readPart_82 : decode cX12_readPart 82 = .ok (.iload_n 1, 1) := by decide +kernel
theorem dX12_readPart_83 : decode cX12_readPart 83 = .ok (.iconst 1, 1) := by decide +kernel
theorem dX12_readPart_84 : decode cX12_readPart 84 = .ok (.iadd, 1) := by decide +kernel
theorem dX12_readPart_85 : decode cX12_readPart 85 = .ok (.invokevirtual 236, 3) := by decide +kernel
theorem dX12_readPart_88 : decode cX12_readPart 88 = .ok (.aload_n 0, 1) := by decide +kernel
theorem dX12_readPart_89 : decode cX12_readPart 89 = .ok (.bipush 41, 2) := by decide +kernel
theorem dX12_readPart_91 : decode cX12_readPart 91 = .ok (.invokevirtual 233, 3) := by decide +kernel
theorem dX12_readPart_94 : decode cX12_readPart 94 = .ok (.return_, 1) := by decide +kernel
theorem dX12_readProduct_0 : decode cX12_readProduct 0 = .ok (.aload_n 0, 1) := by decide +kernel
theorem dX12_readProduct_1 : decode cX12_readProduct 1 = .ok (.iload_n 1, 1) := by decide +kernel
theorem dX12_readProduct_2 : decode cX12_readProduct 2 = .ok (.invokevirtual 239, 3) := by decide +kernel
theorem dX12_readProduct_5 : decode cX12_readProduct 5 = .ok (.aload_n 0, 1) := by decide +kernel
theorem dX12_readProduct_6 : decode cX12_readProduct 6 = .ok (.bipush 42, 2) := by decide +kernel
theorem dX12_readProduct_8 : decode cX12_readProduct 8 = .ok (.invokevirtual 210, 3) := by decide +kernel
theorem dX12_readProduct_11 : decode cX12_readProduct 11 = .ok (.ifCond .ne 12, 3) := by decide +kernel
theorem dX12_readProduct_14 : decode cX12_readProduct 14 = .ok (.aload_n 0, 1) := by decide +kernel
theorem dX12_readProduct_15 : decode cX12_readProduct 15 = .ok (.bipush 47, 2) := by decide +kernel
theorem dX12_readProduct_17 : decode cX12_readProduct 17 = .ok (.invokevirtual 210, 3) := by decide +kernel
theorem dX12_readProduct_20 : decode cX12_readProduct 20 = .ok (.ifCond .eq 37, 3) := by decide +kernel
theorem dX12_readProduct_23 : decode cX12_readProduct 23 = .ok (.aload_n 0, 1) := by decide +kernel
theorem dX12_readProduct_24 : decode cX12_readProduct 24 = .ok (.bipush 42, 2) := by decide +kernel
theorem dX12_readProduct_26 : decode cX12_readProduct 26 = .ok (.invokevirtual 210, 3) := by decide +kernel
theorem dX12_readProduct_29 : decode cX12_readProduct 29 = .ok (.ifCond .eq 8, 3) := by decide +kernel
theorem dX12_readProduct_32 : decode cX12_readProduct 32 = .ok (.bipush (-22), 2) := by decide +kernel
theorem dX12_readProduct_34 : decode cX12_readProduct 34 = .ok (.goto 5, 3) := by decide +kernel
theorem dX12_readProduct_37 : decode cX12_readProduct 37 = .ok (.bipush (-23), 2) := by decide +kernel
theorem dX12_readProduct_39 : decode cX12_readProduct 39 = .ok (.istore_n 2, 1) := by decide +kernel
theorem dX12_readProduct_40 : decode cX12_readProduct 40 = .ok (.aload_n 0, 1) := by decide +kernel
theorem dX12_readProduct_41 : decode cX12_readProduct 41 = .ok (.invokevirtual 217, 3) := by decide +kernel
theorem dX12_readProduct_44 : decode cX12_readProduct 44 = .ok (.aload_n 0, 1) := by decide +kernel
theorem dX12_readProduct_45 : decode cX12_readProduct 45 = .ok (.iload_n 1, 1) := by decide +kernel
theorem dX12_readProduct_46 : decode cX12_readProduct 46 = .ok (.invokevirtual 239, 3) := by decide +kernel
theorem dX12_readProduct_49 : decode cX12_readProduct 49 = .ok (.aload_n 0, 1) := by decide +kernel
theorem dX12_readProduct_50 : decode cX12_readProduct 50 = .ok (.iload_n 2, 1) := by decide +kernel
theorem dX12_readProduct_51 : decode cX12_readProduct 51 = .ok (.invokevirtual 226, 3) := by decide +kernel
theorem dX12_readProduct_54 : decode cX12_readProduct 54 = .ok (.goto (-49), 3) := by decide +kernel
theorem dX12_readProduct_57 : decode cX12_readProduct 57 = .ok (.return_, 1) := by decide +kernel
theorem dX12_readSum_0 : decode cX12_readSum 0 = .ok (.aload_n 0, 1) := by decide +kernel
theorem dX12_readSum_1 : decode cX12_readSum 1 = .ok (.iload_n 1, 1) := by decide +kernel
theorem dX12_readSum_2 : decode cX12_readSum 2 = .ok (.invokevirtual 242, 3) := by decide +kernel
theorem dX12_readSum_5 : decode cX12_readSum 5 = .ok (.aload_n 0, 1) := by decide +kernel
theorem dX12_readSum_6 : decode cX12_readSum 6 = .ok (.bipush 43, 2) := by decide +kernel
theorem dX12_readSum_8 : decode cX12_readSum 8 = .ok (.invokevirtual 210, 3) := by decide +kernel
theorem dX12_readSum_11 : decode cX12_readSum 11 = .ok (.ifCond .ne 12, 3) := by decide +kernel
theorem dX12_readSum_14 : decode cX12_readSum 14 = .ok (.aload_n 0, 1) := by decide +kernel
theorem dX12_readSum_15 : decode cX12_readSum 15 = .ok (.bipush 45, 2) := by decide +kernel
theorem dX12_readSum_17 : decode cX12_readSum 17 = .ok (.invokevirtual 210, 3) := by decide +kernel
theorem dX12_readSum_20 : decode cX12_readSum 20 = .ok (.ifCond .eq 37, 3) := by decide +kernel
theorem dX12_readSum_23 : decode cX12_readSum 23 = .ok (.aload_n 0, 1) := by decide +kernel
theorem dX12_readSum_24 : decode cX12_readSum 24 = .ok (.bipush 43, 2) := by decide +kernel
theorem dX12_readSum_26 : decode cX12_readSum 26 = .ok (.invokevirtual 210, 3) := by decide +kernel
theorem dX12_readSum_29 : decode cX12_readSum 29 = .ok (.ifCond .eq 8, 3) := by decide +kernel
theorem dX12_readSum_32 : decode cX12_readSum 32 = .ok (.bipush (-20), 2) := by decide +kernel
theorem dX12_readSum_34 : decode cX12_readSum 34 = .ok (.goto 5, 3) := by decide +kernel
theorem dX12_readSum_37 : decode cX12_readSum 37 = .ok (.bipush (-21), 2) := by decide +kernel
theorem dX12_readSum_39 : decode cX12_readSum 39 = .ok (.istore_n 2, 1) := by decide +kernel
theorem dX12_readSum_40 : decode cX12_readSum 40 = .ok (.aload_n 0, 1) := by decide +kernel
theorem dX12_readSum_41 : decode cX12_readSum 41 = .ok (.invokevirtual 217, 3) := by decide +kernel
theorem dX12_readSum_44 : decode cX12_readSum 44 = .ok (.aload_n 0, 1) := by decide +kernel
theorem dX12_readSum_45 : decode cX12_readSum 45 = .ok (.iload_n 1, 1) := by decide +kernel
theorem dX12_readSum_46 : decode cX12_readSum 46 = .ok (.invokevirtual 242, 3) := by decide +kernel
theorem dX12_readSum_49 : decode cX12_readSum 49 = .ok (.aload_n 0, 1) := by decide +kernel
theorem dX12_readSum_50 : decode cX12_readSum 50 = .ok (.iload_n 2, 1) := by decide +kernel
theorem dX12_readSum_51 : decode cX12_readSum 51 = .ok (.invokevirtual 226, 3) := by decide +kernel
theorem dX12_readSum_54 : decode cX12_readSum 54 = .ok (.goto (-49), 3) := by decide +kernel
theorem dX12_readSum_57 : decode cX12_readSum 57 = .ok (.return_, 1) := by decide +kernel
theorem dX12_readNot_0 : decode cX12_readNot 0 = .ok (.iconst 0, 1) := by decide +kernel
theorem dX12_readNot_1 : decode cX12_readNot 1 = .ok (.istore_n 2, 1) := by decide +kernel
theorem dX12_readNot_2 : decode cX12_readNot 2 = .ok (.aload_n 0, 1) := by decide +kernel
theorem dX12_readNot_3 : decode cX12_readNot 3 = .ok (.ldc 245, 2) := by decide +kernel
theorem dX12_readNot_5 : decode cX12_readNot 5 = .ok (.invokevirtual 206, 3) := by decide +kernel
theorem dX12_readNot_8 : decode cX12_readNot 8 = .ok (.ifCond .eq 31, 3) := by decide +kernel
theorem dX12_readNot_11 : decode cX12_readNot 11 = .ok (.iload_n 2, 1) := by decide +kernel
theorem dX12_readNot_12 : decode cX12_readNot 12 = .ok (.bipush 6, 2) := by decide +kernel
theorem dX12_readNot_14 : decode cX12_readNot 14 = .ok (.if_icmp .ne 8, 3) := by decide +kernel
theorem dX12_readNot_17 : decode cX12_readNot 17 = .ok (.aload_n 0, 1) := by decide +kernel
theorem dX12_readNot_18 : decode cX12_readNot 18 = .ok (.iconst 2, 1) := by decide +kernel
theorem dX12_readNot_19 : decode cX12_readNot 19 = .ok (.invokevirtual 213, 3) := by decide +kernel
theorem dX12_readNot_22 : decode cX12_readNot 22 = .ok (.iinc 2 1, 3) := by decide +kernel
theorem dX12_readNot_25 : decode cX12_readNot 25 = .ok (.aload_n 0, 1) := by decide +kernel
theorem dX12_readNot_26 : decode cX12_readNot 26 = .ok (.getfield 192, 3) := by decide +kernel
theorem dX12_readNot_29 : decode cX12_readNot 29 = .ok (.ifCond .ne (-27), 3) := by decide +kernel
theorem dX12_readNot_32 : decode cX12_readNot 32 = .ok (.aload_n 0, 1) := by decide +kernel
theorem dX12_readNot_33 : decode cX12_readNot 33 = .ok (.invokevirtual 217, 3) := by decide +kernel
theorem dX12_readNot_36 : decode cX12_readNot 36 = .ok (.goto (-34), 3) := by decide +kernel
theorem dX12_readNot_39 : decode cX12_readNot 39 = .ok (.aload_n 0, 1) := by decide +kernel
theorem dX12_readNot_40 : decode cX12_readNot 40 = .ok (.iload_n 1, 1) := by decide +kernel
theorem dX12_readNot_41 : decode cX12_readNot 41 = .ok (.invokevirtual 247, 3) := by decide +kernel
theorem dX12_readNot_44 : decode cX12_readNot 44 = .ok (.aload_n 0, 1) := by decide +kernel
theorem dX12_readNot_45 : decode cX12_readNot 45 = .ok (.bipush 60, 2) := by decide +kernel
theorem dX12_readNot_47 : decode cX12_readNot 47 = .ok (.invokevirtual 210, 3) := by decide +kernel
theorem dX12_readNot_50 : decode cX12_readNot 50 = .ok (.ifCond .ne 12, 3) := by decide +kernel
theorem dX12_readNot_53 : decode cX12_readNot 53 = .ok (.aload_n 0, 1) := by decide +kernel
theorem dX12_readNot_54 : decode cX12_readNot 54 = .ok (.bipush 61, 2) := by decide +kernel
theorem dX12_readNot_56 : decode cX12_readNot 56 = .ok (.invokevirtual 210, 3) := by decide +kernel
theorem dX12_readNot_59 : decode cX12_readNot 59 = .ok (.ifCond .eq 34, 3) := by decide +kernel
theorem dX12_readNot_62 : decode cX12_readNot 62 = .ok (.aload_n 0, 1) := by decide +kernel
theorem dX12_readNot_63 : decode cX12_readNot 63 = .ok (.bipush 60, 2) := by decide +kernel
theorem dX12_readNot_65 : decode cX12_readNot 65 = .ok (.invokevirtual 210, 3) := by decide +kernel
theorem dX12_readNot_68 : decode cX12_readNot 68 = .ok (.ifCond .eq 8, 3) := by decide +kernel
theorem dX12_readNot_71 : decode cX12_readNot 71 = .ok (.bipush (-24), 2) := by decide +kernel
theorem dX12_readNot_73 : decode cX12_readNot 73 = .ok (.goto 5, 3) := by decide +kernel
theorem dX12_readNot_76 : decode cX12_readNot 76 = .ok (.bipush (-25), 2) := by decide +kernel
theorem dX12_readNot_78 : decode cX12_readNot 78 = .ok (.istore_n 3, 1) := by decide +kernel
theorem dX12_readNot_79 : decode cX12_readNot 79 = .ok (.aload_n 0, 1) := by decide +kernel
theorem dX12_readNot_80 : decode cX12_readNot 80 = .ok (.invokevirtual 217, 3) := by decide +kernel
theorem dX12_readNot_83 : decode cX12_readNot 83 = .ok (.aload_n 0, 1) := by decide +kernel
theorem dX12_readNot_84 : decode cX12_readNot 84 = .ok (.iload_n 1, 1) := by decide +kernel
theorem dX12_readNot_85 : decode cX12_readNot 85 = .ok (.invokevirtual 247, 3) := by decide +kernel
theorem dX12_readNot_88 : decode cX12_readNot 88 = .ok (.aload_n 0, 1) := by decide +kernel
theorem dX12_readNot_89 : decode cX12_readNot 89 = .ok (.iload_n 3, 1) := by decide +kernel
theorem dX12_readNot_90 : decode cX12_readNot 90 = .ok (.invokevirtual 226, 3) := by decide +kernel
theorem dX12_readNot_93 : decode cX12_readNot 93 = .ok (.iconst 0, 1) := by decide +kernel
theorem dX12_readNot_94 : decode cX12_readNot 94 = .ok (.istore_n 3, 1) := by decide +kernel
theorem dX12_readNot_95 : decode cX12_readNot 95 = .ok (.iload_n 3, 1) := by decide +kernel
theorem dX12_readNot_96 : decode cX12_readNot 96 = .ok (.iload_n 2, 1) := by decide +kernel
theorem dX12_readNot_97 : decode cX12_readNot 97 = .ok (.if_icmp .ge 15, 3) := by decide +kernel
theorem dX12_readNot_100 : decode cX12_readNot 100 = .ok (.aload_n 0, 1) := by decide +kernel
theorem dX12_readNot_101 : decode cX12_readNot 101 = .ok (.bipush (-28), 2) := by decide +kernel
theorem dX12_readNot_103 : decode cX12_readNot 103 = .ok (.invokevirtual 226, 3) := by decide +kernel
theorem dX12_readNot_106 : decode cX12_readNot 106 = .ok (.iinc 3 1, 3) := by decide +kernel
theorem dX12_readNot_109 : decode cX12_readNot 109 = .ok (.goto (-14), 3) := by decide +kernel
theorem dX12_readNot_112 : decode cX12_readNot 112 = .ok (.return_, 1) := by decide +kernel
theorem dX12_readAnd_0 : decode cX12_readAnd 0 = .ok (.aload_n 0, 1) := by decide +kernel
theorem dX12_readAnd_1 : decode cX12_readAnd 1 = .ok (.iload_n 1, 1) := by decide +kernel
theorem dX12_readAnd_2 : decode cX12_readAnd 2 = .ok (.invokevirtual 250, 3) := by decide +kernel
theorem dX12_readAnd_5 : decode cX12_readAnd 5 = .ok (.aload_n 0, 1) := by decide +kernel
theorem dX12_readAnd_6 : decode cX12_readAnd 6 = .ok (.ldc 253, 2) := by decide +kernel
theorem dX12_readAnd_8 : decode cX12_readAnd 8 = .ok (.invokevirtual 206, 3) := by decide +kernel
theorem dX12_readAnd_11 : decode cX12_readAnd 11 = .ok (.ifCond .eq 21, 3) := by decide +kernel
theorem dX12_readAnd_14 : decode cX12_readAnd 14 = .ok (.aload_n 0, 1) := by decide +kernel
theorem dX12_readAnd_15 : decode cX12_readAnd 15 = .ok (.invokevirtual 217, 3) := by decide +kernel
theorem dX12_readAnd_18 : decode cX12_readAnd 18 = .ok (.aload_n 0, 1) := by decide +kernel
theorem dX12_readAnd_19 : decode cX12_readAnd 19 = .ok (.iload_n 1, 1) := by decide +kernel
theorem dX12_readAnd_20 : decode cX12_readAnd 20 = .ok (.invokevirtual 250, 3) := by decide +kernel
theorem dX12_readAnd_23 : decode cX12_readAnd 23 = .ok (.aload_n 0, 1) := by decide +kernel
theorem dX12_readAnd_24 : decode cX12_readAnd 24 = .ok (.bipush (-26), 2) := by decide +kernel
theorem dX12_readAnd_26 : decode cX12_readAnd 26 = .ok (.invokevirtual 226, 3) := by decide +kernel
theorem dX12_readAnd_29 : decode cX12_readAnd 29 = .ok (.goto (-24), 3) := by decide +kernel
theorem dX12_readAnd_32 : decode cX12_readAnd 32 = .ok (.return_, 1) := by decide +kernel
theorem dX12_readExpression_0 : decode cX12_readExpression 0 = .ok (.aload_n 0, 1) := by decide +kernel
theorem dX12_readExpression_1 : decode cX12_readExpression 1 = .ok (.getfield 192, 3) := by decide +kernel
theorem dX12_readExpression_4 : decode cX12_readExpression 4 = .ok (.ifCond .eq 4, 3) := by decide +kernel
theorem dX12_readExpression_7 : decode cX12_readExpression 7 = .ok (.return_, 1) := by decide +kernel
theorem dX12_readExpression_8 : decode cX12_readExpression 8 = .ok (.aload_n 0, 1) := by decide +kernel
theorem dX12_readExpression_9 : decode cX12_readExpression 9 = .ok (.getfield 166, 3) := by decide +kernel
theorem dX12_readExpression_12 : decode cX12_readExpression 12 = .ok (.iconst 2, 1) := by decide +kernel
theorem dX12_readExpression_13 : decode cX12_readExpression 13 = .ok (.if_icmp .eq 20, 3) := by decide +kernel
theorem dX12_readExpression_16 : decode cX12_readExpression 16 = .ok (.aload_n 0, 1) := by decide +kernel
theorem dX12_readExpression_17 : decode cX12_readExpression 17 = .ok (.getfield 166, 3) := by decide +kernel
theorem dX12_readExpression_20 : decode cX12_readExpression 20 = .ok (.iconst 1, 1) := by decide +kernel
theorem dX12_readExpression_21 : decode cX12_readExpression 21 = .ok (.if_icmp .eq 12, 3) := by decide +kernel
theorem dX12_readExpression_24 : decode cX12_readExpression 24 = .ok (.aload_n 0, 1) := by decide +kernel
theorem dX12_readExpression_25 : decode cX12_readExpression 25 = .ok (.bipush 40, 2) := by decide +kernel
theorem dX12_readExpression_27 : decode cX12_readExpression 27 = .ok (.invokevirtual 210, 3) := by decide +kernel
theorem dX12_readExpression_30 : decode cX12_readExpression 30 = .ok (.ifCond .eq 7, 3) := by decide +kernel
theorem dX12_readExpression_33 : decode cX12_readExpression 33 = .ok (.iconst 1, 1) := by decide +kernel
theorem dX12_readExpression_34 : decode cX12_readExpression 34 = .ok (.goto 4, 3) := by decide +kernel
theorem dX12_readExpression_37 : decode cX12_readExpression 37 = .ok (.iconst 0, 1) := by decide +kernel
theorem dX12_readExpression_38 : decode cX12_readExpression 38 = .ok (.istore_n 2, 1) := by decide +kernel
theorem dX12_readExpression_39 : decode cX12_readExpression 39 = .ok (.iload_n 2, 1) := by decide +kernel
theorem dX12_readExpression_40 : decode cX12_readExpression 40 = .ok (.ifCond .ne 11, 3) := by decide +kernel
theorem dX12_readExpression_43 : decode cX12_readExpression 43 = .ok (.aload_n 0, 1) := by decide +kernel
theorem dX12_readExpression_44 : decode cX12_readExpression 44 = .ok (.iconst 1, 1) := by decide +kernel
theorem dX12_readExpression_45 : decode cX12_readExpression 45 = .ok (.invokevirtual 213, 3) := by decide +kernel
theorem dX12_readExpression_48 : decode cX12_readExpression 48 = .ok (.goto 14, 3) := by decide +kernel
theorem dX12_readExpression_51 : decode cX12_readExpression 51 = .ok (.iload_n 1, 1) := by decide +kernel
theorem dX12_readExpression_52 : decode cX12_readExpression 52 = .ok (.bipush 6, 2) := by decide +kernel
theorem dX12_readExpression_54 : decode cX12_readExpression 54 = .ok (.if_icmp .ne 8, 3) := by decide +kernel
theorem dX12_readExpression_57 : decode cX12_readExpression 57 = .ok (.aload_n 0, 1) := by decide +kernel
theorem dX12_readExpression_58 : decode cX12_readExpression 58 = .ok (.iconst 2, 1) := by decide +kernel
theorem dX12_readExpression_59 : decode cX12_readExpression 59 = .ok (.invokevirtual 213, 3) := by decide +kernel
theorem dX12_readExpression_62 : decode cX12_readExpression 62 = .ok (.aload_n 0, 1) := by decide +kernel
theorem dX12_readExpression_63 : decode cX12_readExpression 63 = .ok (.iload_n 1, 1) := by decide +kernel
theorem dX12_readExpression_64 : decode cX12_readExpression 64 = .ok (.invokevirtual 255, 3) := by decide +kernel
theorem dX12_readExpression_67 : decode cX12_readExpression 67 = .ok (.aload_n 0, 1) := by decide +kernel
theorem dX12_readExpression_68 : decode cX12_readExpression 68 = .ok (.ldc_w 258, 3) := by decide +kernel
theorem dX12_readExpression_71 : decode cX12_readExpression 71 = .ok (.invokevirtual 206, 3) := by decide +kernel
theorem dX12_readExpression_74 : decode cX12_readExpression 74 = .ok (.ifCond .eq 21, 3) := by decide +kernel
theorem dX12_readExpression_77 : decode cX12_readExpression 77 = .ok (.aload_n 0, 1) := by decide +kernel
theorem dX12_readExpression_78 : decode cX12_readExpression 78 = .ok (.invokevirtual 217, 3) := by decide +kernel
theorem dX12_readExpression_81 : decode cX12_readExpression 81 = .ok (.aload_n 0, 1) := by decide +kernel
theorem dX12_readExpression_82 : decode cX12_readExpression 82 = .ok (.iload_n 1, 1) := by decide +kernel
theorem dX12_readExpression_83 : decode cX12_readExpression 83 = .ok (.invokevirtual 255, 3) := by decide +kernel
theorem dX12_readExpression_86 : decode cX12_readExpression 86 = .ok (.aload_n 0, 1) := by decide +kernel
theorem dX12_readExpression_87 : decode cX12_readExpression 87 = .ok (.bipush (-27), 2) := by decide +kernel
theorem dX12_readExpression_89 : decode cX12_readExpression 89 = .ok (.invokevirtual 226, 3) := by decide +kernel
theorem dX12_readExpression_92 : decode cX12_readExpression 92 = .ok (.goto (-25), 3) := by decide +kernel
theorem dX12_readExpression_95 : decode cX12_readExpression 95 = .ok (.return_, 1) := by decide +kernel
theorem dX12_another_0 : decode cX12_another 0 = .ok (.aload_n 0, 1) := by decide +kernel
theorem dX12_another_1 : decode cX12_another 1 = .ok (.getfield 36, 3) := by decide +kernel
theorem dX12_another_4 : decode cX12_another 4 = .ok (.iconst 4, 1) := by decide +kernel
theorem dX12_another_5 : decode cX12_another 5 = .ok (.iload_n 1, 1) := by decide +kernel
theorem dX12_another_6 : decode cX12_another 6 = .ok (.iadd, 1) := by decide +kernel
theorem dX12_another_7 : decode cX12_another 7 = .ok (.iaload, 1) := by decide +kernel
theorem dX12_another_8 : decode cX12_another 8 = .ok (.iload_n 2, 1) := by decide +kernel
theorem dX12_another_9 : decode cX12_another 9 = .ok (.if_icmp .ne 8, 3) := by decide +kernel
theorem dX12_another_12 : decode cX12_another 12 = .ok (.aload_n 0, 1) := by decide +kernel
theorem dX12_another_13 : decode cX12_another 13 = .ok (.iconst 2, 1) := by decide +kernel
theorem dX12_another_14 : decode cX12_another 14 = .ok (.invokevirtual 213, 3) := by decide +kernel
theorem dX12_another_17 : decode cX12_another 17 = .ok (.aload_n 0, 1) := by decide +kernel
theorem dX12_another_18 : decode cX12_another 18 = .ok (.getfield 192, 3) := by decide +kernel
theorem dX12_another_21 : decode cX12_another 21 = .ok (.ifCond .eq 5, 3) := by decide +kernel
theorem dX12_another_24 : decode cX12_another 24 = .ok (.iconst 0, 1) := by decide +kernel
theorem dX12_another_25 : decode cX12_another 25 = .ok (.ireturn, 1) := by decide +kernel
theorem dX12_another_26 : decode cX12_another 26 = .ok (.aload_n 0, 1) := by decide +kernel
theorem dX12_another_27 : decode cX12_another 27 = .ok (.invokevirtual 217, 3) := by decide +kernel
theorem dX12_another_30 : decode cX12_another 30 = .ok (.iconst 1, 1) := by decide +kernel
theorem dX12_another_31 : decode cX12_another 31 = .ok (.ireturn, 1) := by decide +kernel
theorem dX12_sayWorth_0 : decode cX12_sayWorth 0 = .ok (.aload_n 0, 1) := by decide +kernel
theorem dX12_sayWorth_1 : decode cX12_sayWorth 1 = .ok (.getfield 192, 3) := by decide +kernel
theorem dX12_sayWorth_4 : decode cX12_sayWorth 4 = .ok (.ifCond .ne 7, 3) := by decide +kernel
theorem dX12_sayWorth_7 : decode cX12_sayWorth 7 = .ok (.aload_n 0, 1) := by decide +kernel
theorem dX12_sayWorth_8 : decode cX12_sayWorth 8 = .ok (.invokevirtual 217, 3) := by decide +kernel
theorem dX12_sayWorth_11 : decode cX12_sayWorth 11 = .ok (.aload_n 0, 1) := by decide +kernel
theorem dX12_sayWorth_12 : decode cX12_sayWorth 12 = .ok (.iconst 0, 1) := by decide +kernel
theorem dX12_sayWorth_13 : decode cX12_sayWorth 13 = .ok (.bipush 9, 2) := by decide +kernel
theorem dX12_sayWorth_15 : decode cX12_sayWorth 15 = .ok (.invokevirtual 220, 3) := by decide +kernel
theorem dX12_sayWorth_18 : decode cX12_sayWorth 18 = .ok (.istore_n 1, 1) := by decide +kernel
theorem dX12_sayWorth_19 : decode cX12_sayWorth 19 = .ok (.aload_n 0, 1) := by decide +kernel
theorem dX12_sayWorth_20 : decode cX12_sayWorth 20 = .ok (.getfield 192, 3) := by decide +kernel
theorem dX12_sayWorth_23 : decode cX12_sayWorth 23 = .ok (.ifCond .ne 19, 3) := by decide +kernel
theorem dX12_sayWorth_26 : decode cX12_sayWorth 26 = .ok (.aload_n 0, 1) := by decide +kernel
theorem dX12_sayWorth_27 : decode cX12_sayWorth 27 = .ok (.getfield 260, 3) := by decide +kernel
theorem dX12_sayWorth_30 : decode cX12_sayWorth 30 = .ok (.iload_n 1, 1) := by decide +kernel
theorem dX12_sayWorth_31 : decode cX12_sayWorth 31 = .ok (.invokestatic 263, 3) := by decide +kernel
theorem dX12_sayWorth_34 : decode cX12_sayWorth 34 = .ok (.ifCond .eq 8, 3) := by decide +kernel
theorem dX12_sayWorth_37 : decode cX12_sayWorth 37 = .ok (.aload_n 0, 1) := by decide +kernel
theorem dX12_sayWorth_38 : decode cX12_sayWorth 38 = .ok (.iconst 4, 1) := by decide +kernel
theorem dX12_sayWorth_39 : decode cX12_sayWorth 39 = .ok (.invokevirtual 213, 3) := by decide +kernel
theorem dX12_sayWorth_42 : decode cX12_sayWorth 42 = .ok (.aload_n 0, 1) := by decide +kernel
theorem dX12_sayWorth_43 : decode cX12_sayWorth 43 = .ok (.getfield 192, 3) := by decide +kernel
theorem dX12_sayWorth_46 : decode cX12_sayWorth 46 = .ok (.ifCond .eq 4, 3) := by decide +kernel
theorem dX12_sayWorth_49 : decode cX12_sayWorth 49 = .ok (.return_, 1) := by decide +kernel
theorem dX12_sayWorth_50 : decode cX12_sayWorth 50 = .ok (.aload_n 0, 1) := by decide +kernel
theorem dX12_sayWorth_51 : decode cX12_sayWorth 51 = .ok (.invokevirtual 217, 3) := by decide +kernel
theorem dX12_sayWorth_54 : decode cX12_sayWorth 54 = .ok (.aload_n 0, 1) := by decide +kernel
theorem dX12_sayWorth_55 : decode cX12_sayWorth 55 = .ok (.dup, 1) := by decide +kernel
theorem dX12_sayWorth_56 : decode cX12_sayWorth 56 = .ok (.getfield 260, 3) := by decide +kernel
theorem dX12_sayWorth_59 : decode cX12_sayWorth 59 = .ok (.iconst 1, 1) := by decide +kernel
theorem dX12_sayWorth_60 : decode cX12_sayWorth 60 = .ok (.iload_n 1, 1) := by decide +kernel
theorem dX12_sayWorth_61 : decode cX12_sayWorth 61 = .ok (.ishl, 1) := by decide +kernel
theorem dX12_sayWorth_62 : decode cX12_sayWorth 62 = .ok (.ior, 1) := by decide +kernel
theorem dX12_sayWorth_63 : decode cX12_sayWorth 63 = .ok (.putfield 260, 3) := by decide +kernel
theorem dX12_sayWorth_66 : decode cX12_sayWorth 66 = .ok (.aload_n 0, 1) := by decide +kernel
theorem dX12_sayWorth_67 : decode cX12_sayWorth 67 = .ok (.bipush 45, 2) := by decide +kernel
theorem dX12_sayWorth_69 : decode cX12_sayWorth 69 = .ok (.invokevirtual 210, 3) := by decide +kernel
theorem dX12_sayWorth_72 : decode cX12_sayWorth 72 = .ok (.istore_n 2, 1) := by decide +kernel
theorem dX12_sayWorth_73 : decode cX12_sayWorth 73 = .ok (.iload_n 2, 1) := by decide +kernel
theorem dX12_sayWorth_74 : decode cX12_sayWorth 74 = .ok (.ifCond .eq 7, 3) := by decide +kernel
theorem dX12_sayWorth_77 : decode cX12_sayWorth 77 = .ok (.aload_n 0, 1) := by decide +kernel
theorem dX12_sayWorth_78 : decode cX12_sayWorth 78 = .ok (.invokevirtual 217, 3) := by decide +kernel
theorem dX12_sayWorth_81 : decode cX12_sayWorth 81 = .ok (.aload_n 0, 1) := by decide +kernel
theorem dX12_sayWorth_82 : decode cX12_sayWorth 82 = .ok (.iconst 0, 1) := by decide +kernel
theorem dX12_sayWorth_83 : decode cX12_sayWorth 83 = .ok (.bipush 9, 2) := by decide +kernel
theorem dX12_sayWorth_85 : decode cX12_sayWorth 85 = .ok (.invokevirtual 223, 3) := by decide +kernel
theorem dX12_sayWorth_88 : decode cX12_sayWorth 88 = .ok (.istore_n 3, 1) := by decide +kernel
theorem dX12_sayWorth_89 : decode cX12_sayWorth 89 = .ok (.aload_n 0, 1) := by decide +kernel
theorem dX12_sayWorth_90 : decode cX12_sayWorth 90 = .ok (.getfield 40, 3) := by decide +kernel
theorem dX12_sayWorth_93 : decode cX12_sayWorth 93 = .ok (.bipush 10, 2) := by decide +kernel
theorem dX12_sayWorth_95 : decode cX12_sayWorth 95 = .ok (.iload_n 1, 1) := by decide +kernel
theorem dX12_sayWorth_96 : decode cX12_sayWorth 96 = .ok (.iadd, 1) := by decide +kernel
theorem dX12_sayWorth_97 : decode cX12_sayWorth 97 = .ok (.iload_n 2, 1) := by decide +kernel
theorem dX12_sayWorth_98 : decode cX12_sayWorth 98 = .ok (.ifCond .eq 8, 3) := by decide +kernel
theorem dX12_sayWorth_101 : decode cX12_sayWorth 101 = .ok (.iload_n 3, 1) := by decide +kernel
theorem dX12_sayWorth_102 : decode cX12_sayWorth 102 = .ok (.ineg, 1) := by decide +kernel
theorem dX12_sayWorth_103 : decode cX12_sayWorth 103 = .ok (.goto 4, 3) := by decide +kernel
theorem dX12_sayWorth_106 : decode cX12_sayWorth 106 = .ok (.iload_n 3, 1) := by decide +kernel
theorem dX12_sayWorth_107 : decode cX12_sayWorth 107 = .ok (.iastore, 1) := by decide +kernel
theorem dX12_sayWorth_108 : decode cX12_sayWorth 108 = .ok (.return_, 1) := by decide +kernel
theorem dX12_sayPerson_0 : decode cX12_sayPerson 0 = .ok (.aload_n 0, 1) := by decide +kernel
theorem dX12_sayPerson_1 : decode cX12_sayPerson 1 = .ok (.iconst 0, 1) := by decide +kernel
theorem dX12_sayPerson_2 : decode cX12_sayPerson 2 = .ok (.bipush 8, 2) := by decide +kernel
theorem dX12_sayPerson_4 : decode cX12_sayPerson 4 = .ok (.invokevirtual 267, 3) := by decide +kernel
theorem dX12_sayPerson_7 : decode cX12_sayPerson 7 = .ok (.ifCond .ne 4, 3) := by decide +kernel
theorem dX12_sayPerson_10 : decode cX12_sayPerson 10 = .ok (.return_, 1) := by decide +kernel
theorem dX12_sayPerson_11 : decode cX12_sayPerson 11 = .ok (.bipush 8, 2) := by decide +kernel
theorem dX12_sayPerson_13 : decode cX12_sayPerson 13 = .ok (.aload_n 0, 1) := by decide +kernel
theorem dX12_sayPerson_14 : decode cX12_sayPerson 14 = .ok (.getfield 36, 3) := by decide +kernel
theorem dX12_sayPerson_17 : decode cX12_sayPerson 17 = .ok (.iconst 4, 1) := by decide +kernel
theorem dX12_sayPerson_18 : decode cX12_sayPerson 18 = .ok (.iaload, 1) := by decide +kernel
theorem dX12_sayPerson_19 : decode cX12_sayPerson 19 = .ok (.iadd, 1) := by decide +kernel
theorem dX12_sayPerson_20 : decode cX12_sayPerson 20 = .ok (.istore_n 1, 1) := by decide +kernel
theorem dX12_sayPerson_21 : decode cX12_sayPerson 21 = .ok (.aload_n 0, 1) := by decide +kernel
theorem dX12_sayPerson_22 : decode cX12_sayPerson 22 = .ok (.getfield 43, 3) := by decide +kernel
theorem dX12_sayPerson_25 : decode cX12_sayPerson 25 = .ok (.iload_n 1, 1) := by decide +kernel
theorem dX12_sayPerson_26 : decode cX12_sayPerson 26 = .ok (.aload_n 0, 1) := by decide +kernel
theorem dX12_sayPerson_27 : decode cX12_sayPerson 27 = .ok (.iconst 0, 1) := by decide +kernel
theorem dX12_sayPerson_28 : decode cX12_sayPerson 28 = .ok (.sipush 1023, 3) := by decide +kernel
theorem dX12_sayPerson_31 : decode cX12_sayPerson 31 = .ok (.invokevirtual 223, 3) := by decide +kernel
theorem dX12_sayPerson_34 : decode cX12_sayPerson 34 = .ok (.iastore, 1) := by decide +kernel
theorem dX12_sayPerson_35 : decode cX12_sayPerson 35 = .ok (.aload_n 0, 1) := by decide +kernel
theorem dX12_sayPerson_36 : decode cX12_sayPerson 36 = .ok (.getfield 46, 3) := by decide +kernel
theorem dX12_sayPerson_39 : decode cX12_sayPerson 39 = .ok (.iload_n 1, 1) := by decide +kernel
theorem dX12_sayPerson_40 : decode cX12_sayPerson 40 = .ok (.aload_n 0, 1) := by decide +kernel
theorem dX12_sayPerson_41 : decode cX12_sayPerson 41 = .ok (.iconst 0, 1) := by decide +kernel
theorem dX12_sayPerson_42 : decode cX12_sayPerson 42 = .ok (.bipush 9, 2) := by decide +kernel
theorem dX12_sayPerson_44 : decode cX12_sayPerson 44 = .ok (.invokevirtual 223, 3) := by decide +kernel
theorem dX12_sayPerson_47 : decode cX12_sayPerson 47 = .ok (.iastore, 1) := by decide +kernel
theorem dX12_sayPerson_48 : decode cX12_sayPerson 48 = .ok (.aload_n 0, 1) := by decide +kernel
theorem dX12_sayPerson_49 : decode cX12_sayPerson 49 = .ok (.getfield 49, 3) := by decide +kernel
theorem dX12_sayPerson_52 : decode cX12_sayPerson 52 = .ok (.iload_n 1, 1) := by decide +kernel
theorem dX12_sayPerson_53 : decode cX12_sayPerson 53 = .ok (.aload_n 0, 1) := by decide +kernel
theorem dX12_sayPerson_54 : decode cX12_sayPerson 54 = .ok (.iconst 0, 1) := by decide +kernel
theorem dX12_sayPerson_55 : decode cX12_sayPerson 55 = .ok (.bipush 9, 2) := by decide +kernel
theorem dX12_sayPerson_57 : decode cX12_sayPerson 57 = .ok (.invokevirtual 223, 3) := by decide +kernel
theorem dX12_sayPerson_60 : decode cX12_sayPerson 60 = .ok (.iastore, 1) := by decide +kernel
theorem dX12_sayPerson_61 : decode cX12_sayPerson 61 = .ok (.aload_n 0, 1) := by decide +kernel
theorem dX12_sayPerson_62 : decode cX12_sayPerson 62 = .ok (.getfield 52, 3) := by decide +kernel
theorem dX12_sayPerson_65 : decode cX12_sayPerson 65 = .ok (.iload_n 1, 1) := by decide +kernel
theorem dX12_sayPerson_66 : decode cX12_sayPerson 66 = .ok (.aload_n 0, 1) := by decide +kernel
theorem dX12_sayPerson_67 : decode cX12_sayPerson 67 = .ok (.iconst 0, 1) := by decide +kernel
theorem dX12_sayPerson_68 : decode cX12_sayPerson 68 = .ok (.bipush 99, 2) := by decide +kernel
theorem dX12_sayPerson_70 : decode cX12_sayPerson 70 = .ok (.invokevirtual 223, 3) := by decide +kernel
theorem dX12_sayPerson_73 : decode cX12_sayPerson 73 = .ok (.iastore, 1) := by decide +kernel
theorem dX12_sayPerson_74 : decode cX12_sayPerson 74 = .ok (.aload_n 0, 1) := by decide +kernel
theorem dX12_sayPerson_75 : decode cX12_sayPerson 75 = .ok (.getfield 36, 3) := by decide +kernel
theorem dX12_sayPerson_78 : decode cX12_sayPerson 78 = .ok (.iconst 4, 1) := by decide +kernel
theorem dX12_sayPerson_79 : decode cX12_sayPerson 79 = .ok (.dup2, 1) := by decide +kernel
theorem dX12_sayPerson_80 : decode cX12_sayPerson 80 = .ok (.iaload, 1) := by decide +kernel
theorem dX12_sayPerson_81 : decode cX12_sayPerson 81 = .ok (.iconst 1, 1) := by decide +kernel
theorem dX12_sayPerson_82 : decode cX12_sayPerson 82 = .ok (.iadd, 1) := by decide +kernel
theorem dX12_sayPerson_83 : decode cX12_sayPerson 83 = .ok (.iastore, 1) := by decide +kernel
theorem dX12_sayPerson_84 : decode cX12_sayPerson 84 = .ok (.return_, 1) := by decide +kernel
theorem dX12_sayIf_0 : decode cX12_sayIf 0 = .ok (.aload_n 0, 1) := by decide +kernel
theorem dX12_sayIf_1 : decode cX12_sayIf 1 = .ok (.iconst 1, 1) := by decide +kernel
theorem dX12_sayIf_2 : decode cX12_sayIf 2 = .ok (.bipush 12, 2) := by decide +kernel
theorem dX12_sayIf_4 : decode cX12_sayIf 4 = .ok (.invokevirtual 267, 3) := by decide +kernel
theorem dX12_sayIf_7 : decode cX12_sayIf 7 = .ok (.ifCond .ne 4, 3) := by decide +kernel
theorem dX12_sayIf_10 : decode cX12_sayIf 10 = .ok (.return_, 1) := by decide +kernel
theorem dX12_sayIf_11 : decode cX12_sayIf 11 = .ok (.bipush 12, 2) := by decide +kernel
theorem dX12_sayIf_13 : decode cX12_sayIf 13 = .ok (.aload_n 0, 1) := by decide +kernel
theorem dX12_sayIf_14 : decode cX12_sayIf 14 = .ok (.getfield 36, 3) := by decide +kernel
theorem dX12_sayIf_17 : decode cX12_sayIf 17 = .ok (.iconst 5, 1) := by decide +kernel
theorem dX12_sayIf_18 : decode cX12_sayIf 18 = .ok (.iaload, 1) := by decide +kernel
theorem dX12_sayIf_19 : decode cX12_sayIf 19 = .ok (.iadd, 1) := by decide +kernel
theorem dX12_sayIf_20 : decode cX12_sayIf 20 = .ok (.istore_n 2, 1) := by decide +kernel
theorem dX12_sayIf_21 : decode cX12_sayIf 21 = .ok (.aload_n 0, 1) := by decide +kernel
theorem dX12_sayIf_22 : decode cX12_sayIf 22 = .ok (.getfield 55, 3) := by decide +kernel
theorem dX12_sayIf_25 : decode cX12_sayIf 25 = .ok (.iload_n 2, 1) := by decide +kernel
theorem dX12_sayIf_26 : decode cX12_sayIf 26 = .ok (.iload_n 1, 1) := by decide +kernel
theorem dX12_sayIf_27 : decode cX12_sayIf 27 = .ok (.iastore, 1) := by decide +kernel
theorem dX12_sayIf_28 : decode cX12_sayIf 28 = .ok (.aload_n 0, 1) := by decide +kernel
theorem dX12_sayIf_29 : decode cX12_sayIf 29 = .ok (.getfield 58, 3) := by decide +kernel
theorem dX12_sayIf_32 : decode cX12_sayIf 32 = .ok (.iload_n 2, 1) := by decide +kernel
theorem dX12_sayIf_33 : decode cX12_sayIf 33 = .ok (.aload_n 0, 1) := by decide +kernel
theorem dX12_sayIf_34 : decode cX12_sayIf 34 = .ok (.iconst 0, 1) := by decide +kernel
theorem dX12_sayIf_35 : decode cX12_sayIf 35 = .ok (.sipush 1023, 3) := by decide +kernel
theorem dX12_sayIf_38 : decode cX12_sayIf 38 = .ok (.invokevirtual 223, 3) := by decide +kernel
theorem dX12_sayIf_41 : decode cX12_sayIf 41 = .ok (.iastore, 1) := by decide +kernel
theorem dX12_sayIf_42 : decode cX12_sayIf 42 = .ok (.aload_n 0, 1) := by decide +kernel
theorem dX12_sayIf_43 : decode cX12_sayIf 43 = .ok (.getfield 61, 3) := by decide +kernel
theorem dX12_sayIf_46 : decode cX12_sayIf 46 = .ok (.iload_n 2, 1) := by decide +kernel
theorem dX12_sayIf_47 : decode cX12_sayIf 47 = .ok (.aload_n 0, 1) := by decide +kernel
theorem dX12_sayIf_48 : decode cX12_sayIf 48 = .ok (.iconst 0, 1) := by decide +kernel
theorem dX12_sayIf_49 : decode cX12_sayIf 49 = .ok (.sipush 1023, 3) := by decide +kernel
theorem dX12_sayIf_52 : decode cX12_sayIf 52 = .ok (.invokevirtual 223, 3) := by decide +kernel
theorem dX12_sayIf_55 : decode cX12_sayIf 55 = .ok (.iastore, 1) := by decide +kernel
theorem dX12_sayIf_56 : decode cX12_sayIf 56 = .ok (.aload_n 0, 1) := by decide +kernel
theorem dX12_sayIf_57 : decode cX12_sayIf 57 = .ok (.getfield 64, 3) := by decide +kernel
theorem dX12_sayIf_60 : decode cX12_sayIf 60 = .ok (.iload_n 2, 1) := by decide +kernel
theorem dX12_sayIf_61 : decode cX12_sayIf 61 = .ok (.aload_n 0, 1) := by decide +kernel
theorem dX12_sayIf_62 : decode cX12_sayIf 62 = .ok (.iconst 0, 1) := by decide +kernel
theorem dX12_sayIf_63 : decode cX12_sayIf 63 = .ok (.bipush 9, 2) := by decide +kernel
theorem dX12_sayIf_65 : decode cX12_sayIf 65 = .ok (.invokevirtual 223, 3) := by decide +kernel
theorem dX12_sayIf_68 : decode cX12_sayIf 68 = .ok (.iastore, 1) := by decide +kernel
theorem dX12_sayIf_69 : decode cX12_sayIf 69 = .ok (.aload_n 0, 1) := by decide +kernel
theorem dX12_sayIf_70 : decode cX12_sayIf 70 = .ok (.getfield 36, 3) := by decide +kernel
theorem dX12_sayIf_73 : decode cX12_sayIf 73 = .ok (.iconst 5, 1) := by decide +kernel
theorem dX12_sayIf_74 : decode cX12_sayIf 74 = .ok (.dup2, 1) := by decide +kernel
theorem dX12_sayIf_75 : decode cX12_sayIf 75 = .ok (.iaload, 1) := by decide +kernel
theorem dX12_sayIf_76 : decode cX12_sayIf 76 = .ok (.iconst 1, 1) := by decide +kernel
theorem dX12_sayIf_77 : decode cX12_sayIf 77 = .ok (.iadd, 1) := by decide +kernel
theorem dX12_sayIf_78 : decode cX12_sayIf 78 = .ok (.iastore, 1) := by decide +kernel
theorem dX12_sayIf_79 : decode cX12_sayIf 79 = .ok (.return_, 1) := by decide +kernel
theorem dX12_readLine_0 : decode cX12_readLine 0 = .ok (.aload_n 0, 1) := by decide +kernel
theorem dX12_readLine_1 : decode cX12_readLine 1 = .ok (.aload_n 0, 1) := by decide +kernel
theorem dX12_readLine_2 : decode cX12_readLine 2 = .ok (.getfield 15, 3) := by decide +kernel
theorem dX12_readLine_5 : decode cX12_readLine 5 = .ok (.invokevirtual 229, 3) := by decide +kernel
theorem dX12_readLine_8 : decode cX12_readLine 8 = .ok (.istore_n 2, 1) := by decide +kernel
theorem dX12_readLine_9 : decode cX12_readLine 9 = .ok (.aload_n 0, 1) := by decide +kernel
theorem dX12_readLine_10 : decode cX12_readLine 10 = .ok (.ldc_w 270, 3) := by decide +kernel
theorem dX12_readLine_13 : decode cX12_readLine 13 = .ok (.invokevirtual 206, 3) := by decide +kernel
theorem dX12_readLine_16 : decode cX12_readLine 16 = .ok (.ifCond .eq 7, 3) := by decide +kernel
theorem dX12_readLine_19 : decode cX12_readLine 19 = .ok (.iconst 1, 1) := by decide +kernel
theorem dX12_readLine_20 : decode cX12_readLine 20 = .ok (.goto 18, 3) := by decide +kernel
theorem dX12_readLine_23 : decode cX12_readLine 23 = .ok (.aload_n 0, 1) := by decide +kernel
theorem dX12_readLine_24 : decode cX12_readLine 24 = .ok (.ldc_w 272, 3) := by decide +kernel
theorem dX12_readLine_27 : decode cX12_readLine 27 = .ok (.invokevirtual 206, 3) := by decide +kernel
theorem dX12_readLine_30 : decode cX12_readLine 30 = .ok (.ifCond .eq 7, 3) := by decide +kernel
theorem dX12_readLine_33 : decode cX12_readLine 33 = .ok (.iconst 2, 1) := by decide +kernel
theorem dX12_readLine_34 : decode cX12_readLine 34 = .ok (.goto 4, 3) := by decide +kernel
theorem dX12_readLine_37 : decode cX12_readLine 37 = .ok (.iconst 0, 1) := by decide +kernel
theorem dX12_readLine_38 : decode cX12_readLine 38 = .ok (.istore_n 3, 1) := by decide +kernel
theorem dX12_readLine_39 : decode cX12_readLine 39 = .ok (.iload_n 3, 1) := by decide +kernel
theorem dX12_readLine_40 : decode cX12_readLine 40 = .ok (.iload_n 1, 1) := by decide +kernel
theorem dX12_readLine_41 : decode cX12_readLine 41 = .ok (.iand, 1) := by decide +kernel
theorem dX12_readLine_42 : decode cX12_readLine 42 = .ok (.ifCond .eq 8, 3) := by decide +kernel
theorem dX12_readLine_45 : decode cX12_readLine 45 = .ok (.aload_n 0, 1) := by decide +kernel
theorem dX12_readLine_46 : decode cX12_readLine 46 = .ok (.iconst 5, 1) := by decide +kernel
theorem dX12_readLine_47 : decode cX12_readLine 47 = .ok (.invokevirtual 213, 3) := by decide +kernel
theorem dX12_readLine_50 : decode cX12_readLine 50 = .ok (.iload_n 3, 1) := by decide +kernel
theorem dX12_readLine_51 : decode cX12_readLine 51 = .ok (.ifCond .le 44, 3) := by decide +kernel
theorem dX12_readLine_54 : decode cX12_readLine 54 = .ok (.aload_n 0, 1) := by decide +kernel
theorem dX12_readLine_55 : decode cX12_readLine 55 = .ok (.getfield 192, 3) := by decide +kernel
theorem dX12_readLine_58 : decode cX12_readLine 58 = .ok (.ifCond .ne 7, 3) := by decide +kernel
theorem dX12_readLine_61 : decode cX12_readLine 61 = .ok (.aload_n 0, 1) := by decide +kernel
theorem dX12_readLine_62 : decode cX12_readLine 62 = .ok (.invokevirtual 217, 3) := by decide +kernel
theorem dX12_readLine_65 : decode cX12_readLine 65 = .ok (.iload_n 3, 1) := by decide +kernel
theorem dX12_readLine_66 : decode cX12_readLine 66 = .ok (.iconst 1, 1) := by decide +kernel
theorem dX12_readLine_67 : decode cX12_readLine 67 = .ok (.if_icmp .ne 20, 3) := by decide +kernel
theorem dX12_readLine_70 : decode cX12_readLine 70 = .ok (.aload_n 0, 1) := by decide +kernel
theorem dX12_readLine_71 : decode cX12_readLine 71 = .ok (.getfield 36, 3) := by decide +kernel
theorem dX12_readLine_74 : decode cX12_readLine 74 = .ok (.bipush 6, 2) := by decide +kernel
theorem dX12_readLine_76 : decode cX12_readLine 76 = .ok (.aload_n 0, 1) := by decide +kernel
theorem dX12_readLine_77 : decode cX12_readLine 77 = .ok (.iconst 1, 1) := by decide +kernel
theorem dX12_readLine_78 : decode cX12_readLine 78 = .ok (.bipush 8, 2) := by decide +kernel
theorem dX12_readLine_80 : decode cX12_readLine 80 = .ok (.invokevirtual 223, 3) := by decide +kernel
theorem dX12_readLine_83 : decode cX12_readLine 83 = .ok (.iastore, 1) := by decide +kernel
theorem dX12_readLine_84 : decode cX12_readLine 84 = .ok (.goto 63, 3) := by decide +kernel
theorem dX12_readLine_87 : decode cX12_readLine 87 = .ok (.aload_n 0, 1) := by decide +kernel
theorem dX12_readLine_88 : decode cX12_readLine 88 = .ok (.iconst 0, 1) := by decide +kernel
theorem dX12_readLine_89 : decode cX12_readLine 89 = .ok (.invokevirtual 236, 3) := by decide +kernel
theorem dX12_readLine_92 : decode cX12_readLine 92 = .ok (.goto 55, 3) := by decide +kernel
theorem dX12_readLine_95 : decode cX12_readLine 95 = .ok (.iload_n 2, 1) := by decide +kernel
theorem dX12_readLine_96 : decode cX12_readLine 96 = .ok (.iconst (-1), 1) := by decide +kernel
theorem dX12_readLine_97 : decode cX12_readLine 97 = .ok (.if_icmp .eq 11, 3) := by decide +kernel
theorem dX12_readLine_100 : decode cX12_readLine 100 = .ok (.aload_n 0, 1) := by decide +kernel
theorem dX12_readLine_101 : decode cX12_readLine 101 = .ok (.iload_n 2, 1) := by decide +kernel
theorem dX12_readLine_102 : decode cX12_readLine 102 = .ok (.invokevirtual 274, 3) := by decide +kernel
theorem dX12_readLine_105 : decode cX12_readLine 105 = .ok (.goto 42, 3) := by decide +kernel
theorem dX12_readLine_108 : decode cX12_readLine 108 = .ok (.aload_n 0, 1) := by decide +kernel
theorem dX12_readLine_109 : decode cX12_readLine 109 = .ok (.ldc_w 277, 3) := by decide +kernel
theorem dX12_readLine_112 : decode cX12_readLine 112 = .ok (.invokevirtual 206, 3) := by decide +kernel
theorem dX12_readLine_115 : decode cX12_readLine 115 = .ok (.ifCond .eq 10, 3) := by decide +kernel
theorem dX12_readLine_118 : decode cX12_readLine 118 = .ok (.aload_n 0, 1) := by decide +kernel
theorem dX12_readLine_119 : decode cX12_readLine 119 = .ok (.invokevirtual 279, 3) := by decide +kernel
theorem dX12_readLine_122 : decode cX12_readLine 122 = .ok (.goto 25, 3) := by decide +kernel
theorem dX12_readLine_125 : decode cX12_readLine 125 = .ok (.aload_n 0, 1) := by decide +kernel
theorem dX12_readLine_126 : decode cX12_readLine 126 = .ok (.ldc_w 282, 3) := by decide +kernel
theorem dX12_readLine_129 : decode cX12_readLine 129 = .ok (.invokevirtual 206, 3) := by decide +kernel
theorem dX12_readLine_132 : decode cX12_readLine 132 = .ok (.ifCond .eq 10, 3) := by decide +kernel
theorem dX12_readLine_135 : decode cX12_readLine 135 = .ok (.aload_n 0, 1) := by decide +kernel
theorem dX12_readLine_136 : decode cX12_readLine 136 = .ok (.invokevirtual 284, 3) := by decide +kernel
theorem dX12_readLine_139 : decode cX12_readLine 139 = .ok (.goto 8, 3) := by decide +kernel
theorem dX12_readLine_142 : decode cX12_readLine 142 = .ok (.aload_n 0, 1) := by decide +kernel
theorem dX12_readLine_143 : decode cX12_readLine 143 = .ok (.iconst 1, 1) := by decide +kernel
theorem dX12_readLine_144 : decode cX12_readLine 144 = .ok (.invokevirtual 213, 3) := by decide +kernel
theorem dX12_readLine_147 : decode cX12_readLine 147 = .ok (.aload_n 0, 1) := by decide +kernel
theorem dX12_readLine_148 : decode cX12_readLine 148 = .ok (.bipush 59, 2) := by decide +kernel
theorem dX12_readLine_150 : decode cX12_readLine 150 = .ok (.invokevirtual 233, 3) := by decide +kernel
theorem dX12_readLine_153 : decode cX12_readLine 153 = .ok (.iload_n 1, 1) := by decide +kernel
theorem dX12_readLine_154 : decode cX12_readLine 154 = .ok (.iload_n 3, 1) := by decide +kernel
theorem dX12_readLine_155 : decode cX12_readLine 155 = .ok (.ior, 1) := by decide +kernel
theorem dX12_readLine_156 : decode cX12_readLine 156 = .ok (.ireturn, 1) := by decide +kernel
theorem dX12_shore_0 : decode cX12_shore 0 = .ok (.aload_n 0, 1) := by decide +kernel
theorem dX12_shore_1 : decode cX12_shore 1 = .ok (.iconst 0, 1) := by decide +kernel
theorem dX12_shore_2 : decode cX12_shore 2 = .ok (.putfield 139, 3) := by decide +kernel
theorem dX12_shore_5 : decode cX12_shore 5 = .ok (.iload_n 1, 1) := by decide +kernel
theorem dX12_shore_6 : decode cX12_shore 6 = .ok (.ifCond .lt 11, 3) := by decide +kernel
theorem dX12_shore_9 : decode cX12_shore 9 = .ok (.iload_n 1, 1) := by decide +kernel
theorem dX12_shore_10 : decode cX12_shore 10 = .ok (.aload_n 0, 1) := by decide +kernel
theorem dX12_shore_11 : decode cX12_shore 11 = .ok (.getfield 150, 3) := by decide +kernel
theorem dX12_shore_14 : decode cX12_shore 14 = .ok (.if_icmp .le 9, 3) := by decide +kernel
theorem dX12_shore_17 : decode cX12_shore 17 = .ok (.aload_n 0, 1) := by decide +kernel
theorem dX12_shore_18 : decode cX12_shore 18 = .ok (.iconst 1, 1) := by decide +kernel
theorem dX12_shore_19 : decode cX12_shore 19 = .ok (.invokevirtual 287, 3) := by decide +kernel
theorem dX12_shore_22 : decode cX12_shore 22 = .ok (.ireturn, 1) := by decide +kernel
theorem dX12_shore_23 : decode cX12_shore 23 = .ok (.aload_n 0, 1) := by decide +kernel
theorem dX12_shore_24 : decode cX12_shore 24 = .ok (.iconst 0, 1) := by decide +kernel
theorem dX12_shore_25 : decode cX12_shore 25 = .ok (.putfield 150, 3) := by decide +kernel
theorem dX12_shore_28 : decode cX12_shore 28 = .ok (.aload_n 0, 1) := by decide +kernel
theorem dX12_shore_29 : decode cX12_shore 29 = .ok (.iload_n 1, 1) := by decide +kernel
theorem dX12_shore_30 : decode cX12_shore 30 = .ok (.putfield 153, 3) := by decide +kernel
theorem dX12_shore_33 : decode cX12_shore 33 = .ok (.aload_n 0, 1) := by decide +kernel
theorem dX12_shore_34 : decode cX12_shore 34 = .ok (.iconst 0, 1) := by decide +kernel
theorem dX12_shore_35 : decode cX12_shore 35 = .ok (.putfield 156, 3) := by decide +kernel
theorem dX12_shore_38 : decode cX12_shore 38 = .ok (.aload_n 0, 1) := by decide +kernel
theorem dX12_shore_39 : decode cX12_shore 39 = .ok (.iconst 0, 1) := by decide +kernel
theorem dX12_shore_40 : decode cX12_shore 40 = .ok (.putfield 192, 3) := by decide +kernel
theorem dX12_shore_43 : decode cX12_shore 43 = .ok (.aload_n 0, 1) := by decide +kernel
theorem dX12_shore_44 : decode cX12_shore 44 = .ok (.iconst (-1), 1) := by decide +kernel
theorem dX12_shore_45 : decode cX12_shore 45 = .ok (.putfield 76, 3) := by decide +kernel
theorem dX12_shore_48 : decode cX12_shore 48 = .ok (.aload_n 0, 1) := by decide +kernel
theorem dX12_shore_49 : decode cX12_shore 49 = .ok (.iconst 0, 1) := by decide +kernel
theorem dX12_shore_50 : decode cX12_shore 50 = .ok (.putfield 260, 3) := by decide +kernel
theorem dX12_shore_53 : decode cX12_shore 53 = .ok (.iconst 0, 1) := by decide +kernel
theorem dX12_shore_54 : decode cX12_shore 54 = .ok (.istore_n 2, 1) := by decide +kernel
theorem dX12_shore_55 : decode cX12_shore 55 = .ok (.iload_n 2, 1) := by decide +kernel
theorem dX12_shore_56 : decode cX12_shore 56 = .ok (.iconst 4, 1) := by decide +kernel
theorem dX12_shore_57 : decode cX12_shore 57 = .ok (.if_icmp .ge 27, 3) := by decide +kernel
theorem dX12_shore_60 : decode cX12_shore 60 = .ok (.aload_n 0, 1) := by decide +kernel
theorem dX12_shore_61 : decode cX12_shore 61 = .ok (.getfield 36, 3) := by decide +kernel
theorem dX12_shore_64 : decode cX12_shore 64 = .ok (.iconst 4, 1) := by decide +kernel
theorem dX12_shore_65 : decode cX12_shore 65 = .ok (.iload_n 2, 1) := by decide +kernel
theorem dX12_shore_66 : decode cX12_shore 66 = .ok (.iadd, 1) := by decide +kernel
theorem dX12_shore_67 : decode cX12_shore 67 = .ok (.iload_n 2, 1) := by decide +kernel
theorem dX12_shore_68 : decode cX12_shore 68 = .ok (.iconst 2, 1) := by decide +kernel
theorem dX12_shore_69 : decode cX12_shore 69 = .ok (.if_icmp .ne 7, 3) := by decide +kernel
theorem dX12_shore_72 : decode cX12_shore 72 = .ok (.iconst 4, 1) := by decide +kernel
theorem dX12_shore_73 : decode cX12_shore 73 = .ok (.goto 4, 3) := by decide +kernel
theorem dX12_shore_76 : decode cX12_shore 76 = .ok (.iconst 0, 1) := by decide +kernel
theorem dX12_shore_77 : decode cX12_shore 77 = .ok (.iastore, 1) := by decide +kernel
theorem dX12_shore_78 : decode cX12_shore 78 = .ok (.iinc 2 1, 3) := by decide +kernel
theorem dX12_shore_81 : decode cX12_shore 81 = .ok (.goto (-26), 3) := by decide +kernel
theorem dX12_shore_84 : decode cX12_shore 84 = .ok (.iconst 0, 1) := by decide +kernel
theorem dX12_shore_85 : decode cX12_shore 85 = .ok (.istore_n 2, 1) := by decide +kernel
theorem dX12_shore_86 : decode cX12_shore 86 = .ok (.iload_n 2, 1) := by decide +kernel
theorem dX12_shore_87 : decode cX12_shore 87 = .ok (.bipush 10, 2) := by decide +kernel
theorem dX12_shore_89 : decode cX12_shore 89 = .ok (.if_icmp .ge 19, 3) := by decide +kernel
theorem dX12_shore_92 : decode cX12_shore 92 = .ok (.aload_n 0, 1) := by decide +kernel
theorem dX12_shore_93 : decode cX12_shore 93 = .ok (.getfield 40, 3) := by decide +kernel
theorem dX12_shore_96 : decode cX12_shore 96 = .ok (.bipush 10, 2) := by decide +kernel
theorem dX12_shore_98 : decode cX12_shore 98 = .ok (.iload_n 2, 1) := by decide +kernel
theorem dX12_shore_99 : decode cX12_shore 99 = .ok (.iadd, 1) := by decide +kernel
theorem dX12_shore_100 : decode cX12_shore 100 = .ok (.iconst 0, 1) := by decide +kernel
theorem dX12_shore_101 : decode cX12_shore 101 = .ok (.iastore, 1) := by decide +kernel
theorem dX12_shore_102 : decode cX12_shore 102 = .ok (.iinc 2 1, 3) := by decide +kernel
theorem dX12_shore_105 : decode cX12_shore 105 = .ok (.goto (-19), 3) := by decide +kernel
theorem dX12_shore_108 : decode cX12_shore 108 = .ok (.aload_n 0, 1) := by decide +kernel
theorem dX12_shore_109 : decode cX12_shore 109 = .ok (.invokevirtual 217, 3) := by decide +kernel
theorem dX12_shore_112 : decode cX12_shore 112 = .ok (.iconst 0, 1) := by decide +kernel
theorem dX12_shore_113 : decode cX12_shore 113 = .ok (.istore_n 2, 1) := by decide +kernel
theorem dX12_shore_114 : decode cX12_shore 114 = .ok (.aload_n 0, 1) := by decide +kernel
theorem dX12_shore_115 : decode cX12_shore 115 = .ok (.getfield 192, 3) := by decide +kernel
theorem dX12_shore_118 : decode cX12_shore 118 = .ok (.ifCond .ne 19, 3) := by decide +kernel
theorem dX12_shore_121 : decode cX12_shore 121 = .ok (.aload_n 0, 1) := by decide +kernel
theorem dX12_shore_122 : decode cX12_shore 122 = .ok (.getfield 166, 3) := by decide +kernel
theorem dX12_shore_125 : decode cX12_shore 125 = .ok (.ifCond .eq 12, 3) := by decide +kernel
theorem dX12_shore_128 : decode cX12_shore 128 = .ok (.aload_n 0, 1) := by decide +kernel
theorem dX12_shore_129 : decode cX12_shore 129 = .ok (.iload_n 2, 1) := by decide +kernel
theorem dX12_shore_130 : decode cX12_shore 130 = .ok (.invokevirtual 290, 3) := by decide +kernel
theorem dX12_shore_133 : decode cX12_shore 133 = .ok (.istore_n 2, 1) := by decide +kernel
theorem dX12_shore_134 : decode cX12_shore 134 = .ok (.goto (-20), 3) := by decide +kernel
theorem dX12_shore_137 : decode cX12_shore 137 = .ok (.aload_n 0, 1) := by decide +kernel
theorem dX12_shore_138 : decode cX12_shore 138 = .ok (.getfield 192, 3) := by decide +kernel
theorem dX12_shore_141 : decode cX12_shore 141 = .ok (.ifCond .eq 26, 3) := by decide +kernel
theorem dX12_shore_144 : decode cX12_shore 144 = .ok (.aload_n 0, 1) := by decide +kernel
theorem dX12_shore_145 : decode cX12_shore 145 = .ok (.aload_n 0, 1) := by decide +kernel
theorem dX12_shore_146 : decode cX12_shore 146 = .ok (.getfield 195, 3) := by decide +kernel
theorem dX12_shore_149 : decode cX12_shore 149 = .ok (.putfield 76, 3) := by decide +kernel
theorem dX12_shore_152 : decode cX12_shore 152 = .ok (.aload_n 0, 1) := by decide +kernel
theorem dX12_shore_153 : decode cX12_shore 153 = .ok (.getfield 70, 3) := by decide +kernel
theorem dX12_shore_156 : decode cX12_shore 156 = .ok (.iconst 0, 1) := by decide +kernel
theorem dX12_shore_157 : decode cX12_shore 157 = .ok (.dup2, 1) := by decide +kernel
theorem dX12_shore_158 : decode cX12_shore 158 = .ok (.iaload, 1) := by decide +kernel
theorem dX12_shore_159 : decode cX12_shore 159 = .ok (.iconst 1, 1) := by decide +kernel
theorem dX12_shore_160 : decode cX12_shore 160 = .ok (.iadd, 1) := by decide +kernel
theorem dX12_shore_161 : decode cX12_shore 161 = .ok (.iastore, 1) := by decide +kernel
theorem dX12_shore_162 : decode cX12_shore 162 = .ok (.aload_n 0, 1) := by decide +kernel
theorem dX12_shore_163 : decode cX12_shore 163 = .ok (.getfield 192, 3) := by decide +kernel
theorem dX12_shore_166 : decode cX12_shore 166 = .ok (.ireturn, 1) := by decide +kernel
theorem dX12_shore_167 : decode cX12_shore 167 = .ok (.aload_n 0, 1) := by decide +kernel
theorem dX12_shore_168 : decode cX12_shore 168 = .ok (.invokevirtual 293, 3) := by decide +kernel
theorem dX12_shore_171 : decode cX12_shore 171 = .ok (.iconst 0, 1) := by decide +kernel
theorem dX12_shore_172 : decode cX12_shore 172 = .ok (.ireturn, 1) := by decide +kernel
theorem dX12_takeHalf_0 : decode cX12_takeHalf 0 = .ok (.iconst 0, 1) := by decide +kernel
theorem dX12_takeHalf_1 : decode cX12_takeHalf 1 = .ok (.istore_n 1, 1) := by decide +kernel
theorem dX12_takeHalf_2 : decode cX12_takeHalf 2 = .ok (.iload_n 1, 1) := by decide +kernel
theorem dX12_takeHalf_3 : decode cX12_takeHalf 3 = .ok (.aload_n 0, 1) := by decide +kernel
theorem dX12_takeHalf_4 : decode cX12_takeHalf 4 = .ok (.arraylength, 1) := by decide +kernel
theorem dX12_takeHalf_5 : decode cX12_takeHalf 5 = .ok (.iconst 2, 1) := by decide +kernel
theorem dX12_takeHalf_6 : decode cX12_takeHalf 6 = .ok (.idiv, 1) := by decide +kernel
theorem dX12_takeHalf_7 : decode cX12_takeHalf 7 = .ok (.if_icmp .ge 20, 3) := by decide +kernel
theorem dX12_takeHalf_10 : decode cX12_takeHalf 10 = .ok (.aload_n 0, 1) := by decide +kernel
theorem dX12_takeHalf_11 : decode cX12_takeHalf 11 = .ok (.iload_n 1, 1) := by decide +kernel
theorem dX12_takeHalf_12 : decode cX12_takeHalf 12 = .ok (.aload_n 0, 1) := by decide +kernel
theorem dX12_takeHalf_13 : decode cX12_takeHalf 13 = .ok (.aload_n 0, 1) := by decide +kernel
theorem dX12_takeHalf_14 : decode cX12_takeHalf 14 = .ok (.arraylength, 1) := by decide +kernel
theorem dX12_takeHalf_15 : decode cX12_takeHalf 15 = .ok (.iconst 2, 1) := by decide +kernel
theorem dX12_takeHalf_16 : decode cX12_takeHalf 16 = .ok (.idiv, 1) := by decide +kernel
theorem dX12_takeHalf_17 : decode cX12_takeHalf 17 = .ok (.iload_n 1, 1) := by decide +kernel
theorem dX12_takeHalf_18 : decode cX12_takeHalf 18 = .ok (.iadd, 1) := by decide +kernel
theorem dX12_takeHalf_19 : decode cX12_takeHalf 19 = .ok (.iaload, 1) := by decide +kernel
theorem dX12_takeHalf_20 : decode cX12_takeHalf 20 = .ok (.iastore, 1) := by decide +kernel
theorem dX12_takeHalf_21 : decode cX12_takeHalf 21 = .ok (.iinc 1 1, 3) := by decide +kernel
theorem dX12_takeHalf_24 : decode cX12_takeHalf 24 = .ok (.goto (-22), 3) := by decide +kernel
theorem dX12_takeHalf_27 : decode cX12_takeHalf 27 = .ok (.return_, 1) := by decide +kernel
theorem dX12_takeOver_0 : decode cX12_takeOver 0 = .ok (.aload_n 0, 1) := by decide +kernel
theorem dX12_takeOver_1 : decode cX12_takeOver 1 = .ok (.getfield 36, 3) := by decide +kernel
theorem dX12_takeOver_4 : decode cX12_takeOver 4 = .ok (.invokestatic 296, 3) := by decide +kernel
theorem dX12_takeOver_7 : decode cX12_takeOver 7 = .ok (.aload_n 0, 1) := by decide +kernel
theorem dX12_takeOver_8 : decode cX12_takeOver 8 = .ok (.getfield 40, 3) := by decide +kernel
theorem dX12_takeOver_11 : decode cX12_takeOver 11 = .ok (.invokestatic 296, 3) := by decide +kernel
theorem dX12_takeOver_14 : decode cX12_takeOver 14 = .ok (.aload_n 0, 1) := by decide +kernel
theorem dX12_takeOver_15 : decode cX12_takeOver 15 = .ok (.getfield 43, 3) := by decide +kernel
theorem dX12_takeOver_18 : decode cX12_takeOver 18 = .ok (.invokestatic 296, 3) := by decide +kernel
theorem dX12_takeOver_21 : decode cX12_takeOver 21 = .ok (.aload_n 0, 1) := by decide +kernel
theorem dX12_takeOver_22 : decode cX12_takeOver 22 = .ok (.getfield 46, 3) := by decide +kernel
theorem dX12_takeOver_25 : decode cX12_takeOver 25 = .ok (.invokestatic 296, 3) := by decide +kernel
theorem dX12_takeOver_28 : decode cX12_takeOver 28 = .ok (.aload_n 0, 1) := by decide +kernel
theorem dX12_takeOver_29 : decode cX12_takeOver 29 = .ok (.getfield 49, 3) := by decide +kernel
theorem dX12_takeOver_32 : decode cX12_takeOver 32 = .ok (.invokestatic 296, 3) := by decide +kernel
theorem dX12_takeOver_35 : decode cX12_takeOver 35 = .ok (.aload_n 0, 1) := by decide +kernel
theorem dX12_takeOver_36 : decode cX12_takeOver 36 = .ok (.getfield 52, 3) := by decide +kernel
theorem dX12_takeOver_39 : decode cX12_takeOver 39 = .ok (.invokestatic 296, 3) := by decide +kernel
theorem dX12_takeOver_42 : decode cX12_takeOver 42 = .ok (.aload_n 0, 1) := by decide +kernel
theorem dX12_takeOver_43 : decode cX12_takeOver 43 = .ok (.getfield 55, 3) := by decide +kernel
theorem dX12_takeOver_46 : decode cX12_takeOver 46 = .ok (.invokestatic 296, 3) := by decide +kernel
theorem dX12_takeOver_49 : decode cX12_takeOver 49 = .ok (.aload_n 0, 1) := by decide +kernel
theorem dX12_takeOver_50 : decode cX12_takeOver 50 = .ok (.getfield 58, 3) := by decide +kernel
theorem dX12_takeOver_53 : decode cX12_takeOver 53 = .ok (.invokestatic 296, 3) := by decide +kernel
theorem dX12_takeOver_56 : decode cX12_takeOver 56 = .ok (.aload_n 0, 1) := by decide +kernel
theorem dX12_takeOver_57 : decode cX12_takeOver 57 = .ok (.getfield 61, 3) := by decide +kernel
theorem dX12_takeOver_60 : decode cX12_takeOver 60 = .ok (.invokestatic 296, 3) := by decide +kernel
theorem dX12_takeOver_63 : decode cX12_takeOver 63 = .ok (.aload_n 0, 1) := by decide +kernel
theorem dX12_takeOver_64 : decode cX12_takeOver 64 = .ok (.getfield 64, 3) := by decide +kernel
theorem dX12_takeOver_67 : decode cX12_takeOver 67 = .ok (.invokestatic 296, 3) := by decide +kernel
theorem dX12_takeOver_70 : decode cX12_takeOver 70 = .ok (.aload_n 0, 1) := by decide +kernel
theorem dX12_takeOver_71 : decode cX12_takeOver 71 = .ok (.getfield 67, 3) := by decide +kernel
theorem dX12_takeOver_74 : decode cX12_takeOver 74 = .ok (.invokestatic 296, 3) := by decide +kernel
theorem dX12_takeOver_77 : decode cX12_takeOver 77 = .ok (.aload_n 0, 1) := by decide +kernel
theorem dX12_takeOver_78 : decode cX12_takeOver 78 = .ok (.iconst 0, 1) := by decide +kernel
theorem dX12_takeOver_79 : decode cX12_takeOver 79 = .ok (.putfield 300, 3) := by decide +kernel
theorem dX12_takeOver_82 : decode cX12_takeOver 82 = .ok (.aload_n 0, 1) := by decide +kernel
theorem dX12_takeOver_83 : decode cX12_takeOver 83 = .ok (.iconst 0, 1) := by decide +kernel
theorem dX12_takeOver_84 : decode cX12_takeOver 84 = .ok (.putfield 302, 3) := by decide +kernel
theorem dX12_takeOver_87 : decode cX12_takeOver 87 = .ok (.aload_n 0, 1) := by decide +kernel
theorem dX12_takeOver_88 : decode cX12_takeOver 88 = .ok (.iconst 0, 1) := by decide +kernel
theorem dX12_takeOver_89 : decode cX12_takeOver 89 = .ok (.putfield 304, 3) := by decide +kernel
theorem dX12_takeOver_92 : decode cX12_takeOver 92 = .ok (.aload_n 0, 1) := by decide +kernel
theorem dX12_takeOver_93 : decode cX12_takeOver 93 = .ok (.aload_n 0, 1) := by decide +kernel
theorem dX12_takeOver_94 : decode cX12_takeOver 94 = .ok (.getfield 36, 3) := by decide +kernel
theorem dX12_takeOver_97 : decode cX12_takeOver 97 = .ok (.iconst 2, 1) := by decide +kernel
theorem dX12_takeOver_98 : decode cX12_takeOver 98 = .ok (.iaload, 1) := by decide +kernel
theorem dX12_takeOver_99 : decode cX12_takeOver 99 = .ok (.putfield 136, 3) := by decide +kernel
theorem dX12_takeOver_102 : decode cX12_takeOver 102 = .ok (.iconst 0, 1) := by decide +kernel
theorem dX12_takeOver_103 : decode cX12_takeOver 103 = .ok (.istore_n 1, 1) := by decide +kernel
theorem dX12_takeOver_104 : decode cX12_takeOver 104 = .ok (.iload_n 1, 1) := by decide +kernel
theorem dX12_takeOver_105 : decode cX12_takeOver 105 = .ok (.bipush 8, 2) := by decide +kernel
theorem dX12_takeOver_107 : decode cX12_takeOver 107 = .ok (.if_icmp .ge 92, 3) := by decide +kernel
theorem dX12_takeOver_110 : decode cX12_takeOver 110 = .ok (.iload_n 1, 1) := by decide +kernel
theorem dX12_takeOver_111 : decode cX12_takeOver 111 = .ok (.aload_n 0, 1) := by decide +kernel
theorem dX12_takeOver_112 : decode cX12_takeOver 112 = .ok (.getfield 36, 3) := by decide +kernel
theorem dX12_takeOver_115 : decode cX12_takeOver 115 = .ok (.iconst 0, 1) := by decide +kernel
theorem dX12_takeOver_116 : decode cX12_takeOver 116 = .ok (.iaload, 1) := by decide +kernel
theorem dX12_takeOver_117 : decode cX12_takeOver 117 = .ok (.if_icmp .ge 7, 3) := by decide +kernel
theorem dX12_takeOver_120 : decode cX12_takeOver 120 = .ok (.iconst 1, 1) := by decide +kernel
theorem dX12_takeOver_121 : decode cX12_takeOver 121 = .ok (.goto 4, 3) := by decide +kernel
theorem dX12_takeOver_124 : decode cX12_takeOver 124 = .ok (.iconst 0, 1) := by decide +kernel
theorem dX12_takeOver_125 : decode cX12_takeOver 125 = .ok (.istore_n 2, 1) := by decide +kernel
theorem dX12_takeOver_126 : decode cX12_takeOver 126 = .ok (.aload_n 0, 1) := by decide +kernel
theorem dX12_takeOver_127 : decode cX12_takeOver 127 = .ok (.getfield 80, 3) := by decide +kernel
theorem dX12_takeOver_130 : decode cX12_takeOver 130 = .ok (.iload_n 1, 1) := by decide +kernel
theorem dX12_takeOver_131 : decode cX12_takeOver 131 = .ok (.iload_n 2, 1) := by decide +kernel
theorem dX12_takeOver_132 : decode cX12_takeOver 132 = .ok (.ifCond .eq 12, 3) := by decide +kernel
theorem dX12_takeOver_135 : decode cX12_takeOver 135 = .ok (.aload_n 0, 1) := by decide +kernel
theorem dX12_takeOver_136 : decode cX12_takeOver 136 = .ok (.getfield 43, 3) := by decide +kernel
theorem dX12_takeOver_139 : decode cX12_takeOver 139 = .ok (.iload_n 1, 1) := by decide +kernel
theorem dX12_takeOver_140 : decode cX12_takeOver 140 = .ok (.iaload, 1) := by decide +kernel
theorem dX12_takeOver_141 : decode cX12_takeOver 141 = .ok (.goto 4, 3) := by decide +kernel
theorem dX12_takeOver_144 : decode cX12_takeOver 144 = .ok (.iconst 0, 1) := by decide +kernel
theorem dX12_takeOver_145 : decode cX12_takeOver 145 = .ok (.iastore, 1) := by decide +kernel
theorem dX12_takeOver_146 : decode cX12_takeOver 146 = .ok (.aload_n 0, 1) := by decide +kernel
theorem dX12_takeOver_147 : decode cX12_takeOver 147 = .ok (.getfield 83, 3) := by decide +kernel
theorem dX12_takeOver_150 : decode cX12_takeOver 150 = .ok (.iload_n 1, 1) := by decide +kernel
theorem dX12_takeOver_151 : decode cX12_takeOver 151 = .ok (.iload_n 2, 1) := by decide +kernel
theorem dX12_takeOver_152 : decode cX12_takeOver 152 = .ok (.ifCond .eq 12, 3) := by decide +kernel
theorem dX12_takeOver_155 : decode cX12_takeOver 155 = .ok (.aload_n 0, 1) := by decide +kernel
theorem dX12_takeOver_156 : decode cX12_takeOver 156 = .ok (.getfield 46, 3) := by decide +kernel
theorem dX12_takeOver_159 : decode cX12_takeOver 159 = .ok (.iload_n 1, 1) := by decide +kernel
theorem dX12_takeOver_160 : decode cX12_takeOver 160 = .ok (.iaload, 1) := by decide +kernel
theorem dX12_takeOver_161 : decode cX12_takeOver 161 = .ok (.goto 4, 3) := by decide +kernel
theorem dX12_takeOver_164 : decode cX12_takeOver 164 = .ok (.iconst 0, 1) := by decide +kernel
theorem dX12_takeOver_165 : decode cX12_takeOver 165 = .ok (.iastore, 1) := by decide +kernel
theorem dX12_takeOver_166 : decode cX12_takeOver 166 = .ok (.aload_n 0, 1) := by decide +kernel
theorem dX12_takeOver_167 : decode cX12_takeOver 167 = .ok (.getfield 86, 3) := by decide +kernel
theorem dX12_takeOver_170 : decode cX12_takeOver 170 = .ok (.iload_n 1, 1) := by decide +kernel
theorem dX12_takeOver_171 : decode cX12_takeOver 171 = .ok (.iload_n 2, 1) := by decide +kernel
theorem dX12_takeOver_172 : decode cX12_takeOver 172 = .ok (.ifCond .eq 12, 3) := by decide +kernel
theorem dX12_takeOver_175 : decode cX12_takeOver 175 = .ok (.aload_n 0, 1) := by decide +kernel
theorem dX12_takeOver_176 : decode cX12_takeOver 176 = .ok (.getfield 52, 3) := by decide +kernel
theorem dX12_takeOver_179 : decode cX12_takeOver 179 = .ok (.iload_n 1, 1) := by decide +kernel
theorem dX12_takeOver_180 : decode cX12_takeOver 180 = .ok (.iaload, 1) := by decide +kernel
theorem dX12_takeOver_181 : decode cX12_takeOver 181 = .ok (.goto 4, 3) := by decide +kernel
theorem dX12_takeOver_184 : decode cX12_takeOver 184 = .ok (.iconst 0, 1) := by decide +kernel
theorem dX12_takeOver_185 : decode cX12_takeOver 185 = .ok (.iastore, 1) := by decide +kernel
theorem dX12_takeOver_186 : decode cX12_takeOver 186 = .ok (.aload_n 0, 1) := by decide +kernel
theorem dX12_takeOver_187 : decode cX12_takeOver 187 = .ok (.getfield 88, 3) := by decide +kernel
theorem dX12_takeOver_190 : decode cX12_takeOver 190 = .ok (.iload_n 1, 1) := by decide +kernel
theorem dX12_takeOver_191 : decode cX12_takeOver 191 = .ok (.iconst 0, 1) := by decide +kernel
theorem dX12_takeOver_192 : decode cX12_takeOver 192 = .ok (.iastore, 1) := by decide +kernel
theorem dX12_takeOver_193 : decode cX12_takeOver 193 = .ok (.iinc 1 1, 3) := by decide +kernel
theorem dX12_takeOver_196 : decode cX12_takeOver 196 = .ok (.goto (-92), 3) := by decide +kernel
theorem dX12_takeOver_199 : decode cX12_takeOver 199 = .ok (.aload_n 0, 1) := by decide +kernel
theorem dX12_takeOver_200 : decode cX12_takeOver 200 = .ok (.iconst 0, 1) := by decide +kernel
theorem dX12_takeOver_201 : decode cX12_takeOver 201 = .ok (.putfield 307, 3) := by decide +kernel
theorem dX12_takeOver_204 : decode cX12_takeOver 204 = .ok (.aload_n 0, 1) := by decide +kernel
theorem dX12_takeOver_205 : decode cX12_takeOver 205 = .ok (.iconst 0, 1) := by decide +kernel
theorem dX12_takeOver_206 : decode cX12_takeOver 206 = .ok (.putfield 310, 3) := by decide +kernel
theorem dX12_takeOver_209 : decode cX12_takeOver 209 = .ok (.aload_n 0, 1) := by decide +kernel
theorem dX12_takeOver_210 : decode cX12_takeOver 210 = .ok (.iconst 0, 1) := by decide +kernel
theorem dX12_takeOver_211 : decode cX12_takeOver 211 = .ok (.putfield 313, 3) := by decide +kernel
theorem dX12_takeOver_214 : decode cX12_takeOver 214 = .ok (.return_, 1) := by decide +kernel
theorem dX12_fault_0 : decode cX12_fault 0 = .ok (.aload_n 0, 1) := by decide +kernel
theorem dX12_fault_1 : decode cX12_fault 1 = .ok (.iconst 0, 1) := by decide +kernel
theorem dX12_fault_2 : decode cX12_fault 2 = .ok (.putfield 139, 3) := by decide +kernel
theorem dX12_fault_5 : decode cX12_fault 5 = .ok (.aload_n 0, 1) := by decide +kernel
theorem dX12_fault_6 : decode cX12_fault 6 = .ok (.getfield 76, 3) := by decide +kernel
theorem dX12_fault_9 : decode cX12_fault 9 = .ok (.ireturn, 1) := by decide +kernel
theorem dX12_pack_0 : decode cX12_pack 0 = .ok (.aload_n 1, 1) := by decide +kernel
theorem dX12_pack_1 : decode cX12_pack 1 = .ok (.iload_n 2, 1) := by decide +kernel
theorem dX12_pack_2 : decode cX12_pack 2 = .ok (.aload_n 0, 1) := by decide +kernel
theorem dX12_pack_3 : decode cX12_pack 3 = .ok (.getfield 300, 3) := by decide +kernel
theorem dX12_pack_6 : decode cX12_pack 6 = .ok (.iastore, 1) := by decide +kernel
theorem dX12_pack_7 : decode cX12_pack 7 = .ok (.aload_n 1, 1) := by decide +kernel
theorem dX12_pack_8 : decode cX12_pack 8 = .ok (.iload_n 2, 1) := by decide +kernel
theorem dX12_pack_9 : decode cX12_pack 9 = .ok (.iconst 1, 1) := by decide +kernel
theorem dX12_pack_10 : decode cX12_pack 10 = .ok (.iadd, 1) := by decide +kernel
theorem dX12_pack_11 : decode cX12_pack 11 = .ok (.aload_n 0, 1) := by decide +kernel
theorem dX12_pack_12 : decode cX12_pack 12 = .ok (.getfield 302, 3) := by decide +kernel
theorem dX12_pack_15 : decode cX12_pack 15 = .ok (.iastore, 1) := by decide +kernel
theorem dX12_pack_16 : decode cX12_pack 16 = .ok (.aload_n 1, 1) := by decide +kernel
theorem dX12_pack_17 : decode cX12_pack 17 = .ok (.iload_n 2, 1) := by decide +kernel
theorem dX12_pack_18 : decode cX12_pack 18 = .ok (.iconst 2, 1) := by decide +kernel
theorem dX12_pack_19 : decode cX12_pack 19 = .ok (.iadd, 1) := by decide +kernel
theorem dX12_pack_20 : decode cX12_pack 20 = .ok (.aload_n 0, 1) := by decide +kernel
theorem dX12_pack_21 : decode cX12_pack 21 = .ok (.getfield 304, 3) := by decide +kernel
theorem dX12_pack_24 : decode cX12_pack 24 = .ok (.iastore, 1) := by decide +kernel
theorem dX12_pack_25 : decode cX12_pack 25 = .ok (.aload_n 1, 1) := by decide +kernel
theorem dX12_pack_26 : decode cX12_pack 26 = .ok (.iload_n 2, 1) := by decide +kernel
theorem dX12_pack_27 : decode cX12_pack 27 = .ok (.iconst 3, 1) := by decide +kernel
theorem dX12_pack_28 : decode cX12_pack 28 = .ok (.iadd, 1) := by decide +kernel
theorem dX12_pack_29 : decode cX12_pack 29 = .ok (.aload_n 0, 1) := by decide +kernel
theorem dX12_pack_30 : decode cX12_pack 30 = .ok (.getfield 136, 3) := by decide +kernel
theorem dX12_pack_33 : decode cX12_pack 33 = .ok (.iastore, 1) := by decide +kernel
theorem dX12_pack_34 : decode cX12_pack 34 = .ok (.iconst 0, 1) := by decide +kernel
theorem dX12_pack_35 : decode cX12_pack 35 = .ok (.istore_n 3, 1) := by decide +kernel
theorem dX12_pack_36 : decode cX12_pack 36 = .ok (.iload_n 3, 1) := by decide +kernel
theorem dX12_pack_37 : decode cX12_pack 37 = .ok (.bipush 8, 2) := by decide +kernel
theorem dX12_pack_39 : decode cX12_pack 39 = .ok (.if_icmp .ge 70, 3) := by decide +kernel
theorem dX12_pack_42 : decode cX12_pack 42 = .ok (.aload_n 1, 1) := by decide +kernel
theorem dX12_pack_43 : decode cX12_pack 43 = .ok (.iload_n 2, 1) := by decide +kernel
theorem dX12_pack_44 : decode cX12_pack 44 = .ok (.iconst 4, 1) := by decide +kernel
theorem dX12_pack_45 : decode cX12_pack 45 = .ok (.iadd, 1) := by decide +kernel
theorem dX12_pack_46 : decode cX12_pack 46 = .ok (.iload_n 3, 1) := by decide +kernel
theorem dX12_pack_47 : decode cX12_pack 47 = .ok (.iadd, 1) := by decide +kernel
theorem dX12_pack_48 : decode cX12_pack 48 = .ok (.aload_n 0, 1) := by decide +kernel
theorem dX12_pack_49 : decode cX12_pack 49 = .ok (.getfield 80, 3) := by decide +kernel
theorem dX12_pack_52 : decode cX12_pack 52 = .ok (.iload_n 3, 1) := by decide +kernel
theorem dX12_pack_53 : decode cX12_pack 53 = .ok (.iaload, 1) := by decide +kernel
theorem dX12_pack_54 : decode cX12_pack 54 = .ok (.iastore, 1) := by decide +kernel
theorem dX12_pack_55 : decode cX12_pack 55 = .ok (.aload_n 1, 1) := by decide +kernel
theorem dX12_pack_56 : decode cX12_pack 56 = .ok (.iload_n 2, 1) := by decide +kernel
theorem dX12_pack_57 : decode cX12_pack 57 = .ok (.iconst 4, 1) := by decide +kernel
theorem dX12_pack_58 : decode cX12_pack 58 = .ok (.iadd, 1) := by decide +kernel
theorem dX12_pack_59 : decode cX12_pack 59 = .ok (.bipush 8, 2) := by decide +kernel
theorem dX12_pack_61 : decode cX12_pack 61 = .ok (.iadd, 1) := by decide +kernel
theorem dX12_pack_62 : decode cX12_pack 62 = .ok (.iload_n 3, 1) := by decide +kernel
theorem dX12_pack_63 : decode cX12_pack 63 = .ok (.iadd, 1) := by decide +kernel
theorem dX12_pack_64 : decode cX12_pack 64 = .ok (.aload_n 0, 1) := by decide +kernel
theorem dX12_pack_65 : decode cX12_pack 65 = .ok (.getfield 83, 3) := by decide +kernel
theorem dX12_pack_68 : decode cX12_pack 68 = .ok (.iload_n 3, 1) := by decide +kernel
theorem dX12_pack_69 : decode cX12_pack 69 = .ok (.iaload, 1) := by decide +kernel
theorem dX12_pack_70 : decode cX12_pack 70 = .ok (.iastore, 1) := by decide +kernel
theorem dX12_pack_71 : decode cX12_pack 71 = .ok (.aload_n 1, 1) := by decide +kernel
theorem dX12_pack_72 : decode cX12_pack 72 = .ok (.iload_n 2, 1) := by decide +kernel
theorem dX12_pack_73 : decode cX12_pack 73 = .ok (.iconst 4, 1) := by decide +kernel
theorem dX12_pack_74 : decode cX12_pack 74 = .ok (.iadd, 1) := by decide +kernel
theorem dX12_pack_75 : decode cX12_pack 75 = .ok (.bipush 16, 2) := by decide +kernel
theorem dX12_pack_77 : decode cX12_pack 77 = .ok (.iadd, 1) := by decide +kernel
theorem dX12_pack_78 : decode cX12_pack 78 = .ok (.iload_n 3, 1) := by decide +kernel
theorem dX12_pack_79 : decode cX12_pack 79 = .ok (.iadd, 1) := by decide +kernel
theorem dX12_pack_80 : decode cX12_pack 80 = .ok (.aload_n 0, 1) := by decide +kernel
theorem dX12_pack_81 : decode cX12_pack 81 = .ok (.getfield 86, 3) := by decide +kernel
theorem dX12_pack_84 : decode cX12_pack 84 = .ok (.iload_n 3, 1) := by decide +kernel
theorem dX12_pack_85 : decode cX12_pack 85 = .ok (.iaload, 1) := by decide +kernel
theorem dX12_pack_86 : decode cX12_pack 86 = .ok (.iastore, 1) := by decide +kernel
theorem dX12_pack_87 : decode cX12_pack 87 = .ok (.aload_n 1, 1) := by decide +kernel
theorem dX12_pack_88 : decode cX12_pack 88 = .ok (.iload_n 2, 1) := by decide +kernel
theorem dX12_pack_89 : decode cX12_pack 89 = .ok (.iconst 4, 1) := by decide +kernel
theorem dX12_pack_90 : decode cX12_pack 90 = .ok (.iadd, 1) := by decide +kernel
theorem dX12_pack_91 : decode cX12_pack 91 = .ok (.bipush 24, 2) := by decide +kernel
theorem dX12_pack_93 : decode cX12_pack 93 = .ok (.iadd, 1) := by decide +kernel
theorem dX12_pack_94 : decode cX12_pack 94 = .ok (.iload_n 3, 1) := by decide +kernel
theorem dX12_pack_95 : decode cX12_pack 95 = .ok (.iadd, 1) := by decide +kernel
theorem dX12_pack_96 : decode cX12_pack 96 = .ok (.aload_n 0, 1) := by decide +kernel
theorem dX12_pack_97 : decode cX12_pack 97 = .ok (.getfield 88, 3) := by decide +kernel
theorem dX12_pack_100 : decode cX12_pack 100 = .ok (.iload_n 3, 1) := by decide +kernel
theorem dX12_pack_101 : decode cX12_pack 101 = .ok (.iaload, 1) := by decide +kernel
theorem dX12_pack_102 : decode cX12_pack 102 = .ok (.iastore, 1) := by decide +kernel
theorem dX12_pack_103 : decode cX12_pack 103 = .ok (.iinc 3 1, 3) := by decide +kernel
theorem dX12_pack_106 : decode cX12_pack 106 = .ok (.goto (-70), 3) := by decide +kernel
theorem dX12_pack_109 : decode cX12_pack 109 = .ok (.return_, 1) := by decide +kernel
theorem dX12_unpack_0 : decode cX12_unpack 0 = .ok (.aload_n 0, 1) := by decide +kernel
theorem dX12_unpack_1 : decode cX12_unpack 1 = .ok (.aload_n 1, 1) := by decide +kernel
theorem dX12_unpack_2 : decode cX12_unpack 2 = .ok (.iload_n 2, 1) := by decide +kernel
theorem dX12_unpack_3 : decode cX12_unpack 3 = .ok (.iaload, 1) := by decide +kernel
theorem dX12_unpack_4 : decode cX12_unpack 4 = .ok (.putfield 300, 3) := by decide +kernel
theorem dX12_unpack_7 : decode cX12_unpack 7 = .ok (.aload_n 0, 1) := by decide +kernel
theorem dX12_unpack_8 : decode cX12_unpack 8 = .ok (.aload_n 1, 1) := by decide +kernel
theorem dX12_unpack_9 : decode cX12_unpack 9 = .ok (.iload_n 2, 1) := by decide +kernel
theorem dX12_unpack_10 : decode cX12_unpack 10 = .ok (.iconst 1, 1) := by decide +kernel
theorem dX12_unpack_11 : decode cX12_unpack 11 = .ok (.iadd, 1) := by decide +kernel
theorem dX12_unpack_12 : decode cX12_unpack 12 = .ok (.iaload, 1) := by decide +kernel
theorem dX12_unpack_13 : decode cX12_unpack 13 = .ok (.putfield 302, 3) := by decide +kernel
theorem dX12_unpack_16 : decode cX12_unpack 16 = .ok (.aload_n 0, 1) := by decide +kernel
theorem dX12_unpack_17 : decode cX12_unpack 17 = .ok (.aload_n 1, 1) := by decide +kernel
theorem dX12_unpack_18 : decode cX12_unpack 18 = .ok (.iload_n 2, 1) := by decide +kernel
theorem dX12_unpack_19 : decode cX12_unpack 19 = .ok (.iconst 2, 1) := by decide +kernel
theorem dX12_unpack_20 : decode cX12_unpack 20 = .ok (.iadd, 1) := by decide +kernel
theorem dX12_unpack_21 : decode cX12_unpack 21 = .ok (.iaload, 1) := by decide +kernel
theorem dX12_unpack_22 : decode cX12_unpack 22 = .ok (.putfield 304, 3) := by decide +kernel
theorem dX12_unpack_25 : decode cX12_unpack 25 = .ok (.aload_n 0, 1) := by decide +kernel
theorem dX12_unpack_26 : decode cX12_unpack 26 = .ok (.aload_n 1, 1) := by decide +kernel
theorem dX12_unpack_27 : decode cX12_unpack 27 = .ok (.iload_n 2, 1) := by decide +kernel
theorem dX12_unpack_28 : decode cX12_unpack 28 = .ok (.iconst 3, 1) := by decide +kernel
theorem dX12_unpack_29 : decode cX12_unpack 29 = .ok (.iadd, 1) := by decide +kernel
theorem dX12_unpack_30 : decode cX12_unpack 30 = .ok (.iaload, 1) := by decide +kernel
theorem dX12_unpack_31 : decode cX12_unpack 31 = .ok (.putfield 136, 3) := by decide +kernel
theorem dX12_unpack_34 : decode cX12_unpack 34 = .ok (.iconst 0, 1) := by decide +kernel
theorem dX12_unpack_35 : decode cX12_unpack 35 = .ok (.istore_n 3, 1) := by decide +kernel
theorem dX12_unpack_36 : decode cX12_unpack 36 = .ok (.iload_n 3, 1) := by decide +kernel
theorem dX12_unpack_37 : decode cX12_unpack 37 = .ok (.bipush 8, 2) := by decide +kernel
theorem dX12_unpack_39 : decode cX12_unpack 39 = .ok (.if_icmp .ge 70, 3) := by decide +kernel
theorem dX12_unpack_42 : decode cX12_unpack 42 = .ok (.aload_n 0, 1) := by decide +kernel
theorem dX12_unpack_43 : decode cX12_unpack 43 = .ok (.getfield 80, 3) := by decide +kernel
theorem dX12_unpack_46 : decode cX12_unpack 46 = .ok (.iload_n 3, 1) := by decide +kernel
theorem dX12_unpack_47 : decode cX12_unpack 47 = .ok (.aload_n 1, 1) := by decide +kernel
theorem dX12_unpack_48 : decode cX12_unpack 48 = .ok (.iload_n 2, 1) := by decide +kernel
theorem dX12_unpack_49 : decode cX12_unpack 49 = .ok (.iconst 4, 1) := by decide +kernel
theorem dX12_unpack_50 : decode cX12_unpack 50 = .ok (.iadd, 1) := by decide +kernel
theorem dX12_unpack_51 : decode cX12_unpack 51 = .ok (.iload_n 3, 1) := by decide +kernel
theorem dX12_unpack_52 : decode cX12_unpack 52 = .ok (.iadd, 1) := by decide +kernel
theorem dX12_unpack_53 : decode cX12_unpack 53 = .ok (.iaload, 1) := by decide +kernel
theorem dX12_unpack_54 : decode cX12_unpack 54 = .ok (.iastore, 1) := by decide +kernel
theorem dX12_unpack_55 : decode cX12_unpack 55 = .ok (.aload_n 0, 1) := by decide +kernel
theorem dX12_unpack_56 : decode cX12_unpack 56 = .ok (.getfield 83, 3) := by decide +kernel
theorem dX12_unpack_59 : decode cX12_unpack 59 = .ok (.iload_n 3, 1) := by decide +kernel
theorem dX12_unpack_60 : decode cX12_unpack 60 = .ok (.aload_n 1, 1) := by decide +kernel
theorem dX12_unpack_61 : decode cX12_unpack 61 = .ok (.iload_n 2, 1) := by decide +kernel
theorem dX12_unpack_62 : decode cX12_unpack 62 = .ok (.iconst 4, 1) := by decide +kernel
theorem dX12_unpack_63 : decode cX12_unpack 63 = .ok (.iadd, 1) := by decide +kernel
theorem dX12_unpack_64 : decode cX12_unpack 64 = .ok (.bipush 8, 2) := by decide +kernel
theorem dX12_unpack_66 : decode cX12_unpack 66 = .ok (.iadd, 1) := by decide +kernel
theorem dX12_unpack_67 : decode cX12_unpack 67 = .ok (.iload_n 3, 1) := by decide +kernel
theorem dX12_unpack_68 : decode cX12_unpack 68 = .ok (.iadd, 1) := by decide +kernel
theorem dX12_unpack_69 : decode cX12_unpack 69 = .ok (.iaload, 1) := by decide +kernel
theorem dX12_unpack_70 : decode cX12_unpack 70 = .ok (.iastore, 1) := by decide +kernel
theorem dX12_unpack_71 : decode cX12_unpack 71 = .ok (.aload_n 0, 1) := by decide +kernel
theorem dX12_unpack_72 : decode cX12_unpack 72 = .ok (.getfield 86, 3) := by decide +kernel
theorem dX12_unpack_75 : decode cX12_unpack 75 = .ok (.iload_n 3, 1) := by decide +kernel
theorem dX12_unpack_76 : decode cX12_unpack 76 = .ok (.aload_n 1, 1) := by decide +kernel
theorem dX12_unpack_77 : decode cX12_unpack 77 = .ok (.iload_n 2, 1) := by decide +kernel
theorem dX12_unpack_78 : decode cX12_unpack 78 = .ok (.iconst 4, 1) := by decide +kernel
theorem dX12_unpack_79 : decode cX12_unpack 79 = .ok (.iadd, 1) := by decide +kernel
theorem dX12_unpack_80 : decode cX12_unpack 80 = .ok (.bipush 16, 2) := by decide +kernel
theorem dX12_unpack_82 : decode cX12_unpack 82 = .ok (.iadd, 1) := by decide +kernel
theorem dX12_unpack_83 : decode cX12_unpack 83 = .ok (.iload_n 3, 1) := by decide +kernel
theorem dX12_unpack_84 : decode cX12_unpack 84 = .ok (.iadd, 1) := by decide +kernel
theorem dX12_unpack_85 : decode cX12_unpack 85 = .ok (.iaload, 1) := by decide +kernel
theorem dX12_unpack_86 : decode cX12_unpack 86 = .ok (.iastore, 1) := by decide +kernel
theorem dX12_unpack_87 : decode cX12_unpack 87 = .ok (.aload_n 0, 1) := by decide +kernel
theorem dX12_unpack_88 : decode cX12_unpack 88 = .ok (.getfield 88, 3) := by decide +kernel
theorem dX12_unpack_91 : decode cX12_unpack 91 = .ok (.iload_n 3, 1) := by decide +kernel
theorem dX12_unpack_92 : decode cX12_unpack 92 = .ok (.aload_n 1, 1) := by decide +kernel
theorem dX12_unpack_93 : decode cX12_unpack 93 = .ok (.iload_n 2, 1) := by decide +kernel
theorem dX12_unpack_94 : decode cX12_unpack 94 = .ok (.iconst 4, 1) := by decide +kernel
theorem dX12_unpack_95 : decode cX12_unpack 95 = .ok (.iadd, 1) := by decide +kernel
theorem dX12_unpack_96 : decode cX12_unpack 96 = .ok (.bipush 24, 2) := by decide +kernel
theorem dX12_unpack_98 : decode cX12_unpack 98 = .ok (.iadd, 1) := by decide +kernel
theorem dX12_unpack_99 : decode cX12_unpack 99 = .ok (.iload_n 3, 1) := by decide +kernel
theorem dX12_unpack_100 : decode cX12_unpack 100 = .ok (.iadd, 1) := by decide +kernel
theorem dX12_unpack_101 : decode cX12_unpack 101 = .ok (.iaload, 1) := by decide +kernel
theorem dX12_unpack_102 : decode cX12_unpack 102 = .ok (.iastore, 1) := by decide +kernel
theorem dX12_unpack_103 : decode cX12_unpack 103 = .ok (.iinc 3 1, 3) := by decide +kernel
theorem dX12_unpack_106 : decode cX12_unpack 106 = .ok (.goto (-70), 3) := by decide +kernel
theorem dX12_unpack_109 : decode cX12_unpack 109 = .ok (.return_, 1) := by decide +kernel
theorem dX12_brings_0 : decode cX12_brings 0 = .ok (.iload_n 2, 1) := by decide +kernel
theorem dX12_brings_1 : decode cX12_brings 1 = .ok (.aload_n 0, 1) := by decide +kernel
theorem dX12_brings_2 : decode cX12_brings 2 = .ok (.getfield 58, 3) := by decide +kernel
theorem dX12_brings_5 : decode cX12_brings 5 = .ok (.iload_n 1, 1) := by decide +kernel
theorem dX12_brings_6 : decode cX12_brings 6 = .ok (.iaload, 1) := by decide +kernel
theorem dX12_brings_7 : decode cX12_brings 7 = .ok (.iand, 1) := by decide +kernel
theorem dX12_brings_8 : decode cX12_brings 8 = .ok (.aload_n 0, 1) := by decide +kernel
theorem dX12_brings_9 : decode cX12_brings 9 = .ok (.getfield 58, 3) := by decide +kernel
theorem dX12_brings_12 : decode cX12_brings 12 = .ok (.iload_n 1, 1) := by decide +kernel
theorem dX12_brings_13 : decode cX12_brings 13 = .ok (.iaload, 1) := by decide +kernel
theorem dX12_brings_14 : decode cX12_brings 14 = .ok (.if_icmp .ne 7, 3) := by decide +kernel
theorem dX12_brings_17 : decode cX12_brings 17 = .ok (.iconst 1, 1) := by decide +kernel
theorem dX12_brings_18 : decode cX12_brings 18 = .ok (.goto 4, 3) := by decide +kernel
theorem dX12_brings_21 : decode cX12_brings 21 = .ok (.iconst 0, 1) := by decide +kernel
theorem dX12_brings_22 : decode cX12_brings 22 = .ok (.istore_n 3, 1) := by decide +kernel
theorem dX12_brings_23 : decode cX12_brings 23 = .ok (.aload_n 0, 1) := by decide +kernel
theorem dX12_brings_24 : decode cX12_brings 24 = .ok (.getfield 304, 3) := by decide +kernel
theorem dX12_brings_27 : decode cX12_brings 27 = .ok (.iload_n 1, 1) := by decide +kernel
theorem dX12_brings_28 : decode cX12_brings 28 = .ok (.invokestatic 263, 3) := by decide +kernel
theorem dX12_brings_31 : decode cX12_brings 31 = .ok (.ifCond .ne 49, 3) := by decide +kernel
theorem dX12_brings_34 : decode cX12_brings 34 = .ok (.iload_n 3, 1) := by decide +kernel
theorem dX12_brings_35 : decode cX12_brings 35 = .ok (.aload_n 0, 1) := by decide +kernel
theorem dX12_brings_36 : decode cX12_brings 36 = .ok (.getfield 55, 3) := by decide +kernel
theorem dX12_brings_39 : decode cX12_brings 39 = .ok (.iload_n 1, 1) := by decide +kernel
theorem dX12_brings_40 : decode cX12_brings 40 = .ok (.iaload, 1) := by decide +kernel
theorem dX12_brings_41 : decode cX12_brings 41 = .ok (.ifCond .ne 7, 3) := by decide +kernel
theorem dX12_brings_44 : decode cX12_brings 44 = .ok (.iconst 1, 1) := by decide +kernel
theorem dX12_brings_45 : decode cX12_brings 45 = .ok (.goto 4, 3) := by decide +kernel
theorem dX12_brings_48 : decode cX12_brings 48 = .ok (.iconst 0, 1) := by decide +kernel
theorem dX12_brings_49 : decode cX12_brings 49 = .ok (.if_icmp .ne 31, 3) := by decide +kernel
theorem dX12_brings_52 : decode cX12_brings 52 = .ok (.iload_n 2, 1) := by decide +kernel
theorem dX12_brings_53 : decode cX12_brings 53 = .ok (.aload_n 0, 1) := by decide +kernel
theorem dX12_brings_54 : decode cX12_brings 54 = .ok (.getfield 61, 3) := by decide +kernel
theorem dX12_brings_57 : decode cX12_brings 57 = .ok (.iload_n 1, 1) := by decide +kernel
theorem dX12_brings_58 : decode cX12_brings 58 = .ok (.iaload, 1) := by decide +kernel
theorem dX12_brings_59 : decode cX12_brings 59 = .ok (.iand, 1) := by decide +kernel
theorem dX12_brings_60 : decode cX12_brings 60 = .ok (.ifCond .ne 20, 3) := by decide +kernel
theorem dX12_brings_63 : decode cX12_brings 63 = .ok (.iload_n 2, 1) := by decide +kernel
theorem dX12_brings_64 : decode cX12_brings 64 = .ok (.aload_n 0, 1) := by decide +kernel
theorem dX12_brings_65 : decode cX12_brings 65 = .ok (.getfield 64, 3) := by decide +kernel
theorem dX12_brings_68 : decode cX12_brings 68 = .ok (.iload_n 1, 1) := by decide +kernel
theorem dX12_brings_69 : decode cX12_brings 69 = .ok (.iaload, 1) := by decide +kernel
theorem dX12_brings_70 : decode cX12_brings 70 = .ok (.invokestatic 263, 3) := by decide +kernel
theorem dX12_brings_73 : decode cX12_brings 73 = .ok (.ifCond .ne 7, 3) := by decide +kernel
theorem dX12_brings_76 : decode cX12_brings 76 = .ok (.iconst 1, 1) := by decide +kernel
theorem dX12_brings_77 : decode cX12_brings 77 = .ok (.goto 4, 3) := by decide +kernel
theorem dX12_brings_80 : decode cX12_brings 80 = .ok (.iconst 0, 1) := by decide +kernel
theorem dX12_brings_81 : decode cX12_brings 81 = .ok (.ireturn, 1) := by decide +kernel
theorem dX12_firstOf_0 : decode cX12_firstOf 0 = .ok (.iconst 0, 1) := by decide +kernel
theorem dX12_firstOf_1 : decode cX12_firstOf 1 = .ok (.istore_n 2, 1) := by decide +kernel
theorem dX12_firstOf_2 : decode cX12_firstOf 2 = .ok (.iload_n 2, 1) := by decide +kernel
theorem dX12_firstOf_3 : decode cX12_firstOf 3 = .ok (.aload_n 0, 1) := by decide +kernel
theorem dX12_firstOf_4 : decode cX12_firstOf 4 = .ok (.getfield 36, 3) := by decide +kernel
theorem dX12_firstOf_7 : decode cX12_firstOf 7 = .ok (.iconst 1, 1) := by decide +kernel
theorem dX12_firstOf_8 : decode cX12_firstOf 8 = .ok (.iaload, 1) := by decide +kernel
theorem dX12_firstOf_9 : decode cX12_firstOf 9 = .ok (.if_icmp .ge 20, 3) := by decide +kernel
theorem dX12_firstOf_12 : decode cX12_firstOf 12 = .ok (.aload_n 0, 1) := by decide +kernel
theorem dX12_firstOf_13 : decode cX12_firstOf 13 = .ok (.iload_n 2, 1) := by decide +kernel
theorem dX12_firstOf_14 : decode cX12_firstOf 14 = .ok (.iload_n 1, 1) := by decide +kernel
theorem dX12_firstOf_15 : decode cX12_firstOf 15 = .ok (.invokevirtual 317, 3) := by decide +kernel
theorem dX12_firstOf_18 : decode cX12_firstOf 18 = .ok (.ifCond .eq 5, 3) := by decide +kernel
theorem dX12_firstOf_21 : decode cX12_firstOf 21 = .ok (.iload_n 2, 1) := by decide +kernel
theorem dX12_firstOf_22 : decode cX12_firstOf 22 = .ok (.ireturn, 1) := by decide +kernel
theorem dX12_firstOf_23 : decode cX12_firstOf 23 = .ok (.iinc 2 1, 3) := by decide +kernel
theorem dX12_firstOf_26 : decode cX12_firstOf 26 = .ok (.goto (-24), 3) := by decide +kernel
theorem dX12_firstOf_29 : decode cX12_firstOf 29 = .ok (.iconst (-1), 1) := by decide +kernel
theorem dX12_firstOf_30 : decode cX12_firstOf 30 = .ok (.ireturn, 1) := by decide +kernel
theorem dX12_come_0 : decode cX12_come 0 = .ok (.iload_n 1, 1) := by decide +kernel
theorem dX12_come_1 : decode cX12_come 1 = .ok (.istore_n 2, 1) := by decide +kernel
theorem dX12_come_2 : decode cX12_come 2 = .ok (.aload_n 0, 1) := by decide +kernel
theorem dX12_come_3 : decode cX12_come 3 = .ok (.iload_n 2, 1) := by decide +kernel
theorem dX12_come_4 : decode cX12_come 4 = .ok (.invokevirtual 320, 3) := by decide +kernel
theorem dX12_come_7 : decode cX12_come 7 = .ok (.istore_n 3, 1) := by decide +kernel
theorem dX12_come_8 : decode cX12_come 8 = .ok (.iload_n 3, 1) := by decide +kernel
theorem dX12_come_9 : decode cX12_come 9 = .ok (.iconst (-1), 1) := by decide +kernel
theorem dX12_come_10 : decode cX12_come 10 = .ok (.if_icmp .eq 23, 3) := by decide +kernel
theorem dX12_come_13 : decode cX12_come 13 = .ok (.iload_n 2, 1) := by decide +kernel
theorem dX12_come_14 : decode cX12_come 14 = .ok (.iconst 1, 1) := by decide +kernel
theorem dX12_come_15 : decode cX12_come 15 = .ok (.aload_n 0, 1) := by decide +kernel
theorem dX12_come_16 : decode cX12_come 16 = .ok (.getfield 64, 3) := by decide +kernel
theorem dX12_come_19 : decode cX12_come 19 = .ok (.iload_n 3, 1) := by decide +kernel
theorem dX12_come_20 : decode cX12_come 20 = .ok (.iaload, 1) := by decide +kernel
theorem dX12_come_21 : decode cX12_come 21 = .ok (.ishl, 1) := by decide +kernel
theorem dX12_come_22 : decode cX12_come 22 = .ok (.ior, 1) := by decide +kernel
theorem dX12_come_23 : decode cX12_come 23 = .ok (.istore_n 2, 1) := by decide +kernel
theorem dX12_come_24 : decode cX12_come 24 = .ok (.aload_n 0, 1) := by decide +kernel
theorem dX12_come_25 : decode cX12_come 25 = .ok (.iload_n 2, 1) := by decide +kernel
theorem dX12_come_26 : decode cX12_come 26 = .ok (.invokevirtual 320, 3) := by decide +kernel
theorem dX12_come_29 : decode cX12_come 29 = .ok (.istore_n 3, 1) := by decide +kernel
theorem dX12_come_30 : decode cX12_come 30 = .ok (.goto (-22), 3) := by decide +kernel
theorem dX12_come_33 : decode cX12_come 33 = .ok (.iload_n 2, 1) := by decide +kernel
theorem dX12_come_34 : decode cX12_come 34 = .ok (.ireturn, 1) := by decide +kernel
theorem dX12_thereOf_0 : decode cX12_thereOf 0 = .ok (.aload_n 0, 1) := by decide +kernel
theorem dX12_thereOf_1 : decode cX12_thereOf 1 = .ok (.aload_n 0, 1) := by decide +kernel
theorem dX12_thereOf_2 : decode cX12_thereOf 2 = .ok (.getfield 80, 3) := by decide +kernel
theorem dX12_thereOf_5 : decode cX12_thereOf 5 = .ok (.iload_n 1, 1) := by decide +kernel
theorem dX12_thereOf_6 : decode cX12_thereOf 6 = .ok (.iaload, 1) := by decide +kernel
theorem dX12_thereOf_7 : decode cX12_thereOf 7 = .ok (.iconst 1, 1) := by decide +kernel
theorem dX12_thereOf_8 : decode cX12_thereOf 8 = .ok (.aload_n 0, 1) := by decide +kernel
theorem dX12_thereOf_9 : decode cX12_thereOf 9 = .ok (.getfield 83, 3) := by decide +kernel
theorem dX12_thereOf_12 : decode cX12_thereOf 12 = .ok (.iload_n 1, 1) := by decide +kernel
theorem dX12_thereOf_13 : decode cX12_thereOf 13 = .ok (.iaload, 1) := by decide +kernel
theorem dX12_thereOf_14 : decode cX12_thereOf 14 = .ok (.ishl, 1) := by decide +kernel
theorem dX12_thereOf_15 : decode cX12_thereOf 15 = .ok (.ior, 1) := by decide +kernel
theorem dX12_thereOf_16 : decode cX12_thereOf 16 = .ok (.invokevirtual 323, 3) := by decide +kernel
theorem dX12_thereOf_19 : decode cX12_thereOf 19 = .ok (.ireturn, 1) := by decide +kernel
theorem dX12_sparedOf_0 : decode cX12_sparedOf 0 = .ok (.aload_n 0, 1) := by decide +kernel
theorem dX12_sparedOf_1 : decode cX12_sparedOf 1 = .ok (.aload_n 0, 1) := by decide +kernel
theorem dX12_sparedOf_2 : decode cX12_sparedOf 2 = .ok (.getfield 80, 3) := by decide +kernel
theorem dX12_sparedOf_5 : decode cX12_sparedOf 5 = .ok (.iload_n 1, 1) := by decide +kernel
theorem dX12_sparedOf_6 : decode cX12_sparedOf 6 = .ok (.iaload, 1) := by decide +kernel
theorem dX12_sparedOf_7 : decode cX12_sparedOf 7 = .ok (.iconst 1, 1) := by decide +kernel
theorem dX12_sparedOf_8 : decode cX12_sparedOf 8 = .ok (.aload_n 0, 1) := by decide +kernel
theorem dX12_sparedOf_9 : decode cX12_sparedOf 9 = .ok (.getfield 49, 3) := by decide +kernel
theorem dX12_sparedOf_12 : decode cX12_sparedOf 12 = .ok (.iload_n 1, 1) := by decide +kernel
theorem dX12_sparedOf_13 : decode cX12_sparedOf 13 = .ok (.iaload, 1) := by decide +kernel
theorem dX12_sparedOf_14 : decode cX12_sparedOf 14 = .ok (.ishl, 1) := by decide +kernel
theorem dX12_sparedOf_15 : decode cX12_sparedOf 15 = .ok (.iconst (-1), 1) := by decide +kernel
theorem dX12_sparedOf_16 : decode cX12_sparedOf 16 = .ok (.ixor, 1) := by decide +kernel
theorem dX12_sparedOf_17 : decode cX12_sparedOf 17 = .ok (.iand, 1) := by decide +kernel
theorem dX12_sparedOf_18 : decode cX12_sparedOf 18 = .ok (.invokevirtual 323, 3) := by decide +kernel
theorem dX12_sparedOf_21 : decode cX12_sparedOf 21 = .ok (.ireturn, 1) := by decide +kernel
theorem dX12_worthOf_0 : decode cX12_worthOf 0 = .ok (.iconst 0, 1) := by decide +kernel
theorem dX12_worthOf_1 : decode cX12_worthOf 1 = .ok (.istore_n 2, 1) := by decide +kernel
theorem dX12_worthOf_2 : decode cX12_worthOf 2 = .ok (.iconst 0, 1) := by decide +kernel
theorem dX12_worthOf_3 : decode cX12_worthOf 3 = .ok (.istore_n 3, 1) := by decide +kernel
theorem dX12_worthOf_4 : decode cX12_worthOf 4 = .ok (.iload_n 3, 1) := by decide +kernel
theorem dX12_worthOf_5 : decode cX12_worthOf 5 = .ok (.bipush 10, 2) := by decide +kernel
theorem dX12_worthOf_7 : decode cX12_worthOf 7 = .ok (.if_icmp .ge 30, 3) := by decide +kernel
theorem dX12_worthOf_10 : decode cX12_worthOf 10 = .ok (.iload_n 2, 1) := by decide +kernel
theorem dX12_worthOf_11 : decode cX12_worthOf 11 = .ok (.iload_n 1, 1) := by decide +kernel
