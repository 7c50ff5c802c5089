theorem dX9_advance_27 : decode cX9_advance 27 = .ok (.invokestatic 47, 3) := by decide +kernel
theorem dX9_advance_30 : decode cX9_advance 30 = .ok (.ifCond .eq 16, 3) := by decide +kernel
theorem dX9_advance_33 : decode cX9_advance 33 = .ok (.aload_n 0, 1) := by decide +kernel
theorem dX9_advance_34 : decode cX9_advance 34 = .ok (.dup, 1) := by decide +kernel
theorem dX9_advance_35 : decode cX9_advance 35 = .ok (.getfield 28, 3) := by decide +kernel
theorem dX9_advance_38 : decode cX9_advance 38 = .ok (.iconst 1, 1) := by decide +kernel
theorem dX9_advance_39 : decode cX9_advance 39 = .ok (.iadd, 1) := by decide +kernel
theorem dX9_advance_40 : decode cX9_advance 40 = .ok (.putfield 28, 3) := by decide +kernel
theorem dX9_advance_43 : decode cX9_advance 43 = .ok (.goto (-35), 3) := by decide +kernel
theorem dX9_advance_46 : decode cX9_advance 46 = .ok (.aload_n 0, 1) := by decide +kernel
theorem dX9_advance_47 : decode cX9_advance 47 = .ok (.aload_n 0, 1) := by decide +kernel
theorem dX9_advance_48 : decode cX9_advance 48 = .ok (.aload_n 0, 1) := by decide +kernel
theorem dX9_advance_49 : decode cX9_advance 49 = .ok (.getfield 28, 3) := by decide +kernel
theorem dX9_advance_52 : decode cX9_advance 52 = .ok (.invokevirtual 43, 3) := by decide +kernel
theorem dX9_advance_55 : decode cX9_advance 55 = .ok (.putfield 22, 3) := by decide +kernel
theorem dX9_advance_58 : decode cX9_advance 58 = .ok (.aload_n 0, 1) := by decide +kernel
theorem dX9_advance_59 : decode cX9_advance 59 = .ok (.aload_n 0, 1) := by decide +kernel
theorem dX9_advance_60 : decode cX9_advance 60 = .ok (.getfield 22, 3) := by decide +kernel
theorem dX9_advance_63 : decode cX9_advance 63 = .ok (.invokestatic 51, 3) := by decide +kernel
theorem dX9_advance_66 : decode cX9_advance 66 = .ok (.putfield 31, 3) := by decide +kernel
theorem dX9_advance_69 : decode cX9_advance 69 = .ok (.aload_n 0, 1) := by decide +kernel
theorem dX9_advance_70 : decode cX9_advance 70 = .ok (.aload_n 0, 1) := by decide +kernel
theorem dX9_advance_71 : decode cX9_advance 71 = .ok (.getfield 28, 3) := by decide +kernel
theorem dX9_advance_74 : decode cX9_advance 74 = .ok (.iconst 1, 1) := by decide +kernel
theorem dX9_advance_75 : decode cX9_advance 75 = .ok (.iadd, 1) := by decide +kernel
theorem dX9_advance_76 : decode cX9_advance 76 = .ok (.aload_n 0, 1) := by decide +kernel
theorem dX9_advance_77 : decode cX9_advance 77 = .ok (.getfield 15, 3) := by decide +kernel
theorem dX9_advance_80 : decode cX9_advance 80 = .ok (.invokestatic 34, 3) := by decide +kernel
theorem dX9_advance_83 : decode cX9_advance 83 = .ok (.putfield 19, 3) := by decide +kernel
theorem dX9_advance_86 : decode cX9_advance 86 = .ok (.aload_n 0, 1) := by decide +kernel
theorem dX9_advance_87 : decode cX9_advance 87 = .ok (.getfield 31, 3) := by decide +kernel
theorem dX9_advance_90 : decode cX9_advance 90 = .ok (.iconst 1, 1) := by decide +kernel
theorem dX9_advance_91 : decode cX9_advance 91 = .ok (.if_icmp .eq 11, 3) := by decide +kernel
theorem dX9_advance_94 : decode cX9_advance 94 = .ok (.aload_n 0, 1) := by decide +kernel
theorem dX9_advance_95 : decode cX9_advance 95 = .ok (.getfield 31, 3) := by decide +kernel
theorem dX9_advance_98 : decode cX9_advance 98 = .ok (.iconst 2, 1) := by decide +kernel
theorem dX9_advance_99 : decode cX9_advance 99 = .ok (.if_icmp .ne 45, 3) := by decide +kernel
theorem dX9_advance_102 : decode cX9_advance 102 = .ok (.aload_n 0, 1) := by decide +kernel
theorem dX9_advance_103 : decode cX9_advance 103 = .ok (.getfield 19, 3) := by decide +kernel
theorem dX9_advance_106 : decode cX9_advance 106 = .ok (.aload_n 0, 1) := by decide +kernel
theorem dX9_advance_107 : decode cX9_advance 107 = .ok (.getfield 15, 3) := by decide +kernel
theorem dX9_advance_110 : decode cX9_advance 110 = .ok (.if_icmp .ge 34, 3) := by decide +kernel
theorem dX9_advance_113 : decode cX9_advance 113 = .ok (.aload_n 0, 1) := by decide +kernel
theorem dX9_advance_114 : decode cX9_advance 114 = .ok (.aload_n 0, 1) := by decide +kernel
theorem dX9_advance_115 : decode cX9_advance 115 = .ok (.getfield 19, 3) := by decide +kernel
theorem dX9_advance_118 : decode cX9_advance 118 = .ok (.invokevirtual 43, 3) := by decide +kernel
theorem dX9_advance_121 : decode cX9_advance 121 = .ok (.invokestatic 51, 3) := by decide +kernel
theorem dX9_advance_124 : decode cX9_advance 124 = .ok (.aload_n 0, 1) := by decide +kernel
theorem dX9_advance_125 : decode cX9_advance 125 = .ok (.getfield 31, 3) := by decide +kernel
theorem dX9_advance_128 : decode cX9_advance 128 = .ok (.if_icmp .ne 16, 3) := by decide +kernel
theorem dX9_advance_131 : decode cX9_advance 131 = .ok (.aload_n 0, 1) := by decide +kernel
theorem dX9_advance_132 : decode cX9_advance 132 = .ok (.dup, 1) := by decide +kernel
theorem dX9_advance_133 : decode cX9_advance 133 = .ok (.getfield 19, 3) := by decide +kernel
theorem dX9_advance_136 : decode cX9_advance 136 = .ok (.iconst 1, 1) := by decide +kernel
theorem dX9_advance_137 : decode cX9_advance 137 = .ok (.iadd, 1) := by decide +kernel
theorem dX9_advance_138 : decode cX9_advance 138 = .ok (.putfield 19, 3) := by decide +kernel
theorem dX9_advance_141 : decode cX9_advance 141 = .ok (.goto (-39), 3) := by decide +kernel
theorem dX9_advance_144 : decode cX9_advance 144 = .ok (.return_, 1) := by decide +kernel
theorem dX9_byteAt_0 : decode cX9_byteAt 0 = .ok (.iload_n 1, 1) := by decide +kernel
theorem dX9_byteAt_1 : decode cX9_byteAt 1 = .ok (.ifCond .lt 24, 3) := by decide +kernel
theorem dX9_byteAt_4 : decode cX9_byteAt 4 = .ok (.iload_n 1, 1) := by decide +kernel
theorem dX9_byteAt_5 : decode cX9_byteAt 5 = .ok (.aload_n 0, 1) := by decide +kernel
theorem dX9_byteAt_6 : decode cX9_byteAt 6 = .ok (.getfield 15, 3) := by decide +kernel
theorem dX9_byteAt_9 : decode cX9_byteAt 9 = .ok (.if_icmp .ge 16, 3) := by decide +kernel
theorem dX9_byteAt_12 : decode cX9_byteAt 12 = .ok (.aload_n 0, 1) := by decide +kernel
theorem dX9_byteAt_13 : decode cX9_byteAt 13 = .ok (.getfield 9, 3) := by decide +kernel
theorem dX9_byteAt_16 : decode cX9_byteAt 16 = .ok (.iload_n 1, 1) := by decide +kernel
theorem dX9_byteAt_17 : decode cX9_byteAt 17 = .ok (.baload, 1) := by decide +kernel
theorem dX9_byteAt_18 : decode cX9_byteAt 18 = .ok (.sipush 255, 3) := by decide +kernel
theorem dX9_byteAt_21 : decode cX9_byteAt 21 = .ok (.iand, 1) := by decide +kernel
theorem dX9_byteAt_22 : decode cX9_byteAt 22 = .ok (.goto 4, 3) := by decide +kernel
theorem dX9_byteAt_25 : decode cX9_byteAt 25 = .ok (.iconst (-1), 1) := by decide +kernel
theorem dX9_byteAt_26 : decode cX9_byteAt 26 = .ok (.ireturn, 1) := by decide +kernel
theorem dX9_isBlank_0 : decode cX9_isBlank 0 = .ok (.iload_n 0, 1) := by decide +kernel
theorem dX9_isBlank_1 : decode cX9_isBlank 1 = .ok (.bipush 32, 2) := by decide +kernel
theorem dX9_isBlank_3 : decode cX9_isBlank 3 = .ok (.if_icmp .eq 9, 3) := by decide +kernel
theorem dX9_isBlank_6 : decode cX9_isBlank 6 = .ok (.iload_n 0, 1) := by decide +kernel
theorem dX9_isBlank_7 : decode cX9_isBlank 7 = .ok (.bipush 10, 2) := by decide +kernel
theorem dX9_isBlank_9 : decode cX9_isBlank 9 = .ok (.if_icmp .ne 7, 3) := by decide +kernel
theorem dX9_isBlank_12 : decode cX9_isBlank 12 = .ok (.iconst 1, 1) := by decide +kernel
theorem dX9_isBlank_13 : decode cX9_isBlank 13 = .ok (.goto 4, 3) := by decide +kernel
theorem dX9_isBlank_16 : decode cX9_isBlank 16 = .ok (.iconst 0, 1) := by decide +kernel
theorem dX9_isBlank_17 : decode cX9_isBlank 17 = .ok (.ireturn, 1) := by decide +kernel
theorem dX9_kindOf_0 : decode cX9_kindOf 0 = .ok (.iload_n 0, 1) := by decide +kernel
theorem dX9_kindOf_1 : decode cX9_kindOf 1 = .ok (.iconst (-1), 1) := by decide +kernel
theorem dX9_kindOf_2 : decode cX9_kindOf 2 = .ok (.if_icmp .ne 5, 3) := by decide +kernel
theorem dX9_kindOf_5 : decode cX9_kindOf 5 = .ok (.iconst 0, 1) := by decide +kernel
theorem dX9_kindOf_6 : decode cX9_kindOf 6 = .ok (.ireturn, 1) := by decide +kernel
theorem dX9_kindOf_7 : decode cX9_kindOf 7 = .ok (.iload_n 0, 1) := by decide +kernel
theorem dX9_kindOf_8 : decode cX9_kindOf 8 = .ok (.bipush 97, 2) := by decide +kernel
theorem dX9_kindOf_10 : decode cX9_kindOf 10 = .ok (.if_icmp .lt 11, 3) := by decide +kernel
theorem dX9_kindOf_13 : decode cX9_kindOf 13 = .ok (.iload_n 0, 1) := by decide +kernel
theorem dX9_kindOf_14 : decode cX9_kindOf 14 = .ok (.bipush 122, 2) := by decide +kernel
theorem dX9_kindOf_16 : decode cX9_kindOf 16 = .ok (.if_icmp .gt 5, 3) := by decide +kernel
theorem dX9_kindOf_19 : decode cX9_kindOf 19 = .ok (.iconst 1, 1) := by decide +kernel
theorem dX9_kindOf_20 : decode cX9_kindOf 20 = .ok (.ireturn, 1) := by decide +kernel
theorem dX9_kindOf_21 : decode cX9_kindOf 21 = .ok (.iload_n 0, 1) := by decide +kernel
theorem dX9_kindOf_22 : decode cX9_kindOf 22 = .ok (.bipush 48, 2) := by decide +kernel
theorem dX9_kindOf_24 : decode cX9_kindOf 24 = .ok (.if_icmp .lt 11, 3) := by decide +kernel
theorem dX9_kindOf_27 : decode cX9_kindOf 27 = .ok (.iload_n 0, 1) := by decide +kernel
theorem dX9_kindOf_28 : decode cX9_kindOf 28 = .ok (.bipush 57, 2) := by decide +kernel
theorem dX9_kindOf_30 : decode cX9_kindOf 30 = .ok (.if_icmp .gt 5, 3) := by decide +kernel
theorem dX9_kindOf_33 : decode cX9_kindOf 33 = .ok (.iconst 2, 1) := by decide +kernel
theorem dX9_kindOf_34 : decode cX9_kindOf 34 = .ok (.ireturn, 1) := by decide +kernel
theorem dX9_kindOf_35 : decode cX9_kindOf 35 = .ok (.ldc 54, 2) := by decide +kernel
theorem dX9_kindOf_37 : decode cX9_kindOf 37 = .ok (.iload_n 0, 1) := by decide +kernel
theorem dX9_kindOf_38 : decode cX9_kindOf 38 = .ok (.i2c, 1) := by decide +kernel
theorem dX9_kindOf_39 : decode cX9_kindOf 39 = .ok (.invokevirtual 56, 3) := by decide +kernel
theorem dX9_kindOf_42 : decode cX9_kindOf 42 = .ok (.ifCond .lt 7, 3) := by decide +kernel
theorem dX9_kindOf_45 : decode cX9_kindOf 45 = .ok (.iconst 3, 1) := by decide +kernel
theorem dX9_kindOf_46 : decode cX9_kindOf 46 = .ok (.goto 4, 3) := by decide +kernel
theorem dX9_kindOf_49 : decode cX9_kindOf 49 = .ok (.iconst 4, 1) := by decide +kernel
theorem dX9_kindOf_50 : decode cX9_kindOf 50 = .ok (.ireturn, 1) := by decide +kernel
theorem dX9_wordIs_0 : decode cX9_wordIs 0 = .ok (.aload_n 0, 1) := by decide +kernel
theorem dX9_wordIs_1 : decode cX9_wordIs 1 = .ok (.getfield 31, 3) := by decide +kernel
theorem dX9_wordIs_4 : decode cX9_wordIs 4 = .ok (.iconst 1, 1) := by decide +kernel
theorem dX9_wordIs_5 : decode cX9_wordIs 5 = .ok (.if_icmp .ne 19, 3) := by decide +kernel
theorem dX9_wordIs_8 : decode cX9_wordIs 8 = .ok (.aload_n 0, 1) := by decide +kernel
theorem dX9_wordIs_9 : decode cX9_wordIs 9 = .ok (.getfield 19, 3) := by decide +kernel
theorem dX9_wordIs_12 : decode cX9_wordIs 12 = .ok (.aload_n 0, 1) := by decide +kernel
theorem dX9_wordIs_13 : decode cX9_wordIs 13 = .ok (.getfield 28, 3) := by decide +kernel
theorem dX9_wordIs_16 : decode cX9_wordIs 16 = .ok (.isub, 1) := by decide +kernel
theorem dX9_wordIs_17 : decode cX9_wordIs 17 = .ok (.aload_n 1, 1) := by decide +kernel
theorem dX9_wordIs_18 : decode cX9_wordIs 18 = .ok (.invokevirtual 61, 3) := by decide +kernel
theorem dX9_wordIs_21 : decode cX9_wordIs 21 = .ok (.if_icmp .eq 5, 3) := by decide +kernel
theorem dX9_wordIs_24 : decode cX9_wordIs 24 = .ok (.iconst 0, 1) := by decide +kernel
theorem dX9_wordIs_25 : decode cX9_wordIs 25 = .ok (.ireturn, 1) := by decide +kernel
theorem dX9_wordIs_26 : decode cX9_wordIs 26 = .ok (.iconst 0, 1) := by decide +kernel
theorem dX9_wordIs_27 : decode cX9_wordIs 27 = .ok (.istore_n 2, 1) := by decide +kernel
theorem dX9_wordIs_28 : decode cX9_wordIs 28 = .ok (.iload_n 2, 1) := by decide +kernel
theorem dX9_wordIs_29 : decode cX9_wordIs 29 = .ok (.aload_n 1, 1) := by decide +kernel
theorem dX9_wordIs_30 : decode cX9_wordIs 30 = .ok (.invokevirtual 61, 3) := by decide +kernel
theorem dX9_wordIs_33 : decode cX9_wordIs 33 = .ok (.if_icmp .ge 29, 3) := by decide +kernel
theorem dX9_wordIs_36 : decode cX9_wordIs 36 = .ok (.aload_n 0, 1) := by decide +kernel
theorem dX9_wordIs_37 : decode cX9_wordIs 37 = .ok (.aload_n 0, 1) := by decide +kernel
theorem dX9_wordIs_38 : decode cX9_wordIs 38 = .ok (.getfield 28, 3) := by decide +kernel
theorem dX9_wordIs_41 : decode cX9_wordIs 41 = .ok (.iload_n 2, 1) := by decide +kernel
theorem dX9_wordIs_42 : decode cX9_wordIs 42 = .ok (.iadd, 1) := by decide +kernel
theorem dX9_wordIs_43 : decode cX9_wordIs 43 = .ok (.invokevirtual 43, 3) := by decide +kernel
theorem dX9_wordIs_46 : decode cX9_wordIs 46 = .ok (.aload_n 1, 1) := by decide +kernel
theorem dX9_wordIs_47 : decode cX9_wordIs 47 = .ok (.iload_n 2, 1) := by decide +kernel
theorem dX9_wordIs_48 : decode cX9_wordIs 48 = .ok (.invokevirtual 64, 3) := by decide +kernel
theorem dX9_wordIs_51 : decode cX9_wordIs 51 = .ok (.if_icmp .eq 5, 3) := by decide +kernel
theorem dX9_wordIs_54 : decode cX9_wordIs 54 = .ok (.iconst 0, 1) := by decide +kernel
theorem dX9_wordIs_55 : decode cX9_wordIs 55 = .ok (.ireturn, 1) := by decide +kernel
theorem dX9_wordIs_56 : decode cX9_wordIs 56 = .ok (.iinc 2 1, 3) := by decide +kernel
theorem dX9_wordIs_59 : decode cX9_wordIs 59 = .ok (.goto (-31), 3) := by decide +kernel
theorem dX9_wordIs_62 : decode cX9_wordIs 62 = .ok (.iconst 1, 1) := by decide +kernel
theorem dX9_wordIs_63 : decode cX9_wordIs 63 = .ok (.ireturn, 1) := by decide +kernel
theorem dX9_signIs_0 : decode cX9_signIs 0 = .ok (.aload_n 0, 1) := by decide +kernel
theorem dX9_signIs_1 : decode cX9_signIs 1 = .ok (.getfield 31, 3) := by decide +kernel
theorem dX9_signIs_4 : decode cX9_signIs 4 = .ok (.iconst 3, 1) := by decide +kernel
theorem dX9_signIs_5 : decode cX9_signIs 5 = .ok (.if_icmp .ne 15, 3) := by decide +kernel
theorem dX9_signIs_8 : decode cX9_signIs 8 = .ok (.aload_n 0, 1) := by decide +kernel
theorem dX9_signIs_9 : decode cX9_signIs 9 = .ok (.getfield 22, 3) := by decide +kernel
theorem dX9_signIs_12 : decode cX9_signIs 12 = .ok (.iload_n 1, 1) := by decide +kernel
theorem dX9_signIs_13 : decode cX9_signIs 13 = .ok (.if_icmp .ne 7, 3) := by decide +kernel
theorem dX9_signIs_16 : decode cX9_signIs 16 = .ok (.iconst 1, 1) := by decide +kernel
theorem dX9_signIs_17 : decode cX9_signIs 17 = .ok (.goto 4, 3) := by decide +kernel
theorem dX9_signIs_20 : decode cX9_signIs 20 = .ok (.iconst 0, 1) := by decide +kernel
theorem dX9_signIs_21 : decode cX9_signIs 21 = .ok (.ireturn, 1) := by decide +kernel
theorem dX9_numberHere_0 : decode cX9_numberHere 0 = .ok (.aload_n 0, 1) := by decide +kernel
theorem dX9_numberHere_1 : decode cX9_numberHere 1 = .ok (.getfield 31, 3) := by decide +kernel
theorem dX9_numberHere_4 : decode cX9_numberHere 4 = .ok (.iconst 2, 1) := by decide +kernel
theorem dX9_numberHere_5 : decode cX9_numberHere 5 = .ok (.if_icmp .ne 16, 3) := by decide +kernel
theorem dX9_numberHere_8 : decode cX9_numberHere 8 = .ok (.aload_n 0, 1) := by decide +kernel
theorem dX9_numberHere_9 : decode cX9_numberHere 9 = .ok (.getfield 19, 3) := by decide +kernel
theorem dX9_numberHere_12 : decode cX9_numberHere 12 = .ok (.aload_n 0, 1) := by decide +kernel
theorem dX9_numberHere_13 : decode cX9_numberHere 13 = .ok (.getfield 28, 3) := by decide +kernel
theorem dX9_numberHere_16 : decode cX9_numberHere 16 = .ok (.isub, 1) := by decide +kernel
theorem dX9_numberHere_17 : decode cX9_numberHere 17 = .ok (.iconst 4, 1) := by decide +kernel
theorem dX9_numberHere_18 : decode cX9_numberHere 18 = .ok (.if_icmp .le 5, 3) := by decide +kernel
theorem dX9_numberHere_21 : decode cX9_numberHere 21 = .ok (.iconst (-1), 1) := by decide +kernel
theorem dX9_numberHere_22 : decode cX9_numberHere 22 = .ok (.ireturn, 1) := by decide +kernel
theorem dX9_numberHere_23 : decode cX9_numberHere 23 = .ok (.iconst 0, 1) := by decide +kernel
theorem dX9_numberHere_24 : decode cX9_numberHere 24 = .ok (.istore_n 1, 1) := by decide +kernel
theorem dX9_numberHere_25 : decode cX9_numberHere 25 = .ok (.aload_n 0, 1) := by decide +kernel
theorem dX9_numberHere_26 : decode cX9_numberHere 26 = .ok (.getfield 28, 3) := by decide +kernel
theorem dX9_numberHere_29 : decode cX9_numberHere 29 = .ok (.istore_n 2, 1) := by decide +kernel
theorem dX9_numberHere_30 : decode cX9_numberHere 30 = .ok (.iload_n 2, 1) := by decide +kernel
theorem dX9_numberHere_31 : decode cX9_numberHere 31 = .ok (.aload_n 0, 1) := by decide +kernel
theorem dX9_numberHere_32 : decode cX9_numberHere 32 = .ok (.getfield 19, 3) := by decide +kernel
theorem dX9_numberHere_35 : decode cX9_numberHere 35 = .ok (.if_icmp .ge 23, 3) := by decide +kernel
theorem dX9_numberHere_38 : decode cX9_numberHere 38 = .ok (.iload_n 1, 1) := by decide +kernel
theorem dX9_numberHere_39 : decode cX9_numberHere 39 = .ok (.bipush 10, 2) := by decide +kernel
theorem dX9_numberHere_41 : decode cX9_numberHere 41 = .ok (.imul, 1) := by decide +kernel
theorem dX9_numberHere_42 : decode cX9_numberHere 42 = .ok (.aload_n 0, 1) := by decide +kernel
theorem dX9_numberHere_43 : decode cX9_numberHere 43 = .ok (.iload_n 2, 1) := by decide +kernel
theorem dX9_numberHere_44 : decode cX9_numberHere 44 = .ok (.invokevirtual 43, 3) := by decide +kernel
theorem dX9_numberHere_47 : decode cX9_numberHere 47 = .ok (.iadd, 1) := by decide +kernel
theorem dX9_numberHere_48 : decode cX9_numberHere 48 = .ok (.bipush 48, 2) := by decide +kernel
theorem dX9_numberHere_50 : decode cX9_numberHere 50 = .ok (.isub, 1) := by decide +kernel
theorem dX9_numberHere_51 : decode cX9_numberHere 51 = .ok (.istore_n 1, 1) := by decide +kernel
theorem dX9_numberHere_52 : decode cX9_numberHere 52 = .ok (.iinc 2 1, 3) := by decide +kernel
theorem dX9_numberHere_55 : decode cX9_numberHere 55 = .ok (.goto (-25), 3) := by decide +kernel
theorem dX9_numberHere_58 : decode cX9_numberHere 58 = .ok (.iload_n 1, 1) := by decide +kernel
theorem dX9_numberHere_59 : decode cX9_numberHere 59 = .ok (.ireturn, 1) := by decide +kernel
theorem dX10_init_0 : decode cX10_init 0 = .ok (.aload_n 0, 1) := by decide +kernel
theorem dX10_init_1 : decode cX10_init 1 = .ok (.invokespecial 3, 3) := by decide +kernel
theorem dX10_init_4 : decode cX10_init 4 = .ok (.aload_n 0, 1) := by decide +kernel
theorem dX10_init_5 : decode cX10_init 5 = .ok (.new 9, 3) := by decide +kernel
theorem dX10_init_8 : decode cX10_init 8 = .ok (.dup, 1) := by decide +kernel
theorem dX10_init_9 : decode cX10_init 9 = .ok (.invokespecial 11, 3) := by decide +kernel
theorem dX10_init_12 : decode cX10_init 12 = .ok (.putfield 12, 3) := by decide +kernel
theorem dX10_init_15 : decode cX10_init 15 = .ok (.aload_n 0, 1) := by decide +kernel
theorem dX10_init_16 : decode cX10_init 16 = .ok (.bipush 8, 2) := by decide +kernel
theorem dX10_init_18 : decode cX10_init 18 = .ok (.newarray .int, 2) := by decide +kernel
theorem dX10_init_20 : decode cX10_init 20 = .ok (.putfield 18, 3) := by decide +kernel
theorem dX10_init_23 : decode cX10_init 23 = .ok (.aload_n 0, 1) := by decide +kernel
theorem dX10_init_24 : decode cX10_init 24 = .ok (.bipush 8, 2) := by decide +kernel
theorem dX10_init_26 : decode cX10_init 26 = .ok (.newarray .int, 2) := by decide +kernel
theorem dX10_init_28 : decode cX10_init 28 = .ok (.putfield 22, 3) := by decide +kernel
theorem dX10_init_31 : decode cX10_init 31 = .ok (.aload_n 0, 1) := by decide +kernel
theorem dX10_init_32 : decode cX10_init 32 = .ok (.bipush 8, 2) := by decide +kernel
theorem dX10_init_34 : decode cX10_init 34 = .ok (.newarray .int, 2) := by decide +kernel
theorem dX10_init_36 : decode cX10_init 36 = .ok (.putfield 25, 3) := by decide +kernel
theorem dX10_init_39 : decode cX10_init 39 = .ok (.aload_n 0, 1) := by decide +kernel
theorem dX10_init_40 : decode cX10_init 40 = .ok (.bipush 8, 2) := by decide +kernel
theorem dX10_init_42 : decode cX10_init 42 = .ok (.newarray .int, 2) := by decide +kernel
theorem dX10_init_44 : decode cX10_init 44 = .ok (.putfield 28, 3) := by decide +kernel
theorem dX10_init_47 : decode cX10_init 47 = .ok (.aload_n 0, 1) := by decide +kernel
theorem dX10_init_48 : decode cX10_init 48 = .ok (.bipush 7, 2) := by decide +kernel
theorem dX10_init_50 : decode cX10_init 50 = .ok (.newarray .int, 2) := by decide +kernel
theorem dX10_init_52 : decode cX10_init 52 = .ok (.putfield 33, 3) := by decide +kernel
theorem dX10_init_55 : decode cX10_init 55 = .ok (.aload_n 0, 1) := by decide +kernel
theorem dX10_init_56 : decode cX10_init 56 = .ok (.iconst 0, 1) := by decide +kernel
theorem dX10_init_57 : decode cX10_init 57 = .ok (.putfield 36, 3) := by decide +kernel
theorem dX10_init_60 : decode cX10_init 60 = .ok (.aload_n 0, 1) := by decide +kernel
theorem dX10_init_61 : decode cX10_init 61 = .ok (.aload_n 1, 1) := by decide +kernel
theorem dX10_init_62 : decode cX10_init 62 = .ok (.putfield 40, 3) := by decide +kernel
theorem dX10_init_65 : decode cX10_init 65 = .ok (.return_, 1) := by decide +kernel
theorem dX10_begin_0 : decode cX10_begin 0 = .ok (.aload_n 0, 1) := by decide +kernel
theorem dX10_begin_1 : decode cX10_begin 1 = .ok (.aload_n 1, 1) := by decide +kernel
theorem dX10_begin_2 : decode cX10_begin 2 = .ok (.putfield 40, 3) := by decide +kernel
theorem dX10_begin_5 : decode cX10_begin 5 = .ok (.aload_n 0, 1) := by decide +kernel
theorem dX10_begin_6 : decode cX10_begin 6 = .ok (.iconst 0, 1) := by decide +kernel
theorem dX10_begin_7 : decode cX10_begin 7 = .ok (.putfield 36, 3) := by decide +kernel
theorem dX10_begin_10 : decode cX10_begin 10 = .ok (.aload_n 0, 1) := by decide +kernel
theorem dX10_begin_11 : decode cX10_begin 11 = .ok (.getfield 12, 3) := by decide +kernel
theorem dX10_begin_14 : decode cX10_begin 14 = .ok (.aload_n 2, 1) := by decide +kernel
theorem dX10_begin_15 : decode cX10_begin 15 = .ok (.invokevirtual 44, 3) := by decide +kernel
theorem dX10_begin_18 : decode cX10_begin 18 = .ok (.iconst 0, 1) := by decide +kernel
theorem dX10_begin_19 : decode cX10_begin 19 = .ok (.istore_n 3, 1) := by decide +kernel
theorem dX10_begin_20 : decode cX10_begin 20 = .ok (.iload_n 3, 1) := by decide +kernel
theorem dX10_begin_21 : decode cX10_begin 21 = .ok (.aload_n 0, 1) := by decide +kernel
theorem dX10_begin_22 : decode cX10_begin 22 = .ok (.getfield 40, 3) := by decide +kernel
theorem dX10_begin_25 : decode cX10_begin 25 = .ok (.getfield 48, 3) := by decide +kernel
theorem dX10_begin_28 : decode cX10_begin 28 = .ok (.if_icmp .ge 14, 3) := by decide +kernel
theorem dX10_begin_31 : decode cX10_begin 31 = .ok (.aload_n 0, 1) := by decide +kernel
theorem dX10_begin_32 : decode cX10_begin 32 = .ok (.iload_n 3, 1) := by decide +kernel
theorem dX10_begin_33 : decode cX10_begin 33 = .ok (.invokevirtual 53, 3) := by decide +kernel
theorem dX10_begin_36 : decode cX10_begin 36 = .ok (.iinc 3 1, 3) := by decide +kernel
theorem dX10_begin_39 : decode cX10_begin 39 = .ok (.goto (-19), 3) := by decide +kernel
theorem dX10_begin_42 : decode cX10_begin 42 = .ok (.return_, 1) := by decide +kernel
theorem dX10_settle_0 : decode cX10_settle 0 = .ok (.aload_n 0, 1) := by decide +kernel
theorem dX10_settle_1 : decode cX10_settle 1 = .ok (.getfield 18, 3) := by decide +kernel
theorem dX10_settle_4 : decode cX10_settle 4 = .ok (.iload_n 1, 1) := by decide +kernel
theorem dX10_settle_5 : decode cX10_settle 5 = .ok (.aload_n 0, 1) := by decide +kernel
theorem dX10_settle_6 : decode cX10_settle 6 = .ok (.getfield 40, 3) := by decide +kernel
theorem dX10_settle_9 : decode cX10_settle 9 = .ok (.aload_n 0, 1) := by decide +kernel
theorem dX10_settle_10 : decode cX10_settle 10 = .ok (.getfield 12, 3) := by decide +kernel
theorem dX10_settle_13 : decode cX10_settle 13 = .ok (.iload_n 1, 1) := by decide +kernel
theorem dX10_settle_14 : decode cX10_settle 14 = .ok (.invokevirtual 57, 3) := by decide +kernel
theorem dX10_settle_17 : decode cX10_settle 17 = .ok (.iastore, 1) := by decide +kernel
theorem dX10_settle_18 : decode cX10_settle 18 = .ok (.aload_n 0, 1) := by decide +kernel
theorem dX10_settle_19 : decode cX10_settle 19 = .ok (.getfield 22, 3) := by decide +kernel
theorem dX10_settle_22 : decode cX10_settle 22 = .ok (.iload_n 1, 1) := by decide +kernel
theorem dX10_settle_23 : decode cX10_settle 23 = .ok (.aload_n 0, 1) := by decide +kernel
theorem dX10_settle_24 : decode cX10_settle 24 = .ok (.getfield 40, 3) := by decide +kernel
theorem dX10_settle_27 : decode cX10_settle 27 = .ok (.aload_n 0, 1) := by decide +kernel
theorem dX10_settle_28 : decode cX10_settle 28 = .ok (.getfield 12, 3) := by decide +kernel
theorem dX10_settle_31 : decode cX10_settle 31 = .ok (.getfield 61, 3) := by decide +kernel
theorem dX10_settle_34 : decode cX10_settle 34 = .ok (.iload_n 1, 1) := by decide +kernel
theorem dX10_settle_35 : decode cX10_settle 35 = .ok (.iaload, 1) := by decide +kernel
theorem dX10_settle_36 : decode cX10_settle 36 = .ok (.invokevirtual 64, 3) := by decide +kernel
theorem dX10_settle_39 : decode cX10_settle 39 = .ok (.iastore, 1) := by decide +kernel
theorem dX10_settle_40 : decode cX10_settle 40 = .ok (.aload_n 0, 1) := by decide +kernel
theorem dX10_settle_41 : decode cX10_settle 41 = .ok (.getfield 25, 3) := by decide +kernel
theorem dX10_settle_44 : decode cX10_settle 44 = .ok (.iload_n 1, 1) := by decide +kernel
theorem dX10_settle_45 : decode cX10_settle 45 = .ok (.aload_n 0, 1) := by decide +kernel
theorem dX10_settle_46 : decode cX10_settle 46 = .ok (.getfield 40, 3) := by decide +kernel
theorem dX10_settle_49 : decode cX10_settle 49 = .ok (.aload_n 0, 1) := by decide +kernel
theorem dX10_settle_50 : decode cX10_settle 50 = .ok (.getfield 18, 3) := by decide +kernel
theorem dX10_settle_53 : decode cX10_settle 53 = .ok (.iload_n 1, 1) := by decide +kernel
theorem dX10_settle_54 : decode cX10_settle 54 = .ok (.iaload, 1) := by decide +kernel
theorem dX10_settle_55 : decode cX10_settle 55 = .ok (.invokevirtual 64, 3) := by decide +kernel
theorem dX10_settle_58 : decode cX10_settle 58 = .ok (.iastore, 1) := by decide +kernel
theorem dX10_settle_59 : decode cX10_settle 59 = .ok (.aload_n 0, 1) := by decide +kernel
theorem dX10_settle_60 : decode cX10_settle 60 = .ok (.getfield 28, 3) := by decide +kernel
theorem dX10_settle_63 : decode cX10_settle 63 = .ok (.iload_n 1, 1) := by decide +kernel
theorem dX10_settle_64 : decode cX10_settle 64 = .ok (.aload_n 0, 1) := by decide +kernel
theorem dX10_settle_65 : decode cX10_settle 65 = .ok (.getfield 40, 3) := by decide +kernel
theorem dX10_settle_68 : decode cX10_settle 68 = .ok (.aload_n 0, 1) := by decide +kernel
theorem dX10_settle_69 : decode cX10_settle 69 = .ok (.getfield 40, 3) := by decide +kernel
theorem dX10_settle_72 : decode cX10_settle 72 = .ok (.aload_n 0, 1) := by decide +kernel
theorem dX10_settle_73 : decode cX10_settle 73 = .ok (.getfield 12, 3) := by decide +kernel
theorem dX10_settle_76 : decode cX10_settle 76 = .ok (.iload_n 1, 1) := by decide +kernel
theorem dX10_settle_77 : decode cX10_settle 77 = .ok (.invokevirtual 68, 3) := by decide +kernel
theorem dX10_settle_80 : decode cX10_settle 80 = .ok (.invokevirtual 64, 3) := by decide +kernel
theorem dX10_settle_83 : decode cX10_settle 83 = .ok (.iastore, 1) := by decide +kernel
theorem dX10_settle_84 : decode cX10_settle 84 = .ok (.return_, 1) := by decide +kernel
theorem dX10_change_0 : decode cX10_change 0 = .ok (.iload_n 1, 1) := by decide +kernel
theorem dX10_change_1 : decode cX10_change 1 = .ok (.ifCond .ne 21, 3) := by decide +kernel
theorem dX10_change_4 : decode cX10_change 4 = .ok (.aload_n 0, 1) := by decide +kernel
theorem dX10_change_5 : decode cX10_change 5 = .ok (.getfield 12, 3) := by decide +kernel
theorem dX10_change_8 : decode cX10_change 8 = .ok (.getfield 61, 3) := by decide +kernel
theorem dX10_change_11 : decode cX10_change 11 = .ok (.iload_n 2, 1) := by decide +kernel
theorem dX10_change_12 : decode cX10_change 12 = .ok (.dup2, 1) := by decide +kernel
theorem dX10_change_13 : decode cX10_change 13 = .ok (.iaload, 1) := by decide +kernel
theorem dX10_change_14 : decode cX10_change 14 = .ok (.iconst 1, 1) := by decide +kernel
theorem dX10_change_15 : decode cX10_change 15 = .ok (.iload_n 3, 1) := by decide +kernel
theorem dX10_change_16 : decode cX10_change 16 = .ok (.ishl, 1) := by decide +kernel
theorem dX10_change_17 : decode cX10_change 17 = .ok (.ior, 1) := by decide +kernel
theorem dX10_change_18 : decode cX10_change 18 = .ok (.iastore, 1) := by decide +kernel
theorem dX10_change_19 : decode cX10_change 19 = .ok (.goto 38, 3) := by decide +kernel
theorem dX10_change_22 : decode cX10_change 22 = .ok (.iload_n 1, 1) := by decide +kernel
theorem dX10_change_23 : decode cX10_change 23 = .ok (.iconst 1, 1) := by decide +kernel
theorem dX10_change_24 : decode cX10_change 24 = .ok (.if_icmp .ne 23, 3) := by decide +kernel
theorem dX10_change_27 : decode cX10_change 27 = .ok (.aload_n 0, 1) := by decide +kernel
theorem dX10_change_28 : decode cX10_change 28 = .ok (.getfield 12, 3) := by decide +kernel
theorem dX10_change_31 : decode cX10_change 31 = .ok (.getfield 61, 3) := by decide +kernel
theorem dX10_change_34 : decode cX10_change 34 = .ok (.iload_n 2, 1) := by decide +kernel
theorem dX10_change_35 : decode cX10_change 35 = .ok (.dup2, 1) := by decide +kernel
theorem dX10_change_36 : decode cX10_change 36 = .ok (.iaload, 1) := by decide +kernel
theorem dX10_change_37 : decode cX10_change 37 = .ok (.iconst 1, 1) := by decide +kernel
theorem dX10_change_38 : decode cX10_change 38 = .ok (.iload_n 3, 1) := by decide +kernel
theorem dX10_change_39 : decode cX10_change 39 = .ok (.ishl, 1) := by decide +kernel
theorem dX10_change_40 : decode cX10_change 40 = .ok (.iconst (-1), 1) := by decide +kernel
theorem dX10_change_41 : decode cX10_change 41 = .ok (.ixor, 1) := by decide +kernel
theorem dX10_change_42 : decode cX10_change 42 = .ok (.iand, 1) := by decide +kernel
theorem dX10_change_43 : decode cX10_change 43 = .ok (.iastore, 1) := by decide +kernel
theorem dX10_change_44 : decode cX10_change 44 = .ok (.goto 13, 3) := by decide +kernel
theorem dX10_change_47 : decode cX10_change 47 = .ok (.aload_n 0, 1) := by decide +kernel
theorem dX10_change_48 : decode cX10_change 48 = .ok (.getfield 12, 3) := by decide +kernel
theorem dX10_change_51 : decode cX10_change 51 = .ok (.getfield 71, 3) := by decide +kernel
theorem dX10_change_54 : decode cX10_change 54 = .ok (.iload_n 2, 1) := by decide +kernel
theorem dX10_change_55 : decode cX10_change 55 = .ok (.iload_n 3, 1) := by decide +kernel
theorem dX10_change_56 : decode cX10_change 56 = .ok (.iastore, 1) := by decide +kernel
theorem dX10_change_57 : decode cX10_change 57 = .ok (.aload_n 0, 1) := by decide +kernel
theorem dX10_change_58 : decode cX10_change 58 = .ok (.iload_n 2, 1) := by decide +kernel
theorem dX10_change_59 : decode cX10_change 59 = .ok (.invokevirtual 53, 3) := by decide +kernel
theorem dX10_change_62 : decode cX10_change 62 = .ok (.return_, 1) := by decide +kernel
theorem dX10_gainOf_0 : decode cX10_gainOf 0 = .ok (.aload_n 0, 1) := by decide +kernel
theorem dX10_gainOf_1 : decode cX10_gainOf 1 = .ok (.getfield 25, 3) := by decide +kernel
theorem dX10_gainOf_4 : decode cX10_gainOf 4 = .ok (.iload_n 1, 1) := by decide +kernel
theorem dX10_gainOf_5 : decode cX10_gainOf 5 = .ok (.iaload, 1) := by decide +kernel
theorem dX10_gainOf_6 : decode cX10_gainOf 6 = .ok (.aload_n 0, 1) := by decide +kernel
theorem dX10_gainOf_7 : decode cX10_gainOf 7 = .ok (.getfield 22, 3) := by decide +kernel
theorem dX10_gainOf_10 : decode cX10_gainOf 10 = .ok (.iload_n 1, 1) := by decide +kernel
theorem dX10_gainOf_11 : decode cX10_gainOf 11 = .ok (.iaload, 1) := by decide +kernel
theorem dX10_gainOf_12 : decode cX10_gainOf 12 = .ok (.isub, 1) := by decide +kernel
theorem dX10_gainOf_13 : decode cX10_gainOf 13 = .ok (.ireturn, 1) := by decide +kernel
theorem dX10_thereOfAll_0 : decode cX10_thereOfAll 0 = .ok (.iconst 0, 1) := by decide +kernel
theorem dX10_thereOfAll_1 : decode cX10_thereOfAll 1 = .ok (.istore_n 2, 1) := by decide +kernel
theorem dX10_thereOfAll_2 : decode cX10_thereOfAll 2 = .ok (.iconst 0, 1) := by decide +kernel
theorem dX10_thereOfAll_3 : decode cX10_thereOfAll 3 = .ok (.istore_n 3, 1) := by decide +kernel
theorem dX10_thereOfAll_4 : decode cX10_thereOfAll 4 = .ok (.iload_n 3, 1) := by decide +kernel
theorem dX10_thereOfAll_5 : decode cX10_thereOfAll 5 = .ok (.aload_n 0, 1) := by decide +kernel
theorem dX10_thereOfAll_6 : decode cX10_thereOfAll 6 = .ok (.getfield 40, 3) := by decide +kernel
theorem dX10_thereOfAll_9 : decode cX10_thereOfAll 9 = .ok (.getfield 48, 3) := by decide +kernel
theorem dX10_thereOfAll_12 : decode cX10_thereOfAll 12 = .ok (.if_icmp .ge 26, 3) := by decide +kernel
theorem dX10_thereOfAll_15 : decode cX10_thereOfAll 15 = .ok (.iload_n 3, 1) := by decide +kernel
theorem dX10_thereOfAll_16 : decode cX10_thereOfAll 16 = .ok (.iload_n 1, 1) := by decide +kernel
theorem dX10_thereOfAll_17 : decode cX10_thereOfAll 17 = .ok (.invokestatic 74, 3) := by decide +kernel
theorem dX10_thereOfAll_20 : decode cX10_thereOfAll 20 = .ok (.ifCond .eq 12, 3) := by decide +kernel
theorem dX10_thereOfAll_23 : decode cX10_thereOfAll 23 = .ok (.iload_n 2, 1) := by decide +kernel
theorem dX10_thereOfAll_24 : decode cX10_thereOfAll 24 = .ok (.aload_n 0, 1) := by decide +kernel
theorem dX10_thereOfAll_25 : decode cX10_thereOfAll 25 = .ok (.getfield 18, 3) := by decide +kernel
theorem dX10_thereOfAll_28 : decode cX10_thereOfAll 28 = .ok (.iload_n 3, 1) := by decide +kernel
theorem dX10_thereOfAll_29 : decode cX10_thereOfAll 29 = .ok (.iaload, 1) := by decide +kernel
theorem dX10_thereOfAll_30 : decode cX10_thereOfAll 30 = .ok (.ior, 1) := by decide +kernel
theorem dX10_thereOfAll_31 : decode cX10_thereOfAll 31 = .ok (.istore_n 2, 1) := by decide +kernel
theorem dX10_thereOfAll_32 : decode cX10_thereOfAll 32 = .ok (.iinc 3 1, 3) := by decide +kernel
theorem dX10_thereOfAll_35 : decode cX10_thereOfAll 35 = .ok (.goto (-31), 3) := by decide +kernel
theorem dX10_thereOfAll_38 : decode cX10_thereOfAll 38 = .ok (.iload_n 2, 1) := by decide +kernel
theorem dX10_thereOfAll_39 : decode cX10_thereOfAll 39 = .ok (.ireturn, 1) := by decide +kernel
theorem dX10_step_0 : decode cX10_step 0 = .ok (.aload_n 0, 1) := by decide +kernel
theorem dX10_step_1 : decode cX10_step 1 = .ok (.aload_n 0, 1) := by decide +kernel
theorem dX10_step_2 : decode cX10_step 2 = .ok (.invokevirtual 78, 3) := by decide +kernel
theorem dX10_step_5 : decode cX10_step 5 = .ok (.putfield 36, 3) := by decide +kernel
theorem dX10_step_8 : decode cX10_step 8 = .ok (.aload_n 0, 1) := by decide +kernel
theorem dX10_step_9 : decode cX10_step 9 = .ok (.getfield 12, 3) := by decide +kernel
theorem dX10_step_12 : decode cX10_step 12 = .ok (.aload_n 0, 1) := by decide +kernel
theorem dX10_step_13 : decode cX10_step 13 = .ok (.invokevirtual 82, 3) := by decide +kernel
theorem dX10_step_16 : decode cX10_step 16 = .ok (.putfield 85, 3) := by decide +kernel
theorem dX10_step_19 : decode cX10_step 19 = .ok (.iconst 0, 1) := by decide +kernel
theorem dX10_step_20 : decode cX10_step 20 = .ok (.istore_n 1, 1) := by decide +kernel
theorem dX10_step_21 : decode cX10_step 21 = .ok (.iload_n 1, 1) := by decide +kernel
theorem dX10_step_22 : decode cX10_step 22 = .ok (.aload_n 0, 1) := by decide +kernel
theorem dX10_step_23 : decode cX10_step 23 = .ok (.getfield 40, 3) := by decide +kernel
theorem dX10_step_26 : decode cX10_step 26 = .ok (.getfield 48, 3) := by decide +kernel
theorem dX10_step_29 : decode cX10_step 29 = .ok (.if_icmp .ge 36, 3) := by decide +kernel
theorem dX10_step_32 : decode cX10_step 32 = .ok (.iload_n 1, 1) := by decide +kernel
theorem dX10_step_33 : decode cX10_step 33 = .ok (.aload_n 0, 1) := by decide +kernel
theorem dX10_step_34 : decode cX10_step 34 = .ok (.getfield 12, 3) := by decide +kernel
theorem dX10_step_37 : decode cX10_step 37 = .ok (.getfield 85, 3) := by decide +kernel
theorem dX10_step_40 : decode cX10_step 40 = .ok (.invokestatic 74, 3) := by decide +kernel
theorem dX10_step_43 : decode cX10_step 43 = .ok (.ifCond .eq 11, 3) := by decide +kernel
theorem dX10_step_46 : decode cX10_step 46 = .ok (.aload_n 0, 1) := by decide +kernel
theorem dX10_step_47 : decode cX10_step 47 = .ok (.iload_n 1, 1) := by decide +kernel
theorem dX10_step_48 : decode cX10_step 48 = .ok (.invokevirtual 88, 3) := by decide +kernel
theorem dX10_step_51 : decode cX10_step 51 = .ok (.goto 8, 3) := by decide +kernel
theorem dX10_step_54 : decode cX10_step 54 = .ok (.aload_n 0, 1) := by decide +kernel
theorem dX10_step_55 : decode cX10_step 55 = .ok (.iload_n 1, 1) := by decide +kernel
theorem dX10_step_56 : decode cX10_step 56 = .ok (.invokevirtual 91, 3) := by decide +kernel
theorem dX10_step_59 : decode cX10_step 59 = .ok (.iinc 1 1, 3) := by decide +kernel
theorem dX10_step_62 : decode cX10_step 62 = .ok (.goto (-41), 3) := by decide +kernel
theorem dX10_step_65 : decode cX10_step 65 = .ok (.aload_n 0, 1) := by decide +kernel
theorem dX10_step_66 : decode cX10_step 66 = .ok (.getfield 12, 3) := by decide +kernel
theorem dX10_step_69 : decode cX10_step 69 = .ok (.dup, 1) := by decide +kernel
theorem dX10_step_70 : decode cX10_step 70 = .ok (.getfield 94, 3) := by decide +kernel
theorem dX10_step_73 : decode cX10_step 73 = .ok (.iconst 1, 1) := by decide +kernel
theorem dX10_step_74 : decode cX10_step 74 = .ok (.iadd, 1) := by decide +kernel
theorem dX10_step_75 : decode cX10_step 75 = .ok (.putfield 94, 3) := by decide +kernel
theorem dX10_step_78 : decode cX10_step 78 = .ok (.return_, 1) := by decide +kernel
theorem dX10_leftBehind_0 : decode cX10_leftBehind 0 = .ok (.aload_n 0, 1) := by decide +kernel
theorem dX10_leftBehind_1 : decode cX10_leftBehind 1 = .ok (.getfield 36, 3) := by decide +kernel
theorem dX10_leftBehind_4 : decode cX10_leftBehind 4 = .ok (.aload_n 0, 1) := by decide +kernel
theorem dX10_leftBehind_5 : decode cX10_leftBehind 5 = .ok (.getfield 12, 3) := by decide +kernel
theorem dX10_leftBehind_8 : decode cX10_leftBehind 8 = .ok (.getfield 85, 3) := by decide +kernel
theorem dX10_leftBehind_11 : decode cX10_leftBehind 11 = .ok (.iconst (-1), 1) := by decide +kernel
theorem dX10_leftBehind_12 : decode cX10_leftBehind 12 = .ok (.ixor, 1) := by decide +kernel
theorem dX10_leftBehind_13 : decode cX10_leftBehind 13 = .ok (.iand, 1) := by decide +kernel
theorem dX10_leftBehind_14 : decode cX10_leftBehind 14 = .ok (.ireturn, 1) := by decide +kernel
theorem dX10_whoWants_0 : decode cX10_whoWants 0 = .ok (.iconst 0, 1) := by decide +kernel
theorem dX10_whoWants_1 : decode cX10_whoWants 1 = .ok (.istore_n 1, 1) := by decide +kernel
theorem dX10_whoWants_2 : decode cX10_whoWants 2 = .ok (.iconst 0, 1) := by decide +kernel
theorem dX10_whoWants_3 : decode cX10_whoWants 3 = .ok (.istore_n 2, 1) := by decide +kernel
theorem dX10_whoWants_4 : decode cX10_whoWants 4 = .ok (.iload_n 2, 1) := by decide +kernel
theorem dX10_whoWants_5 : decode cX10_whoWants 5 = .ok (.aload_n 0, 1) := by decide +kernel
theorem dX10_whoWants_6 : decode cX10_whoWants 6 = .ok (.getfield 40, 3) := by decide +kernel
theorem dX10_whoWants_9 : decode cX10_whoWants 9 = .ok (.getfield 48, 3) := by decide +kernel
theorem dX10_whoWants_12 : decode cX10_whoWants 12 = .ok (.if_icmp .ge 23, 3) := by decide +kernel
theorem dX10_whoWants_15 : decode cX10_whoWants 15 = .ok (.aload_n 0, 1) := by decide +kernel
theorem dX10_whoWants_16 : decode cX10_whoWants 16 = .ok (.iload_n 2, 1) := by decide +kernel
theorem dX10_whoWants_17 : decode cX10_whoWants 17 = .ok (.invokevirtual 97, 3) := by decide +kernel
theorem dX10_whoWants_20 : decode cX10_whoWants 20 = .ok (.ifCond .eq 9, 3) := by decide +kernel
theorem dX10_whoWants_23 : decode cX10_whoWants 23 = .ok (.iload_n 1, 1) := by decide +kernel
theorem dX10_whoWants_24 : decode cX10_whoWants 24 = .ok (.iconst 1, 1) := by decide +kernel
theorem dX10_whoWants_25 : decode cX10_whoWants 25 = .ok (.iload_n 2, 1) := by decide +kernel
theorem dX10_whoWants_26 : decode cX10_whoWants 26 = .ok (.ishl, 1) := by decide +kernel
theorem dX10_whoWants_27 : decode cX10_whoWants 27 = .ok (.ior, 1) := by decide +kernel
theorem dX10_whoWants_28 : decode cX10_whoWants 28 = .ok (.istore_n 1, 1) := by decide +kernel
theorem dX10_whoWants_29 : decode cX10_whoWants 29 = .ok (.iinc 2 1, 3) := by decide +kernel
theorem dX10_whoWants_32 : decode cX10_whoWants 32 = .ok (.goto (-28), 3) := by decide +kernel
theorem dX10_whoWants_35 : decode cX10_whoWants 35 = .ok (.iload_n 1, 1) := by decide +kernel
theorem dX10_whoWants_36 : decode cX10_whoWants 36 = .ok (.ireturn, 1) := by decide +kernel
theorem dX10_wants_0 : decode cX10_wants 0 = .ok (.aload_n 0, 1) := by decide +kernel
theorem dX10_wants_1 : decode cX10_wants 1 = .ok (.getfield 40, 3) := by decide +kernel
theorem dX10_wants_4 : decode cX10_wants 4 = .ok (.getfield 101, 3) := by decide +kernel
theorem dX10_wants_7 : decode cX10_wants 7 = .ok (.invokevirtual 105, 3) := by decide +kernel
theorem dX10_wants_10 : decode cX10_wants 10 = .ok (.ifCond .ne 23, 3) := by decide +kernel
theorem dX10_wants_13 : decode cX10_wants 13 = .ok (.aload_n 0, 1) := by decide +kernel
theorem dX10_wants_14 : decode cX10_wants 14 = .ok (.getfield 12, 3) := by decide +kernel
theorem dX10_wants_17 : decode cX10_wants 17 = .ok (.getfield 109, 3) := by decide +kernel
theorem dX10_wants_20 : decode cX10_wants 20 = .ok (.iload_n 1, 1) := by decide +kernel
theorem dX10_wants_21 : decode cX10_wants 21 = .ok (.iaload, 1) := by decide +kernel
theorem dX10_wants_22 : decode cX10_wants 22 = .ok (.bipush 10, 2) := by decide +kernel
theorem dX10_wants_24 : decode cX10_wants 24 = .ok (.if_icmp .lt 7, 3) := by decide +kernel
theorem dX10_wants_27 : decode cX10_wants 27 = .ok (.iconst 1, 1) := by decide +kernel
theorem dX10_wants_28 : decode cX10_wants 28 = .ok (.goto 4, 3) := by decide +kernel
theorem dX10_wants_31 : decode cX10_wants 31 = .ok (.iconst 0, 1) := by decide +kernel
theorem dX10_wants_32 : decode cX10_wants 32 = .ok (.ireturn, 1) := by decide +kernel
theorem dX10_wants_33 : decode cX10_wants 33 = .ok (.aload_n 0, 1) := by decide +kernel
theorem dX10_wants_34 : decode cX10_wants 34 = .ok (.getfield 33, 3) := by decide +kernel
theorem dX10_wants_37 : decode cX10_wants 37 = .ok (.iconst 0, 1) := by decide +kernel
theorem dX10_wants_38 : decode cX10_wants 38 = .ok (.aload_n 0, 1) := by decide +kernel
theorem dX10_wants_39 : decode cX10_wants 39 = .ok (.getfield 12, 3) := by decide +kernel
theorem dX10_wants_42 : decode cX10_wants 42 = .ok (.getfield 109, 3) := by decide +kernel
theorem dX10_wants_45 : decode cX10_wants 45 = .ok (.iload_n 1, 1) := by decide +kernel
theorem dX10_wants_46 : decode cX10_wants 46 = .ok (.iaload, 1) := by decide +kernel
theorem dX10_wants_47 : decode cX10_wants 47 = .ok (.iastore, 1) := by decide +kernel
theorem dX10_wants_48 : decode cX10_wants 48 = .ok (.aload_n 0, 1) := by decide +kernel
theorem dX10_wants_49 : decode cX10_wants 49 = .ok (.getfield 33, 3) := by decide +kernel
theorem dX10_wants_52 : decode cX10_wants 52 = .ok (.iconst 1, 1) := by decide +kernel
theorem dX10_wants_53 : decode cX10_wants 53 = .ok (.aload_n 0, 1) := by decide +kernel
theorem dX10_wants_54 : decode cX10_wants 54 = .ok (.getfield 22, 3) := by decide +kernel
theorem dX10_wants_57 : decode cX10_wants 57 = .ok (.iload_n 1, 1) := by decide +kernel
theorem dX10_wants_58 : decode cX10_wants 58 = .ok (.iaload, 1) := by decide +kernel
theorem dX10_wants_59 : decode cX10_wants 59 = .ok (.iastore, 1) := by decide +kernel
theorem dX10_wants_60 : decode cX10_wants 60 = .ok (.aload_n 0, 1) := by decide +kernel
theorem dX10_wants_61 : decode cX10_wants 61 = .ok (.getfield 33, 3) := by decide +kernel
theorem dX10_wants_64 : decode cX10_wants 64 = .ok (.iconst 2, 1) := by decide +kernel
theorem dX10_wants_65 : decode cX10_wants 65 = .ok (.aload_n 0, 1) := by decide +kernel
theorem dX10_wants_66 : decode cX10_wants 66 = .ok (.getfield 25, 3) := by decide +kernel
theorem dX10_wants_69 : decode cX10_wants 69 = .ok (.iload_n 1, 1) := by decide +kernel
theorem dX10_wants_70 : decode cX10_wants 70 = .ok (.iaload, 1) := by decide +kernel
theorem dX10_wants_71 : decode cX10_wants 71 = .ok (.iastore, 1) := by decide +kernel
theorem dX10_wants_72 : decode cX10_wants 72 = .ok (.aload_n 0, 1) := by decide +kernel
theorem dX10_wants_73 : decode cX10_wants 73 = .ok (.getfield 33, 3) := by decide +kernel
theorem dX10_wants_76 : decode cX10_wants 76 = .ok (.iconst 3, 1) := by decide +kernel
theorem dX10_wants_77 : decode cX10_wants 77 = .ok (.aload_n 0, 1) := by decide +kernel
theorem dX10_wants_78 : decode cX10_wants 78 = .ok (.getfield 28, 3) := by decide +kernel
theorem dX10_wants_81 : decode cX10_wants 81 = .ok (.iload_n 1, 1) := by decide +kernel
theorem dX10_wants_82 : decode cX10_wants 82 = .ok (.iaload, 1) := by decide +kernel
theorem dX10_wants_83 : decode cX10_wants 83 = .ok (.iastore, 1) := by decide +kernel
theorem dX10_wants_84 : decode cX10_wants 84 = .ok (.aload_n 0, 1) := by decide +kernel
theorem dX10_wants_85 : decode cX10_wants 85 = .ok (.getfield 33, 3) := by decide +kernel
theorem dX10_wants_88 : decode cX10_wants 88 = .ok (.iconst 4, 1) := by decide +kernel
theorem dX10_wants_89 : decode cX10_wants 89 = .ok (.aload_n 0, 1) := by decide +kernel
theorem dX10_wants_90 : decode cX10_wants 90 = .ok (.getfield 12, 3) := by decide +kernel
theorem dX10_wants_93 : decode cX10_wants 93 = .ok (.getfield 94, 3) := by decide +kernel
theorem dX10_wants_96 : decode cX10_wants 96 = .ok (.iastore, 1) := by decide +kernel
theorem dX10_wants_97 : decode cX10_wants 97 = .ok (.aload_n 0, 1) := by decide +kernel
theorem dX10_wants_98 : decode cX10_wants 98 = .ok (.getfield 33, 3) := by decide +kernel
theorem dX10_wants_101 : decode cX10_wants 101 = .ok (.iconst 5, 1) := by decide +kernel
theorem dX10_wants_102 : decode cX10_wants 102 = .ok (.aload_n 0, 1) := by decide +kernel
theorem dX10_wants_103 : decode cX10_wants 103 = .ok (.getfield 12, 3) := by decide +kernel
theorem dX10_wants_106 : decode cX10_wants 106 = .ok (.getfield 112, 3) := by decide +kernel
theorem dX10_wants_109 : decode cX10_wants 109 = .ok (.iload_n 1, 1) := by decide +kernel
theorem dX10_wants_110 : decode cX10_wants 110 = .ok (.iaload, 1) := by decide +kernel
theorem dX10_wants_111 : decode cX10_wants 111 = .ok (.iastore, 1) := by decide +kernel
theorem dX10_wants_112 : decode cX10_wants 112 = .ok (.aload_n 0, 1) := by decide +kernel
theorem dX10_wants_113 : decode cX10_wants 113 = .ok (.getfield 33, 3) := by decide +kernel
theorem dX10_wants_116 : decode cX10_wants 116 = .ok (.bipush 6, 2) := by decide +kernel
theorem dX10_wants_118 : decode cX10_wants 118 = .ok (.iload_n 1, 1) := by decide +kernel
theorem dX10_wants_119 : decode cX10_wants 119 = .ok (.aload_n 0, 1) := by decide +kernel
theorem dX10_wants_120 : decode cX10_wants 120 = .ok (.getfield 12, 3) := by decide +kernel
theorem dX10_wants_123 : decode cX10_wants 123 = .ok (.getfield 85, 3) := by decide +kernel
theorem dX10_wants_126 : decode cX10_wants 126 = .ok (.invokestatic 74, 3) := by decide +kernel
theorem dX10_wants_129 : decode cX10_wants 129 = .ok (.ifCond .eq 7, 3) := by decide +kernel
theorem dX10_wants_132 : decode cX10_wants 132 = .ok (.iconst 1, 1) := by decide +kernel
theorem dX10_wants_133 : decode cX10_wants 133 = .ok (.goto 4, 3) := by decide +kernel
theorem dX10_wants_136 : decode cX10_wants 136 = .ok (.iconst 0, 1) := by decide +kernel
theorem dX10_wants_137 : decode cX10_wants 137 = .ok (.iastore, 1) := by decide +kernel
theorem dX10_wants_138 : decode cX10_wants 138 = .ok (.aload_n 0, 1) := by decide +kernel
theorem dX10_wants_139 : decode cX10_wants 139 = .ok (.getfield 40, 3) := by decide +kernel
theorem dX10_wants_142 : decode cX10_wants 142 = .ok (.getfield 101, 3) := by decide +kernel
theorem dX10_wants_145 : decode cX10_wants 145 = .ok (.aload_n 0, 1) := by decide +kernel
theorem dX10_wants_146 : decode cX10_wants 146 = .ok (.getfield 33, 3) := by decide +kernel
theorem dX10_wants_149 : decode cX10_wants 149 = .ok (.invokevirtual 115, 3) := by decide +kernel
theorem dX10_wants_152 : decode cX10_wants 152 = .ok (.ifCond .le 7, 3) := by decide +kernel
theorem dX10_wants_155 : decode cX10_wants 155 = .ok (.iconst 1, 1) := by decide +kernel
theorem dX10_wants_156 : decode cX10_wants 156 = .ok (.goto 4, 3) := by decide +kernel
theorem dX10_wants_159 : decode cX10_wants 159 = .ok (.iconst 0, 1) := by decide +kernel
theorem dX10_wants_160 : decode cX10_wants 160 = .ok (.ireturn, 1) := by decide +kernel
theorem dX10_whoGoes_0 : decode cX10_whoGoes 0 = .ok (.aload_n 0, 1) := by decide +kernel
theorem dX10_whoGoes_1 : decode cX10_whoGoes 1 = .ok (.getfield 36, 3) := by decide +kernel
theorem dX10_whoGoes_4 : decode cX10_whoGoes 4 = .ok (.istore_n 1, 1) := by decide +kernel
theorem dX10_whoGoes_5 : decode cX10_whoGoes 5 = .ok (.iconst 0, 1) := by decide +kernel
theorem dX10_whoGoes_6 : decode cX10_whoGoes 6 = .ok (.istore_n 2, 1) := by decide +kernel
theorem dX10_whoGoes_7 : decode cX10_whoGoes 7 = .ok (.iload_n 2, 1) := by decide +kernel
theorem dX10_whoGoes_8 : decode cX10_whoGoes 8 = .ok (.aload_n 0, 1) := by decide +kernel
theorem dX10_whoGoes_9 : decode cX10_whoGoes 9 = .ok (.getfield 12, 3) := by decide +kernel
theorem dX10_whoGoes_12 : decode cX10_whoGoes 12 = .ok (.getfield 119, 3) := by decide +kernel
theorem dX10_whoGoes_15 : decode cX10_whoGoes 15 = .ok (.if_icmp .ge 25, 3) := by decide +kernel
theorem dX10_whoGoes_18 : decode cX10_whoGoes 18 = .ok (.iload_n 1, 1) := by decide +kernel
theorem dX10_whoGoes_19 : decode cX10_whoGoes 19 = .ok (.ifCond .eq 21, 3) := by decide +kernel
theorem dX10_whoGoes_22 : decode cX10_whoGoes 22 = .ok (.iload_n 1, 1) := by decide +kernel
theorem dX10_whoGoes_23 : decode cX10_whoGoes 23 = .ok (.iconst 1, 1) := by decide +kernel
theorem dX10_whoGoes_24 : decode cX10_whoGoes 24 = .ok (.aload_n 0, 1) := by decide +kernel
theorem dX10_whoGoes_25 : decode cX10_whoGoes 25 = .ok (.iload_n 1, 1) := by decide +kernel
theorem dX10_whoGoes_26 : decode cX10_whoGoes 26 = .ok (.invokevirtual 122, 3) := by decide +kernel
theorem dX10_whoGoes_29 : decode cX10_whoGoes 29 = .ok (.ishl, 1) := by decide +kernel
theorem dX10_whoGoes_30 : decode cX10_whoGoes 30 = .ok (.iconst (-1), 1) := by decide +kernel
theorem dX10_whoGoes_31 : decode cX10_whoGoes 31 = .ok (.ixor, 1) := by decide +kernel
theorem dX10_whoGoes_32 : decode cX10_whoGoes 32 = .ok (.iand, 1) := by decide +kernel
theorem dX10_whoGoes_33 : decode cX10_whoGoes 33 = .ok (.istore_n 1, 1) := by decide +kernel
theorem dX10_whoGoes_34 : decode cX10_whoGoes 34 = .ok (.iinc 2 1, 3) := by decide +kernel
theorem dX10_whoGoes_37 : decode cX10_whoGoes 37 = .ok (.goto (-30), 3) := by decide +kernel
theorem dX10_whoGoes_40 : decode cX10_whoGoes 40 = .ok (.aload_n 0, 1) := by decide +kernel
theorem dX10_whoGoes_41 : decode cX10_whoGoes 41 = .ok (.getfield 36, 3) := by decide +kernel
theorem dX10_whoGoes_44 : decode cX10_whoGoes 44 = .ok (.iload_n 1, 1) := by decide +kernel
theorem dX10_whoGoes_45 : decode cX10_whoGoes 45 = .ok (.iconst (-1), 1) := by decide +kernel
theorem dX10_whoGoes_46 : decode cX10_whoGoes 46 = .ok (.ixor, 1) := by decide +kernel
theorem dX10_whoGoes_47 : decode cX10_whoGoes 47 = .ok (.iand, 1) := by decide +kernel
theorem dX10_whoGoes_48 : decode cX10_whoGoes 48 = .ok (.ireturn, 1) := by decide +kernel
theorem dX10_mostLonging_0 : decode cX10_mostLonging 0 = .ok (.iconst (-1), 1) := by decide +kernel
theorem dX10_mostLonging_1 : decode cX10_mostLonging 1 = .ok (.istore_n 2, 1) := by decide +kernel
theorem dX10_mostLonging_2 : decode cX10_mostLonging 2 = .ok (.iconst 0, 1) := by decide +kernel
theorem dX10_mostLonging_3 : decode cX10_mostLonging 3 = .ok (.istore_n 3, 1) := by decide +kernel
theorem dX10_mostLonging_4 : decode cX10_mostLonging 4 = .ok (.iload_n 3, 1) := by decide +kernel
theorem dX10_mostLonging_5 : decode cX10_mostLonging 5 = .ok (.aload_n 0, 1) := by decide +kernel
theorem dX10_mostLonging_6 : decode cX10_mostLonging 6 = .ok (.getfield 40, 3) := by decide +kernel
theorem dX10_mostLonging_9 : decode cX10_mostLonging 9 = .ok (.getfield 48, 3) := by decide +kernel
theorem dX10_mostLonging_12 : decode cX10_mostLonging 12 = .ok (.if_icmp .ge 45, 3) := by decide +kernel
theorem dX10_mostLonging_15 : decode cX10_mostLonging 15 = .ok (.iload_n 3, 1) := by decide +kernel
theorem dX10_mostLonging_16 : decode cX10_mostLonging 16 = .ok (.iload_n 1, 1) := by decide +kernel
theorem dX10_mostLonging_17 : decode cX10_mostLonging 17 = .ok (.invokestatic 74, 3) := by decide +kernel
theorem dX10_mostLonging_20 : decode cX10_mostLonging 20 = .ok (.ifCond .eq 31, 3) := by decide +kernel
theorem dX10_mostLonging_23 : decode cX10_mostLonging 23 = .ok (.iload_n 2, 1) := by decide +kernel
theorem dX10_mostLonging_24 : decode cX10_mostLonging 24 = .ok (.iconst (-1), 1) := by decide +kernel
theorem dX10_mostLonging_25 : decode cX10_mostLonging 25 = .ok (.if_icmp .eq 24, 3) := by decide +kernel
theorem dX10_mostLonging_28 : decode cX10_mostLonging 28 = .ok (.aload_n 0, 1) := by decide +kernel
theorem dX10_mostLonging_29 : decode cX10_mostLonging 29 = .ok (.getfield 12, 3) := by decide +kernel
theorem dX10_mostLonging_32 : decode cX10_mostLonging 32 = .ok (.getfield 109, 3) := by decide +kernel
theorem dX10_mostLonging_35 : decode cX10_mostLonging 35 = .ok (.iload_n 3, 1) := by decide +kernel
theorem dX10_mostLonging_36 : decode cX10_mostLonging 36 = .ok (.iaload, 1) := by decide +kernel
theorem dX10_mostLonging_37 : decode cX10_mostLonging 37 = .ok (.aload_n 0, 1) := by decide +kernel
theorem dX10_mostLonging_38 : decode cX10_mostLonging 38 = .ok (.getfield 12, 3) := by decide +kernel
theorem dX10_mostLonging_41 : decode cX10_mostLonging 41 = .ok (.getfield 109, 3) := by decide +kernel
theorem dX10_mostLonging_44 : decode cX10_mostLonging 44 = .ok (.iload_n 2, 1) := by decide +kernel
theorem dX10_mostLonging_45 : decode cX10_mostLonging 45 = .ok (.iaload, 1) := by decide +kernel
theorem dX10_mostLonging_46 : decode cX10_mostLonging 46 = .ok (.if_icmp .le 5, 3) := by decide +kernel
theorem dX10_mostLonging_49 : decode cX10_mostLonging 49 = .ok (.iload_n 3, 1) := by decide +kernel
theorem dX10_mostLonging_50 : decode cX10_mostLonging 50 = .ok (.istore_n 2, 1) := by decide +kernel
theorem dX10_mostLonging_51 : decode cX10_mostLonging 51 = .ok (.iinc 3 1, 3) := by decide +kernel
theorem dX10_mostLonging_54 : decode cX10_mostLonging 54 = .ok (.goto (-50), 3) := by decide +kernel
theorem dX10_mostLonging_57 : decode cX10_mostLonging 57 = .ok (.iload_n 2, 1) := by decide +kernel
theorem dX10_mostLonging_58 : decode cX10_mostLonging 58 = .ok (.ireturn, 1) := by decide +kernel
theorem dX10_cross_0 : decode cX10_cross 0 = .ok (.aload_n 0, 1) := by decide +kernel
theorem dX10_cross_1 : decode cX10_cross 1 = .ok (.iload_n 1, 1) := by decide +kernel
theorem dX10_cross_2 : decode cX10_cross 2 = .ok (.invokevirtual 125, 3) := by decide +kernel
theorem dX10_cross_5 : decode cX10_cross 5 = .ok (.iconst 0, 1) := by decide +kernel
theorem dX10_cross_6 : decode cX10_cross 6 = .ok (.invokestatic 128, 3) := by decide +kernel
theorem dX10_cross_9 : decode cX10_cross 9 = .ok (.istore_n 2, 1) := by decide +kernel
theorem dX10_cross_10 : decode cX10_cross 10 = .ok (.aload_n 0, 1) := by decide +kernel
theorem dX10_cross_11 : decode cX10_cross 11 = .ok (.getfield 12, 3) := by decide +kernel
theorem dX10_cross_14 : decode cX10_cross 14 = .ok (.getfield 109, 3) := by decide +kernel
theorem dX10_cross_17 : decode cX10_cross 17 = .ok (.iload_n 1, 1) := by decide +kernel
theorem dX10_cross_18 : decode cX10_cross 18 = .ok (.aload_n 0, 1) := by decide +kernel
theorem dX10_cross_19 : decode cX10_cross 19 = .ok (.getfield 12, 3) := by decide +kernel
theorem dX10_cross_22 : decode cX10_cross 22 = .ok (.getfield 109, 3) := by decide +kernel
theorem dX10_cross_25 : decode cX10_cross 25 = .ok (.iload_n 1, 1) := by decide +kernel
theorem dX10_cross_26 : decode cX10_cross 26 = .ok (.iaload, 1) := by decide +kernel
theorem dX10_cross_27 : decode cX10_cross 27 = .ok (.iload_n 2, 1) := by decide +kernel
theorem dX10_cross_28 : decode cX10_cross 28 = .ok (.isub, 1) := by decide +kernel
theorem dX10_cross_29 : decode cX10_cross 29 = .ok (.iconst 0, 1) := by decide +kernel
theorem dX10_cross_30 : decode cX10_cross 30 = .ok (.invokestatic 128, 3) := by decide +kernel
theorem dX10_cross_33 : decode cX10_cross 33 = .ok (.iastore, 1) := by decide +kernel
theorem dX10_cross_34 : decode cX10_cross 34 = .ok (.aload_n 0, 1) := by decide +kernel
theorem dX10_cross_35 : decode cX10_cross 35 = .ok (.iload_n 1, 1) := by decide +kernel
theorem dX10_cross_36 : decode cX10_cross 36 = .ok (.invokevirtual 134, 3) := by decide +kernel
theorem dX10_cross_39 : decode cX10_cross 39 = .ok (.ifCond .le 28, 3) := by decide +kernel
theorem dX10_cross_42 : decode cX10_cross 42 = .ok (.aload_n 0, 1) := by decide +kernel
theorem dX10_cross_43 : decode cX10_cross 43 = .ok (.getfield 12, 3) := by decide +kernel
theorem dX10_cross_46 : decode cX10_cross 46 = .ok (.getfield 112, 3) := by decide +kernel
theorem dX10_cross_49 : decode cX10_cross 49 = .ok (.iload_n 1, 1) := by decide +kernel
theorem dX10_cross_50 : decode cX10_cross 50 = .ok (.aload_n 0, 1) := by decide +kernel
theorem dX10_cross_51 : decode cX10_cross 51 = .ok (.getfield 12, 3) := by decide +kernel
theorem dX10_cross_54 : decode cX10_cross 54 = .ok (.getfield 112, 3) := by decide +kernel
theorem dX10_cross_57 : decode cX10_cross 57 = .ok (.iload_n 1, 1) := by decide +kernel
theorem dX10_cross_58 : decode cX10_cross 58 = .ok (.iaload, 1) := by decide +kernel
theorem dX10_cross_59 : decode cX10_cross 59 = .ok (.iconst 1, 1) := by decide +kernel
theorem dX10_cross_60 : decode cX10_cross 60 = .ok (.iadd, 1) := by decide +kernel
theorem dX10_cross_61 : decode cX10_cross 61 = .ok (.bipush 99, 2) := by decide +kernel
theorem dX10_cross_63 : decode cX10_cross 63 = .ok (.invokestatic 137, 3) := by decide +kernel
theorem dX10_cross_66 : decode cX10_cross 66 = .ok (.iastore, 1) := by decide +kernel
theorem dX10_cross_67 : decode cX10_cross 67 = .ok (.return_, 1) := by decide +kernel
theorem dX10_stay_0 : decode cX10_stay 0 = .ok (.aload_n 0, 1) := by decide +kernel
theorem dX10_stay_1 : decode cX10_stay 1 = .ok (.getfield 12, 3) := by decide +kernel
theorem dX10_stay_4 : decode cX10_stay 4 = .ok (.getfield 109, 3) := by decide +kernel
theorem dX10_stay_7 : decode cX10_stay 7 = .ok (.iload_n 1, 1) := by decide +kernel
theorem dX10_stay_8 : decode cX10_stay 8 = .ok (.iaload, 1) := by decide +kernel
theorem dX10_stay_9 : decode cX10_stay 9 = .ok (.aload_n 0, 1) := by decide +kernel
theorem dX10_stay_10 : decode cX10_stay 10 = .ok (.iload_n 1, 1) := by decide +kernel
theorem dX10_stay_11 : decode cX10_stay 11 = .ok (.invokevirtual 134, 3) := by decide +kernel
theorem dX10_stay_14 : decode cX10_stay 14 = .ok (.iadd, 1) := by decide +kernel
theorem dX10_stay_15 : decode cX10_stay 15 = .ok (.iconst 1, 1) := by decide +kernel
theorem dX10_stay_16 : decode cX10_stay 16 = .ok (.iadd, 1) := by decide +kernel
theorem dX10_stay_17 : decode cX10_stay 17 = .ok (.istore_n 2, 1) := by decide +kernel
theorem dX10_stay_18 : decode cX10_stay 18 = .ok (.aload_n 0, 1) := by decide +kernel
theorem dX10_stay_19 : decode cX10_stay 19 = .ok (.getfield 12, 3) := by decide +kernel
theorem dX10_stay_22 : decode cX10_stay 22 = .ok (.getfield 109, 3) := by decide +kernel
theorem dX10_stay_25 : decode cX10_stay 25 = .ok (.iload_n 1, 1) := by decide +kernel
theorem dX10_stay_26 : decode cX10_stay 26 = .ok (.iload_n 2, 1) := by decide +kernel
theorem dX10_stay_27 : decode cX10_stay 27 = .ok (.bipush 99, 2) := by decide +kernel
theorem dX10_stay_29 : decode cX10_stay 29 = .ok (.invokestatic 137, 3) := by decide +kernel
theorem dX10_stay_32 : decode cX10_stay 32 = .ok (.iastore, 1) := by decide +kernel
theorem dX10_stay_33 : decode cX10_stay 33 = .ok (.return_, 1) := by decide +kernel
theorem dX10_lackOf_0 : decode cX10_lackOf 0 = .ok (.aload_n 0, 1) := by decide +kernel
theorem dX10_lackOf_1 : decode cX10_lackOf 1 = .ok (.getfield 18, 3) := by decide +kernel
theorem dX10_lackOf_4 : decode cX10_lackOf 4 = .ok (.iload_n 1, 1) := by decide +kernel
theorem dX10_lackOf_5 : decode cX10_lackOf 5 = .ok (.iaload, 1) := by decide +kernel
theorem dX10_lackOf_6 : decode cX10_lackOf 6 = .ok (.aload_n 0, 1) := by decide +kernel
theorem dX10_lackOf_7 : decode cX10_lackOf 7 = .ok (.getfield 12, 3) := by decide +kernel
theorem dX10_lackOf_10 : decode cX10_lackOf 10 = .ok (.getfield 61, 3) := by decide +kernel
theorem dX10_lackOf_13 : decode cX10_lackOf 13 = .ok (.iload_n 1, 1) := by decide +kernel
theorem dX10_lackOf_14 : decode cX10_lackOf 14 = .ok (.iaload, 1) := by decide +kernel
theorem dX10_lackOf_15 : decode cX10_lackOf 15 = .ok (.iconst (-1), 1) := by decide +kernel
theorem dX10_lackOf_16 : decode cX10_lackOf 16 = .ok (.ixor, 1) := by decide +kernel
theorem dX10_lackOf_17 : decode cX10_lackOf 17 = .ok (.iand, 1) := by decide +kernel
theorem dX10_lackOf_18 : decode cX10_lackOf 18 = .ok (.invokestatic 140, 3) := by decide +kernel
theorem dX10_lackOf_21 : decode cX10_lackOf 21 = .ok (.ireturn, 1) := by decide +kernel
theorem dX11_init_0 : decode cX11_init 0 = .ok (.aload_n 0, 1) := by decide +kernel
theorem dX11_init_1 : decode cX11_init 1 = .ok (.invokespecial 1, 3) := by decide +kernel
theorem dX11_init_4 : decode cX11_init 4 = .ok (.aload_n 0, 1) := by decide +kernel
theorem dX11_init_5 : decode cX11_init 5 = .ok (.new 7, 3) := by decide +kernel
theorem dX11_init_8 : decode cX11_init 8 = .ok (.dup, 1) := by decide +kernel
theorem dX11_init_9 : decode cX11_init 9 = .ok (.invokespecial 9, 3) := by decide +kernel
theorem dX11_init_12 : decode cX11_init 12 = .ok (.putfield 10, 3) := by decide +kernel
theorem dX11_init_15 : decode cX11_init 15 = .ok (.aload_n 0, 1) := by decide +kernel
theorem dX11_init_16 : decode cX11_init 16 = .ok (.new 16, 3) := by decide +kernel
theorem dX11_init_19 : decode cX11_init 19 = .ok (.dup, 1) := by decide +kernel
theorem dX11_init_20 : decode cX11_init 20 = .ok (.invokespecial 18, 3) := by decide +kernel
theorem dX11_init_23 : decode cX11_init 23 = .ok (.putfield 19, 3) := by decide +kernel
theorem dX11_init_26 : decode cX11_init 26 = .ok (.aload_n 0, 1) := by decide +kernel
theorem dX11_init_27 : decode cX11_init 27 = .ok (.new 23, 3) := by decide +kernel
theorem dX11_init_30 : decode cX11_init 30 = .ok (.dup, 1) := by decide +kernel
theorem dX11_init_31 : decode cX11_init 31 = .ok (.invokespecial 25, 3) := by decide +kernel
theorem dX11_init_34 : decode cX11_init 34 = .ok (.putfield 26, 3) := by decide +kernel
theorem dX11_init_37 : decode cX11_init 37 = .ok (.aload_n 0, 1) := by decide +kernel
theorem dX11_init_38 : decode cX11_init 38 = .ok (.new 30, 3) := by decide +kernel
theorem dX11_init_41 : decode cX11_init 41 = .ok (.dup, 1) := by decide +kernel
theorem dX11_init_42 : decode cX11_init 42 = .ok (.invokespecial 32, 3) := by decide +kernel
theorem dX11_init_45 : decode cX11_init 45 = .ok (.putfield 33, 3) := by decide +kernel
theorem dX11_init_48 : decode cX11_init 48 = .ok (.aload_n 0, 1) := by decide +kernel
theorem dX11_init_49 : decode cX11_init 49 = .ok (.iconst 3, 1) := by decide +kernel
theorem dX11_init_50 : decode cX11_init 50 = .ok (.newarray .int, 2) := by decide +kernel
theorem dX11_init_52 : decode cX11_init 52 = .ok (.putfield 37, 3) := by decide +kernel
theorem dX11_init_55 : decode cX11_init 55 = .ok (.aload_n 0, 1) := by decide +kernel
theorem dX11_init_56 : decode cX11_init 56 = .ok (.new 41, 3) := by decide +kernel
theorem dX11_init_59 : decode cX11_init 59 = .ok (.dup, 1) := by decide +kernel
theorem dX11_init_60 : decode cX11_init 60 = .ok (.invokespecial 43, 3) := by decide +kernel
theorem dX11_init_63 : decode cX11_init 63 = .ok (.putfield 44, 3) := by decide +kernel
theorem dX11_init_66 : decode cX11_init 66 = .ok (.aload_n 0, 1) := by decide +kernel
theorem dX11_init_67 : decode cX11_init 67 = .ok (.new 48, 3) := by decide +kernel
theorem dX11_init_70 : decode cX11_init 70 = .ok (.dup, 1) := by decide +kernel
theorem dX11_init_71 : decode cX11_init 71 = .ok (.invokespecial 50, 3) := by decide +kernel
theorem dX11_init_74 : decode cX11_init 74 = .ok (.putfield 51, 3) := by decide +kernel
theorem dX11_init_77 : decode cX11_init 77 = .ok (.aload_n 0, 1) := by decide +kernel
theorem dX11_init_78 : decode cX11_init 78 = .ok (.bipush 10, 2) := by decide +kernel
theorem dX11_init_80 : decode cX11_init 80 = .ok (.newarray .int, 2) := by decide +kernel
theorem dX11_init_82 : decode cX11_init 82 = .ok (.putfield 55, 3) := by decide +kernel
theorem dX11_init_85 : decode cX11_init 85 = .ok (.aload_n 0, 1) := by decide +kernel
theorem dX11_init_86 : decode cX11_init 86 = .ok (.iconst (-1), 1) := by decide +kernel
theorem dX11_init_87 : decode cX11_init 87 = .ok (.putfield 58, 3) := by decide +kernel
theorem dX11_init_90 : decode cX11_init 90 = .ok (.aload_n 0, 1) := by decide +kernel
theorem dX11_init_91 : decode cX11_init 91 = .ok (.iconst 0, 1) := by decide +kernel
theorem dX11_init_92 : decode cX11_init 92 = .ok (.putfield 62, 3) := by decide +kernel
theorem dX11_init_95 : decode cX11_init 95 = .ok (.new 65, 3) := by decide +kernel
theorem dX11_init_98 : decode cX11_init 98 = .ok (.dup, 1) := by decide +kernel
theorem dX11_init_99 : decode cX11_init 99 = .ok (.invokespecial 67, 3) := by decide +kernel
theorem dX11_init_102 : decode cX11_init 102 = .ok (.astore_n 1, 1) := by decide +kernel
theorem dX11_init_103 : decode cX11_init 103 = .ok (.aload_n 0, 1) := by decide +kernel
theorem dX11_init_104 : decode cX11_init 104 = .ok (.aload_n 1, 1) := by decide +kernel
theorem dX11_init_105 : decode cX11_init 105 = .ok (.putfield 68, 3) := by decide +kernel
theorem dX11_init_108 : decode cX11_init 108 = .ok (.aload_n 0, 1) := by decide +kernel
theorem dX11_init_109 : decode cX11_init 109 = .ok (.new 72, 3) := by decide +kernel
theorem dX11_init_112 : decode cX11_init 112 = .ok (.dup, 1) := by decide +kernel
theorem dX11_init_113 : decode cX11_init 113 = .ok (.aload_n 1, 1) := by decide +kernel
theorem dX11_init_114 : decode cX11_init 114 = .ok (.invokespecial 74, 3) := by decide +kernel
theorem dX11_init_117 : decode cX11_init 117 = .ok (.putfield 77, 3) := by decide +kernel
theorem dX11_init_120 : decode cX11_init 120 = .ok (.return_, 1) := by decide +kernel
theorem dX11_feed_0 : decode cX11_feed 0 = .ok (.aload_n 0, 1) := by decide +kernel
theorem dX11_feed_1 : decode cX11_feed 1 = .ok (.getfield 10, 3) := by decide +kernel
theorem dX11_feed_4 : decode cX11_feed 4 = .ok (.getfield 81, 3) := by decide +kernel
theorem dX11_feed_7 : decode cX11_feed 7 = .ok (.astore 6, 2) := by decide +kernel
theorem dX11_feed_9 : decode cX11_feed 9 = .ok (.aload 6, 2) := by decide +kernel
theorem dX11_feed_11 : decode cX11_feed 11 = .ok (.getfield 85, 3) := by decide +kernel
theorem dX11_feed_14 : decode cX11_feed 14 = .ok (.bipush 20, 2) := by decide +kernel
theorem dX11_feed_16 : decode cX11_feed 16 = .ok (.iadd, 1) := by decide +kernel
theorem dX11_feed_17 : decode cX11_feed 17 = .ok (.sipush 700, 3) := by decide +kernel
theorem dX11_feed_20 : decode cX11_feed 20 = .ok (.if_icmp .le 5, 3) := by decide +kernel
theorem dX11_feed_23 : decode cX11_feed 23 = .ok (.iconst (-1), 1) := by decide +kernel
theorem dX11_feed_24 : decode cX11_feed 24 = .ok (.ireturn, 1) := by decide +kernel
theorem dX11_feed_25 : decode cX11_feed 25 = .ok (.aload 6, 2) := by decide +kernel
theorem dX11_feed_27 : decode cX11_feed 27 = .ok (.iload_n 1, 1) := by decide +kernel
theorem dX11_feed_28 : decode cX11_feed 28 = .ok (.invokevirtual 90, 3) := by decide +kernel
theorem dX11_feed_31 : decode cX11_feed 31 = .ok (.aload 6, 2) := by decide +kernel
theorem dX11_feed_33 : decode cX11_feed 33 = .ok (.iload_n 2, 1) := by decide +kernel
theorem dX11_feed_34 : decode cX11_feed 34 = .ok (.invokevirtual 90, 3) := by decide +kernel
theorem dX11_feed_37 : decode cX11_feed 37 = .ok (.aload 6, 2) := by decide +kernel
theorem dX11_feed_39 : decode cX11_feed 39 = .ok (.iload_n 3, 1) := by decide +kernel
theorem dX11_feed_40 : decode cX11_feed 40 = .ok (.invokevirtual 90, 3) := by decide +kernel
theorem dX11_feed_43 : decode cX11_feed 43 = .ok (.aload 6, 2) := by decide +kernel
theorem dX11_feed_45 : decode cX11_feed 45 = .ok (.iload 4, 2) := by decide +kernel
theorem dX11_feed_47 : decode cX11_feed 47 = .ok (.invokevirtual 90, 3) := by decide +kernel
theorem dX11_feed_50 : decode cX11_feed 50 = .ok (.aload 6, 2) := by decide +kernel
theorem dX11_feed_52 : decode cX11_feed 52 = .ok (.iload 5, 2) := by decide +kernel
theorem dX11_feed_54 : decode cX11_feed 54 = .ok (.invokevirtual 90, 3) := by decide +kernel
theorem dX11_feed_57 : decode cX11_feed 57 = .ok (.aload 6, 2) := by decide +kernel
theorem dX11_feed_59 : decode cX11_feed 59 = .ok (.getfield 85, 3) := by decide +kernel
theorem dX11_feed_62 : decode cX11_feed 62 = .ok (.ireturn, 1) := by decide +kernel
theorem dX11_shore_0 : decode cX11_shore 0 = .ok (.iload_n 1, 1) := by decide +kernel
theorem dX11_shore_1 : decode cX11_shore 1 = .ok (.iconst 0, 1) := by decide +kernel
theorem dX11_shore_2 : decode cX11_shore 2 = .ok (.aload_n 0, 1) := by decide +kernel
theorem dX11_shore_3 : decode cX11_shore 3 = .ok (.getfield 10, 3) := by decide +kernel
theorem dX11_shore_6 : decode cX11_shore 6 = .ok (.getfield 81, 3) := by decide +kernel
theorem dX11_shore_9 : decode cX11_shore 9 = .ok (.getfield 85, 3) := by decide +kernel
theorem dX11_shore_12 : decode cX11_shore 12 = .ok (.invokestatic 94, 3) := by decide +kernel
theorem dX11_shore_15 : decode cX11_shore 15 = .ok (.aload_n 0, 1) := by decide +kernel
theorem dX11_shore_16 : decode cX11_shore 16 = .ok (.getfield 10, 3) := by decide +kernel
theorem dX11_shore_19 : decode cX11_shore 19 = .ok (.iload_n 1, 1) := by decide +kernel
theorem dX11_shore_20 : decode cX11_shore 20 = .ok (.invokevirtual 98, 3) := by decide +kernel
theorem dX11_shore_23 : decode cX11_shore 23 = .ok (.istore_n 2, 1) := by decide +kernel
theorem dX11_shore_24 : decode cX11_shore 24 = .ok (.aload_n 0, 1) := by decide +kernel
theorem dX11_shore_25 : decode cX11_shore 25 = .ok (.getfield 10, 3) := by decide +kernel
theorem dX11_shore_28 : decode cX11_shore 28 = .ok (.getfield 81, 3) := by decide +kernel
theorem dX11_shore_31 : decode cX11_shore 31 = .ok (.iconst 0, 1) := by decide +kernel
theorem dX11_shore_32 : decode cX11_shore 32 = .ok (.putfield 85, 3) := by decide +kernel
theorem dX11_shore_35 : decode cX11_shore 35 = .ok (.aload_n 0, 1) := by decide +kernel
theorem dX11_shore_36 : decode cX11_shore 36 = .ok (.aload_n 0, 1) := by decide +kernel
theorem dX11_shore_37 : decode cX11_shore 37 = .ok (.getfield 10, 3) := by decide +kernel
theorem dX11_shore_40 : decode cX11_shore 40 = .ok (.getfield 102, 3) := by decide +kernel
theorem dX11_shore_43 : decode cX11_shore 43 = .ok (.putfield 58, 3) := by decide +kernel
theorem dX11_shore_46 : decode cX11_shore 46 = .ok (.iload_n 2, 1) := by decide +kernel
theorem dX11_shore_47 : decode cX11_shore 47 = .ok (.ifCond .eq 15, 3) := by decide +kernel
theorem dX11_shore_50 : decode cX11_shore 50 = .ok (.aload_n 0, 1) := by decide +kernel
theorem dX11_shore_51 : decode cX11_shore 51 = .ok (.getfield 37, 3) := by decide +kernel
theorem dX11_shore_54 : decode cX11_shore 54 = .ok (.iconst 0, 1) := by decide +kernel
theorem dX11_shore_55 : decode cX11_shore 55 = .ok (.dup2, 1) := by decide +kernel
theorem dX11_shore_56 : decode cX11_shore 56 = .ok (.iaload, 1) := by decide +kernel
theorem dX11_shore_57 : decode cX11_shore 57 = .ok (.iconst 1, 1) := by decide +kernel
theorem dX11_shore_58 : decode cX11_shore 58 = .ok (.iadd, 1) := by decide +kernel
theorem dX11_shore_59 : decode cX11_shore 59 = .ok (.iastore, 1) := by decide +kernel
theorem dX11_shore_60 : decode cX11_shore 60 = .ok (.iload_n 2, 1) := by decide +kernel
theorem dX11_shore_61 : decode cX11_shore 61 = .ok (.ireturn, 1) := by decide +kernel
theorem dX11_shore_62 : decode cX11_shore 62 = .ok (.aload_n 0, 1) := by decide +kernel
theorem dX11_shore_63 : decode cX11_shore 63 = .ok (.aload_n 0, 1) := by decide +kernel
theorem dX11_shore_64 : decode cX11_shore 64 = .ok (.getfield 10, 3) := by decide +kernel
theorem dX11_shore_67 : decode cX11_shore 67 = .ok (.aload_n 0, 1) := by decide +kernel
theorem dX11_shore_68 : decode cX11_shore 68 = .ok (.getfield 68, 3) := by decide +kernel
theorem dX11_shore_71 : decode cX11_shore 71 = .ok (.invokevirtual 105, 3) := by decide +kernel
theorem dX11_shore_74 : decode cX11_shore 74 = .ok (.putfield 68, 3) := by decide +kernel
theorem dX11_shore_77 : decode cX11_shore 77 = .ok (.aload_n 0, 1) := by decide +kernel
theorem dX11_shore_78 : decode cX11_shore 78 = .ok (.getfield 19, 3) := by decide +kernel
theorem dX11_shore_81 : decode cX11_shore 81 = .ok (.aload_n 0, 1) := by decide +kernel
theorem dX11_shore_82 : decode cX11_shore 82 = .ok (.getfield 68, 3) := by decide +kernel
theorem dX11_shore_85 : decode cX11_shore 85 = .ok (.invokevirtual 109, 3) := by decide +kernel
theorem dX11_shore_88 : decode cX11_shore 88 = .ok (.aload_n 0, 1) := by decide +kernel
theorem dX11_shore_89 : decode cX11_shore 89 = .ok (.getfield 26, 3) := by decide +kernel
theorem dX11_shore_92 : decode cX11_shore 92 = .ok (.invokevirtual 112, 3) := by decide +kernel
theorem dX11_shore_95 : decode cX11_shore 95 = .ok (.aload_n 0, 1) := by decide +kernel
theorem dX11_shore_96 : decode cX11_shore 96 = .ok (.getfield 33, 3) := by decide +kernel
theorem dX11_shore_99 : decode cX11_shore 99 = .ok (.invokevirtual 115, 3) := by decide +kernel
theorem dX11_shore_102 : decode cX11_shore 102 = .ok (.aload_n 0, 1) := by decide +kernel
theorem dX11_shore_103 : decode cX11_shore 103 = .ok (.getfield 44, 3) := by decide +kernel
theorem dX11_shore_106 : decode cX11_shore 106 = .ok (.iconst 0, 1) := by decide +kernel
theorem dX11_shore_107 : decode cX11_shore 107 = .ok (.putfield 116, 3) := by decide +kernel
theorem dX11_shore_110 : decode cX11_shore 110 = .ok (.iconst 0, 1) := by decide +kernel
theorem dX11_shore_111 : decode cX11_shore 111 = .ok (.ireturn, 1) := by decide +kernel
theorem dX11_fault_0 : decode cX11_fault 0 = .ok (.aload_n 0, 1) := by decide +kernel
theorem dX11_fault_1 : decode cX11_fault 1 = .ok (.getfield 58, 3) := by decide +kernel
theorem dX11_fault_4 : decode cX11_fault 4 = .ok (.ireturn, 1) := by decide +kernel
theorem dX11_count_0 : decode cX11_count 0 = .ok (.iload_n 1, 1) := by decide +kernel
theorem dX11_count_1 : decode cX11_count 1 = .ok (.tableswitch 232 0 14 #[75, 83, 94, 102, 110, 118, 126, 148, 166, 184, 192, 200, 211, 218, 225], 75) := by decide +kernel
theorem dX11_count_76 : decode cX11_count 76 = .ok (.aload_n 0, 1) := by decide +kernel
theorem dX11_count_77 : decode cX11_count 77 = .ok (.getfield 68, 3) := by decide +kernel
theorem dX11_count_80 : decode cX11_count 80 = .ok (.getfield 120, 3) := by decide +kernel
theorem dX11_count_83 : decode cX11_count 83 = .ok (.ireturn, 1) := by decide +kernel
theorem dX11_count_84 : decode cX11_count 84 = .ok (.aload_n 0, 1) := by decide +kernel
theorem dX11_count_85 : decode cX11_count 85 = .ok (.getfield 68, 3) := by decide +kernel
theorem dX11_count_88 : decode cX11_count 88 = .ok (.getfield 123, 3) := by decide +kernel
theorem dX11_count_91 : decode cX11_count 91 = .ok (.getfield 127, 3) := by decide +kernel
theorem dX11_count_94 : decode cX11_count 94 = .ok (.ireturn, 1) := by decide +kernel
theorem dX11_count_95 : decode cX11_count 95 = .ok (.aload_n 0, 1) := by decide +kernel
theorem dX11_count_96 : decode cX11_count 96 = .ok (.getfield 19, 3) := by decide +kernel
theorem dX11_count_99 : decode cX11_count 99 = .ok (.getfield 130, 3) := by decide +kernel
theorem dX11_count_102 : decode cX11_count 102 = .ok (.ireturn, 1) := by decide +kernel
theorem dX11_count_103 : decode cX11_count 103 = .ok (.aload_n 0, 1) := by decide +kernel
theorem dX11_count_104 : decode cX11_count 104 = .ok (.getfield 19, 3) := by decide +kernel
theorem dX11_count_107 : decode cX11_count 107 = .ok (.getfield 133, 3) := by decide +kernel
theorem dX11_count_110 : decode cX11_count 110 = .ok (.ireturn, 1) := by decide +kernel
theorem dX11_count_111 : decode cX11_count 111 = .ok (.aload_n 0, 1) := by decide +kernel
theorem dX11_count_112 : decode cX11_count 112 = .ok (.getfield 19, 3) := by decide +kernel
theorem dX11_count_115 : decode cX11_count 115 = .ok (.getfield 136, 3) := by decide +kernel
theorem dX11_count_118 : decode cX11_count 118 = .ok (.ireturn, 1) := by decide +kernel
theorem dX11_count_119 : decode cX11_count 119 = .ok (.aload_n 0, 1) := by decide +kernel
theorem dX11_count_120 : decode cX11_count 120 = .ok (.getfield 19, 3) := by decide +kernel
theorem dX11_count_123 : decode cX11_count 123 = .ok (.getfield 139, 3) := by decide +kernel
theorem dX11_count_126 : decode cX11_count 126 = .ok (.ireturn, 1) := by decide +kernel
theorem dX11_count_127 : decode cX11_count 127 = .ok (.aload_n 0, 1) := by decide +kernel
theorem dX11_count_128 : decode cX11_count 128 = .ok (.getfield 51, 3) := by decide +kernel
theorem dX11_count_131 : decode cX11_count 131 = .ok (.aload_n 0, 1) := by decide +kernel
theorem dX11_count_132 : decode cX11_count 132 = .ok (.getfield 68, 3) := by decide +kernel
theorem dX11_count_135 : decode cX11_count 135 = .ok (.getfield 123, 3) := by decide +kernel
theorem dX11_count_138 : decode cX11_count 138 = .ok (.aload_n 0, 1) := by decide +kernel
theorem dX11_count_139 : decode cX11_count 139 = .ok (.getfield 19, 3) := by decide +kernel
theorem dX11_count_142 : decode cX11_count 142 = .ok (.getfield 139, 3) := by decide +kernel
theorem dX11_count_145 : decode cX11_count 145 = .ok (.invokevirtual 142, 3) := by decide +kernel
theorem dX11_count_148 : decode cX11_count 148 = .ok (.ireturn, 1) := by decide +kernel
theorem dX11_count_149 : decode cX11_count 149 = .ok (.aload_n 0, 1) := by decide +kernel
theorem dX11_count_150 : decode cX11_count 150 = .ok (.getfield 68, 3) := by decide +kernel
theorem dX11_count_153 : decode cX11_count 153 = .ok (.getfield 123, 3) := by decide +kernel
theorem dX11_count_156 : decode cX11_count 156 = .ok (.aload_n 0, 1) := by decide +kernel
theorem dX11_count_157 : decode cX11_count 157 = .ok (.getfield 19, 3) := by decide +kernel
theorem dX11_count_160 : decode cX11_count 160 = .ok (.getfield 139, 3) := by decide +kernel
theorem dX11_count_163 : decode cX11_count 163 = .ok (.invokevirtual 146, 3) := by decide +kernel
theorem dX11_count_166 : decode cX11_count 166 = .ok (.ireturn, 1) := by decide +kernel
theorem dX11_count_167 : decode cX11_count 167 = .ok (.aload_n 0, 1) := by decide +kernel
theorem dX11_count_168 : decode cX11_count 168 = .ok (.getfield 68, 3) := by decide +kernel
theorem dX11_count_171 : decode cX11_count 171 = .ok (.getfield 123, 3) := by decide +kernel
theorem dX11_count_174 : decode cX11_count 174 = .ok (.aload_n 0, 1) := by decide +kernel
theorem dX11_count_175 : decode cX11_count 175 = .ok (.getfield 19, 3) := by decide +kernel
theorem dX11_count_178 : decode cX11_count 178 = .ok (.getfield 139, 3) := by decide +kernel
theorem dX11_count_181 : decode cX11_count 181 = .ok (.invokevirtual 149, 3) := by decide +kernel
theorem dX11_count_184 : decode cX11_count 184 = .ok (.ireturn, 1) := by decide +kernel
theorem dX11_count_185 : decode cX11_count 185 = .ok (.aload_n 0, 1) := by decide +kernel
theorem dX11_count_186 : decode cX11_count 186 = .ok (.getfield 26, 3) := by decide +kernel
theorem dX11_count_189 : decode cX11_count 189 = .ok (.getfield 152, 3) := by decide +kernel
theorem dX11_count_192 : decode cX11_count 192 = .ok (.ireturn, 1) := by decide +kernel
theorem dX11_count_193 : decode cX11_count 193 = .ok (.aload_n 0, 1) := by decide +kernel
theorem dX11_count_194 : decode cX11_count 194 = .ok (.getfield 33, 3) := by decide +kernel
theorem dX11_count_197 : decode cX11_count 197 = .ok (.getfield 153, 3) := by decide +kernel
theorem dX11_count_200 : decode cX11_count 200 = .ok (.ireturn, 1) := by decide +kernel
theorem dX11_count_201 : decode cX11_count 201 = .ok (.aload_n 0, 1) := by decide +kernel
theorem dX11_count_202 : decode cX11_count 202 = .ok (.getfield 10, 3) := by decide +kernel
theorem dX11_count_205 : decode cX11_count 205 = .ok (.getfield 81, 3) := by decide +kernel
theorem dX11_count_208 : decode cX11_count 208 = .ok (.getfield 85, 3) := by decide +kernel
theorem dX11_count_211 : decode cX11_count 211 = .ok (.ireturn, 1) := by decide +kernel
theorem dX11_count_212 : decode cX11_count 212 = .ok (.aload_n 0, 1) := by decide +kernel
theorem dX11_count_213 : decode cX11_count 213 = .ok (.getfield 37, 3) := by decide +kernel
theorem dX11_count_216 : decode cX11_count 216 = .ok (.iconst 0, 1) := by decide +kernel
theorem dX11_count_217 : decode cX11_count 217 = .ok (.iaload, 1) := by decide +kernel
theorem dX11_count_218 : decode cX11_count 218 = .ok (.ireturn, 1) := by decide +kernel
theorem dX11_count_219 : decode cX11_count 219 = .ok (.aload_n 0, 1) := by decide +kernel
theorem dX11_count_220 : decode cX11_count 220 = .ok (.getfield 37, 3) := by decide +kernel
theorem dX11_count_223 : decode cX11_count 223 = .ok (.iconst 1, 1) := by decide +kernel
theorem dX11_count_224 : decode cX11_count 224 = .ok (.iaload, 1) := by decide +kernel
theorem dX11_count_225 : decode cX11_count 225 = .ok (.ireturn, 1) := by decide +kernel
theorem dX11_count_226 : decode cX11_count 226 = .ok (.aload_n 0, 1) := by decide +kernel
theorem dX11_count_227 : decode cX11_count 227 = .ok (.getfield 37, 3) := by decide +kernel
theorem dX11_count_230 : decode cX11_count 230 = .ok (.iconst 2, 1) := by decide +kernel
theorem dX11_count_231 : decode cX11_count 231 = .ok (.iaload, 1) := by decide +kernel
theorem dX11_count_232 : decode cX11_count 232 = .ok (.ireturn, 1) := by decide +kernel
theorem dX11_count_233 : decode cX11_count 233 = .ok (.new 154, 3) := by decide +kernel
theorem dX11_count_236 : decode cX11_count 236 = .ok (.dup, 1) := by decide +kernel
theorem dX11_count_237 : decode cX11_count 237 = .ok (.ldc 156, 2) := by decide +kernel
theorem dX11_count_239 : decode cX11_count 239 = .ok (.invokespecial 158, 3) := by decide +kernel
theorem dX11_count_242 : decode cX11_count 242 = .ok (.athrow, 1) := by decide +kernel
theorem dX11_worth_0 : decode cX11_worth 0 = .ok (.iload_n 1, 1) := by decide +kernel
theorem dX11_worth_1 : decode cX11_worth 1 = .ok (.invokestatic 161, 3) := by decide +kernel
theorem dX11_worth_4 : decode cX11_worth 4 = .ok (.aload_n 0, 1) := by decide +kernel
theorem dX11_worth_5 : decode cX11_worth 5 = .ok (.getfield 68, 3) := by decide +kernel
theorem dX11_worth_8 : decode cX11_worth 8 = .ok (.getfield 164, 3) := by decide +kernel
theorem dX11_worth_11 : decode cX11_worth 11 = .ok (.iload_n 1, 1) := by decide +kernel
theorem dX11_worth_12 : decode cX11_worth 12 = .ok (.iaload, 1) := by decide +kernel
theorem dX11_worth_13 : decode cX11_worth 13 = .ok (.ireturn, 1) := by decide +kernel
theorem dX11_conditional_0 : decode cX11_conditional 0 = .ok (.aload_n 0, 1) := by decide +kernel
theorem dX11_conditional_1 : decode cX11_conditional 1 = .ok (.iload_n 1, 1) := by decide +kernel
theorem dX11_conditional_2 : decode cX11_conditional 2 = .ok (.invokevirtual 167, 3) := by decide +kernel
theorem dX11_conditional_5 : decode cX11_conditional 5 = .ok (.iload_n 2, 1) := by decide +kernel
theorem dX11_conditional_6 : decode cX11_conditional 6 = .ok (.tableswitch 116 0 4 #[34, 47, 60, 73, 96], 34) := by decide +kernel
theorem dX11_conditional_40 : decode cX11_conditional 40 = .ok (.aload_n 0, 1) := by decide +kernel
theorem dX11_conditional_41 : decode cX11_conditional 41 = .ok (.getfield 68, 3) := by decide +kernel
theorem dX11_conditional_44 : decode cX11_conditional 44 = .ok (.getfield 123, 3) := by decide +kernel
theorem dX11_conditional_47 : decode cX11_conditional 47 = .ok (.getfield 170, 3) := by decide +kernel
theorem dX11_conditional_50 : decode cX11_conditional 50 = .ok (.iload_n 1, 1) := by decide +kernel
theorem dX11_conditional_51 : decode cX11_conditional 51 = .ok (.iaload, 1) := by decide +kernel
theorem dX11_conditional_52 : decode cX11_conditional 52 = .ok (.ireturn, 1) := by decide +kernel
theorem dX11_conditional_53 : decode cX11_conditional 53 = .ok (.aload_n 0, 1) := by decide +kernel
theorem dX11_conditional_54 : decode cX11_conditional 54 = .ok (.getfield 68, 3) := by decide +kernel
theorem dX11_conditional_57 : decode cX11_conditional 57 = .ok (.getfield 123, 3) := by decide +kernel
theorem dX11_conditional_60 : decode cX11_conditional 60 = .ok (.getfield 173, 3) := by decide +kernel
theorem dX11_conditional_63 : decode cX11_conditional 63 = .ok (.iload_n 1, 1) := by decide +kernel
theorem dX11_conditional_64 : decode cX11_conditional 64 = .ok (.iaload, 1) := by decide +kernel
theorem dX11_conditional_65 : decode cX11_conditional 65 = .ok (.ireturn, 1) := by decide +kernel
theorem dX11_conditional_66 : decode cX11_conditional 66 = .ok (.aload_n 0, 1) := by decide +kernel
theorem dX11_conditional_67 : decode cX11_conditional 67 = .ok (.getfield 68, 3) := by decide +kernel
theorem dX11_conditional_70 : decode cX11_conditional 70 = .ok (.getfield 123, 3) := by decide +kernel
theorem dX11_conditional_73 : decode cX11_conditional 73 = .ok (.getfield 176, 3) := by decide +kernel
theorem dX11_conditional_76 : decode cX11_conditional 76 = .ok (.iload_n 1, 1) := by decide +kernel
theorem dX11_conditional_77 : decode cX11_conditional 77 = .ok (.iaload, 1) := by decide +kernel
theorem dX11_conditional_78 : decode cX11_conditional 78 = .ok (.ireturn, 1) := by decide +kernel
theorem dX11_conditional_79 : decode cX11_conditional 79 = .ok (.iload_n 1, 1) := by decide +kernel
theorem dX11_conditional_80 : decode cX11_conditional 80 = .ok (.aload_n 0, 1) := by decide +kernel
theorem dX11_conditional_81 : decode cX11_conditional 81 = .ok (.getfield 68, 3) := by decide +kernel
theorem dX11_conditional_84 : decode cX11_conditional 84 = .ok (.getfield 123, 3) := by decide +kernel
theorem dX11_conditional_87 : decode cX11_conditional 87 = .ok (.getfield 179, 3) := by decide +kernel
theorem dX11_conditional_90 : decode cX11_conditional 90 = .ok (.invokestatic 182, 3) := by decide +kernel
theorem dX11_conditional_93 : decode cX11_conditional 93 = .ok (.ifCond .eq 7, 3) := by decide +kernel
theorem dX11_conditional_96 : decode cX11_conditional 96 = .ok (.iconst 1, 1) := by decide +kernel
theorem dX11_conditional_97 : decode cX11_conditional 97 = .ok (.goto 4, 3) := by decide +kernel
theorem dX11_conditional_100 : decode cX11_conditional 100 = .ok (.iconst 0, 1) := by decide +kernel
theorem dX11_conditional_101 : decode cX11_conditional 101 = .ok (.ireturn, 1) := by decide +kernel
theorem dX11_conditional_102 : decode cX11_conditional 102 = .ok (.iload_n 1, 1) := by decide +kernel
theorem dX11_conditional_103 : decode cX11_conditional 103 = .ok (.aload_n 0, 1) := by decide +kernel
theorem dX11_conditional_104 : decode cX11_conditional 104 = .ok (.getfield 19, 3) := by decide +kernel
theorem dX11_conditional_107 : decode cX11_conditional 107 = .ok (.getfield 139, 3) := by decide +kernel
theorem dX11_conditional_110 : decode cX11_conditional 110 = .ok (.invokestatic 182, 3) := by decide +kernel
theorem dX11_conditional_113 : decode cX11_conditional 113 = .ok (.ifCond .eq 7, 3) := by decide +kernel
theorem dX11_conditional_116 : decode cX11_conditional 116 = .ok (.iconst 1, 1) := by decide +kernel
theorem dX11_conditional_117 : decode cX11_conditional 117 = .ok (.goto 4, 3) := by decide +kernel
theorem dX11_conditional_120 : decode cX11_conditional 120 = .ok (.iconst 0, 1) := by decide +kernel
theorem dX11_conditional_121 : decode cX11_conditional 121 = .ok (.ireturn, 1) := by decide +kernel
theorem dX11_conditional_122 : decode cX11_conditional 122 = .ok (.new 154, 3) := by decide +kernel
theorem dX11_conditional_125 : decode cX11_conditional 125 = .ok (.dup, 1) := by decide +kernel
theorem dX11_conditional_126 : decode cX11_conditional 126 = .ok (.ldc 186, 2) := by decide +kernel
theorem dX11_conditional_128 : decode cX11_conditional 128 = .ok (.invokespecial 158, 3) := by decide +kernel
theorem dX11_conditional_131 : decode cX11_conditional 131 = .ok (.athrow, 1) := by decide +kernel
theorem dX11_person_0 : decode cX11_person 0 = .ok (.aload_n 0, 1) := by decide +kernel
theorem dX11_person_1 : decode cX11_person 1 = .ok (.iload_n 1, 1) := by decide +kernel
theorem dX11_person_2 : decode cX11_person 2 = .ok (.invokevirtual 188, 3) := by decide +kernel
theorem dX11_person_5 : decode cX11_person 5 = .ok (.iload_n 2, 1) := by decide +kernel
theorem dX11_person_6 : decode cX11_person 6 = .ok (.tableswitch 136 0 7 #[46, 56, 66, 76, 86, 96, 109, 122], 46) := by decide +kernel
theorem dX11_person_52 : decode cX11_person 52 = .ok (.aload_n 0, 1) := by decide +kernel
theorem dX11_person_53 : decode cX11_person 53 = .ok (.getfield 19, 3) := by decide +kernel
theorem dX11_person_56 : decode cX11_person 56 = .ok (.getfield 191, 3) := by decide +kernel
theorem dX11_person_59 : decode cX11_person 59 = .ok (.iload_n 1, 1) := by decide +kernel
theorem dX11_person_60 : decode cX11_person 60 = .ok (.iaload, 1) := by decide +kernel
theorem dX11_person_61 : decode cX11_person 61 = .ok (.ireturn, 1) := by decide +kernel
theorem dX11_person_62 : decode cX11_person 62 = .ok (.aload_n 0, 1) := by decide +kernel
theorem dX11_person_63 : decode cX11_person 63 = .ok (.getfield 19, 3) := by decide +kernel
theorem dX11_person_66 : decode cX11_person 66 = .ok (.getfield 194, 3) := by decide +kernel
theorem dX11_person_69 : decode cX11_person 69 = .ok (.iload_n 1, 1) := by decide +kernel
theorem dX11_person_70 : decode cX11_person 70 = .ok (.iaload, 1) := by decide +kernel
theorem dX11_person_71 : decode cX11_person 71 = .ok (.ireturn, 1) := by decide +kernel
theorem dX11_person_72 : decode cX11_person 72 = .ok (.aload_n 0, 1) := by decide +kernel
theorem dX11_person_73 : decode cX11_person 73 = .ok (.getfield 68, 3) := by decide +kernel
theorem dX11_person_76 : decode cX11_person 76 = .ok (.getfield 197, 3) := by decide +kernel
theorem dX11_person_79 : decode cX11_person 79 = .ok (.iload_n 1, 1) := by decide +kernel
theorem dX11_person_80 : decode cX11_person 80 = .ok (.iaload, 1) := by decide +kernel
theorem dX11_person_81 : decode cX11_person 81 = .ok (.ireturn, 1) := by decide +kernel
theorem dX11_person_82 : decode cX11_person 82 = .ok (.aload_n 0, 1) := by decide +kernel
theorem dX11_person_83 : decode cX11_person 83 = .ok (.getfield 19, 3) := by decide +kernel
theorem dX11_person_86 : decode cX11_person 86 = .ok (.getfield 200, 3) := by decide +kernel
theorem dX11_person_89 : decode cX11_person 89 = .ok (.iload_n 1, 1) := by decide +kernel
theorem dX11_person_90 : decode cX11_person 90 = .ok (.iaload, 1) := by decide +kernel
theorem dX11_person_91 : decode cX11_person 91 = .ok (.ireturn, 1) := by decide +kernel
theorem dX11_person_92 : decode cX11_person 92 = .ok (.aload_n 0, 1) := by decide +kernel
theorem dX11_person_93 : decode cX11_person 93 = .ok (.getfield 19, 3) := by decide +kernel
theorem dX11_person_96 : decode cX11_person 96 = .ok (.getfield 203, 3) := by decide +kernel
theorem dX11_person_99 : decode cX11_person 99 = .ok (.iload_n 1, 1) := by decide +kernel
theorem dX11_person_100 : decode cX11_person 100 = .ok (.iaload, 1) := by decide +kernel
theorem dX11_person_101 : decode cX11_person 101 = .ok (.ireturn, 1) := by decide +kernel
theorem dX11_person_102 : decode cX11_person 102 = .ok (.aload_n 0, 1) := by decide +kernel
theorem dX11_person_103 : decode cX11_person 103 = .ok (.getfield 68, 3) := by decide +kernel
theorem dX11_person_106 : decode cX11_person 106 = .ok (.aload_n 0, 1) := by decide +kernel
theorem dX11_person_107 : decode cX11_person 107 = .ok (.getfield 19, 3) := by decide +kernel
theorem dX11_person_110 : decode cX11_person 110 = .ok (.iload_n 1, 1) := by decide +kernel
theorem dX11_person_111 : decode cX11_person 111 = .ok (.invokevirtual 206, 3) := by decide +kernel
theorem dX11_person_114 : decode cX11_person 114 = .ok (.ireturn, 1) := by decide +kernel
theorem dX11_person_115 : decode cX11_person 115 = .ok (.aload_n 0, 1) := by decide +kernel
theorem dX11_person_116 : decode cX11_person 116 = .ok (.getfield 68, 3) := by decide +kernel
theorem dX11_person_119 : decode cX11_person 119 = .ok (.aload_n 0, 1) := by decide +kernel
theorem dX11_person_120 : decode cX11_person 120 = .ok (.getfield 19, 3) := by decide +kernel
theorem dX11_person_123 : decode cX11_person 123 = .ok (.iload_n 1, 1) := by decide +kernel
theorem dX11_person_124 : decode cX11_person 124 = .ok (.invokevirtual 210, 3) := by decide +kernel
theorem dX11_person_127 : decode cX11_person 127 = .ok (.ireturn, 1) := by decide +kernel
theorem dX11_person_128 : decode cX11_person 128 = .ok (.aload_n 0, 1) := by decide +kernel
theorem dX11_person_129 : decode cX11_person 129 = .ok (.iload_n 1, 1) := by decide +kernel
theorem dX11_person_130 : decode cX11_person 130 = .ok (.invokevirtual 213, 3) := by decide +kernel
theorem dX11_person_133 : decode cX11_person 133 = .ok (.ifCond .eq 7, 3) := by decide +kernel
theorem dX11_person_136 : decode cX11_person 136 = .ok (.iconst 1, 1) := by decide +kernel
theorem dX11_person_137 : decode cX11_person 137 = .ok (.goto 4, 3) := by decide +kernel
theorem dX11_person_140 : decode cX11_person 140 = .ok (.iconst 0, 1) := by decide +kernel
theorem dX11_person_141 : decode cX11_person 141 = .ok (.ireturn, 1) := by decide +kernel
theorem dX11_person_142 : decode cX11_person 142 = .ok (.new 154, 3) := by decide +kernel
theorem dX11_person_145 : decode cX11_person 145 = .ok (.dup, 1) := by decide +kernel
theorem dX11_person_146 : decode cX11_person 146 = .ok (.ldc 217, 2) := by decide +kernel
theorem dX11_person_148 : decode cX11_person 148 = .ok (.invokespecial 158, 3) := by decide +kernel
theorem dX11_person_151 : decode cX11_person 151 = .ok (.athrow, 1) := by decide +kernel
theorem dX11_wantsNext_0 : decode cX11_wantsNext 0 = .ok (.aload_n 0, 1) := by decide +kernel
theorem dX11_wantsNext_1 : decode cX11_wantsNext 1 = .ok (.getfield 77, 3) := by decide +kernel
theorem dX11_wantsNext_4 : decode cX11_wantsNext 4 = .ok (.aload_n 0, 1) := by decide +kernel
theorem dX11_wantsNext_5 : decode cX11_wantsNext 5 = .ok (.getfield 68, 3) := by decide +kernel
theorem dX11_wantsNext_8 : decode cX11_wantsNext 8 = .ok (.aload_n 0, 1) := by decide +kernel
theorem dX11_wantsNext_9 : decode cX11_wantsNext 9 = .ok (.getfield 19, 3) := by decide +kernel
theorem dX11_wantsNext_12 : decode cX11_wantsNext 12 = .ok (.invokevirtual 219, 3) := by decide +kernel
theorem dX11_wantsNext_15 : decode cX11_wantsNext 15 = .ok (.aload_n 0, 1) := by decide +kernel
theorem dX11_wantsNext_16 : decode cX11_wantsNext 16 = .ok (.getfield 77, 3) := by decide +kernel
theorem dX11_wantsNext_19 : decode cX11_wantsNext 19 = .ok (.iload_n 1, 1) := by decide +kernel
theorem dX11_wantsNext_20 : decode cX11_wantsNext 20 = .ok (.invokevirtual 223, 3) := by decide +kernel
theorem dX11_wantsNext_23 : decode cX11_wantsNext 23 = .ok (.ireturn, 1) := by decide +kernel
theorem dX11_sundays_0 : decode cX11_sundays 0 = .ok (.iload_n 1, 1) := by decide +kernel
theorem dX11_sundays_1 : decode cX11_sundays 1 = .ok (.iconst 1, 1) := by decide +kernel
theorem dX11_sundays_2 : decode cX11_sundays 2 = .ok (.if_icmp .lt 24, 3) := by decide +kernel
theorem dX11_sundays_5 : decode cX11_sundays 5 = .ok (.iload_n 1, 1) := by decide +kernel
theorem dX11_sundays_6 : decode cX11_sundays 6 = .ok (.bipush 20, 2) := by decide +kernel
theorem dX11_sundays_8 : decode cX11_sundays 8 = .ok (.if_icmp .gt 18, 3) := by decide +kernel
theorem dX11_sundays_11 : decode cX11_sundays 11 = .ok (.aload_n 0, 1) := by decide +kernel
theorem dX11_sundays_12 : decode cX11_sundays 12 = .ok (.getfield 19, 3) := by decide +kernel
theorem dX11_sundays_15 : decode cX11_sundays 15 = .ok (.getfield 133, 3) := by decide +kernel
theorem dX11_sundays_18 : decode cX11_sundays 18 = .ok (.iload_n 1, 1) := by decide +kernel
theorem dX11_sundays_19 : decode cX11_sundays 19 = .ok (.iadd, 1) := by decide +kernel
theorem dX11_sundays_20 : decode cX11_sundays 20 = .ok (.sipush 999, 3) := by decide +kernel
theorem dX11_sundays_23 : decode cX11_sundays 23 = .ok (.if_icmp .le 8, 3) := by decide +kernel
theorem dX11_sundays_26 : decode cX11_sundays 26 = .ok (.aload_n 0, 1) := by decide +kernel
theorem dX11_sundays_27 : decode cX11_sundays 27 = .ok (.invokevirtual 226, 3) := by decide +kernel
theorem dX11_sundays_30 : decode cX11_sundays 30 = .ok (.ireturn, 1) := by decide +kernel
theorem dX11_sundays_31 : decode cX11_sundays 31 = .ok (.aload_n 0, 1) := by decide +kernel
theorem dX11_sundays_32 : decode cX11_sundays 32 = .ok (.getfield 26, 3) := by decide +kernel
theorem dX11_sundays_35 : decode cX11_sundays 35 = .ok (.aload_n 0, 1) := by decide +kernel
theorem dX11_sundays_36 : decode cX11_sundays 36 = .ok (.getfield 19, 3) := by decide +kernel
theorem dX11_sundays_39 : decode cX11_sundays 39 = .ok (.invokevirtual 230, 3) := by decide +kernel
theorem dX11_sundays_42 : decode cX11_sundays 42 = .ok (.aload_n 0, 1) := by decide +kernel
theorem dX11_sundays_43 : decode cX11_sundays 43 = .ok (.getfield 77, 3) := by decide +kernel
theorem dX11_sundays_46 : decode cX11_sundays 46 = .ok (.aload_n 0, 1) := by decide +kernel
theorem dX11_sundays_47 : decode cX11_sundays 47 = .ok (.getfield 68, 3) := by decide +kernel
theorem dX11_sundays_50 : decode cX11_sundays 50 = .ok (.aload_n 0, 1) := by decide +kernel
theorem dX11_sundays_51 : decode cX11_sundays 51 = .ok (.getfield 19, 3) := by decide +kernel
theorem dX11_sundays_54 : decode cX11_sundays 54 = .ok (.invokevirtual 219, 3) := by decide +kernel
theorem dX11_sundays_57 : decode cX11_sundays 57 = .ok (.iconst 0, 1) := by decide +kernel
theorem dX11_sundays_58 : decode cX11_sundays 58 = .ok (.istore_n 2, 1) := by decide +kernel
theorem dX11_sundays_59 : decode cX11_sundays 59 = .ok (.iload_n 2, 1) := by decide +kernel
theorem dX11_sundays_60 : decode cX11_sundays 60 = .ok (.iload_n 1, 1) := by decide +kernel
theorem dX11_sundays_61 : decode cX11_sundays 61 = .ok (.if_icmp .ge 16, 3) := by decide +kernel
theorem dX11_sundays_64 : decode cX11_sundays 64 = .ok (.aload_n 0, 1) := by decide +kernel
theorem dX11_sundays_65 : decode cX11_sundays 65 = .ok (.getfield 77, 3) := by decide +kernel
theorem dX11_sundays_68 : decode cX11_sundays 68 = .ok (.invokevirtual 234, 3) := by decide +kernel
theorem dX11_sundays_71 : decode cX11_sundays 71 = .ok (.iinc 2 1, 3) := by decide +kernel
theorem dX11_sundays_74 : decode cX11_sundays 74 = .ok (.goto (-15), 3) := by decide +kernel
theorem dX11_sundays_77 : decode cX11_sundays 77 = .ok (.aload_n 0, 1) := by decide +kernel
theorem dX11_sundays_78 : decode cX11_sundays 78 = .ok (.getfield 19, 3) := by decide +kernel
theorem dX11_sundays_81 : decode cX11_sundays 81 = .ok (.aload_n 0, 1) := by decide +kernel
theorem dX11_sundays_82 : decode cX11_sundays 82 = .ok (.getfield 77, 3) := by decide +kernel
theorem dX11_sundays_85 : decode cX11_sundays 85 = .ok (.getfield 237, 3) := by decide +kernel
theorem dX11_sundays_88 : decode cX11_sundays 88 = .ok (.invokevirtual 240, 3) := by decide +kernel
theorem dX11_sundays_91 : decode cX11_sundays 91 = .ok (.aload_n 0, 1) := by decide +kernel
theorem dX11_sundays_92 : decode cX11_sundays 92 = .ok (.getfield 19, 3) := by decide +kernel
theorem dX11_sundays_95 : decode cX11_sundays 95 = .ok (.getfield 133, 3) := by decide +kernel
theorem dX11_sundays_98 : decode cX11_sundays 98 = .ok (.ireturn, 1) := by decide +kernel
theorem dX11_has_0 : decode cX11_has 0 = .ok (.aload_n 0, 1) := by decide +kernel
theorem dX11_has_1 : decode cX11_has 1 = .ok (.iload_n 1, 1) := by decide +kernel
theorem dX11_has_2 : decode cX11_has 2 = .ok (.invokevirtual 188, 3) := by decide +kernel
theorem dX11_has_5 : decode cX11_has 5 = .ok (.iload_n 2, 1) := by decide +kernel
theorem dX11_has_6 : decode cX11_has 6 = .ok (.invokestatic 161, 3) := by decide +kernel
theorem dX11_has_9 : decode cX11_has 9 = .ok (.iload_n 2, 1) := by decide +kernel
theorem dX11_has_10 : decode cX11_has 10 = .ok (.aload_n 0, 1) := by decide +kernel
theorem dX11_has_11 : decode cX11_has 11 = .ok (.getfield 19, 3) := by decide +kernel
theorem dX11_has_14 : decode cX11_has 14 = .ok (.getfield 191, 3) := by decide +kernel
theorem dX11_has_17 : decode cX11_has 17 = .ok (.iload_n 1, 1) := by decide +kernel
theorem dX11_has_18 : decode cX11_has 18 = .ok (.iaload, 1) := by decide +kernel
theorem dX11_has_19 : decode cX11_has 19 = .ok (.invokestatic 182, 3) := by decide +kernel
theorem dX11_has_22 : decode cX11_has 22 = .ok (.iload_n 3, 1) := by decide +kernel
theorem dX11_has_23 : decode cX11_has 23 = .ok (.if_icmp .ne 8, 3) := by decide +kernel
theorem dX11_has_26 : decode cX11_has 26 = .ok (.aload_n 0, 1) := by decide +kernel
theorem dX11_has_27 : decode cX11_has 27 = .ok (.invokevirtual 226, 3) := by decide +kernel
theorem dX11_has_30 : decode cX11_has 30 = .ok (.ireturn, 1) := by decide +kernel
theorem dX11_has_31 : decode cX11_has 31 = .ok (.aload_n 0, 1) := by decide +kernel
theorem dX11_has_32 : decode cX11_has 32 = .ok (.getfield 26, 3) := by decide +kernel
theorem dX11_has_35 : decode cX11_has 35 = .ok (.aload_n 0, 1) := by decide +kernel
theorem dX11_has_36 : decode cX11_has 36 = .ok (.getfield 19, 3) := by decide +kernel
theorem dX11_has_39 : decode cX11_has 39 = .ok (.invokevirtual 230, 3) := by decide +kernel
theorem dX11_has_42 : decode cX11_has 42 = .ok (.aload_n 0, 1) := by decide +kernel
theorem dX11_has_43 : decode cX11_has 43 = .ok (.getfield 19, 3) := by decide +kernel
theorem dX11_has_46 : decode cX11_has 46 = .ok (.getfield 191, 3) := by decide +kernel
theorem dX11_has_49 : decode cX11_has 49 = .ok (.iload_n 1, 1) := by decide +kernel
theorem dX11_has_50 : decode cX11_has 50 = .ok (.dup2, 1) := by decide +kernel
theorem dX11_has_51 : decode cX11_has 51 = .ok (.iaload, 1) := by decide +kernel
theorem dX11_has_52 : decode cX11_has 52 = .ok (.iconst 1, 1) := by decide +kernel
theorem dX11_has_53 : decode cX11_has 53 = .ok (.iload_n 2, 1) := by decide +kernel
theorem dX11_has_54 : decode cX11_has 54 = .ok (.ishl, 1) := by decide +kernel
theorem dX11_has_55 : decode cX11_has 55 = .ok (.ixor, 1) := by decide +kernel
theorem dX11_has_56 : decode cX11_has 56 = .ok (.iastore, 1) := by decide +kernel
theorem dX11_has_57 : decode cX11_has 57 = .ok (.aload_n 0, 1) := by decide +kernel
theorem dX11_has_58 : decode cX11_has 58 = .ok (.getfield 19, 3) := by decide +kernel
theorem dX11_has_61 : decode cX11_has 61 = .ok (.getfield 191, 3) := by decide +kernel
theorem dX11_has_64 : decode cX11_has 64 = .ok (.iload_n 1, 1) := by decide +kernel
theorem dX11_has_65 : decode cX11_has 65 = .ok (.iaload, 1) := by decide +kernel
theorem dX11_has_66 : decode cX11_has 66 = .ok (.ireturn, 1) := by decide +kernel
theorem dX11_miss_0 : decode cX11_miss 0 = .ok (.aload_n 0, 1) := by decide +kernel
theorem dX11_miss_1 : decode cX11_miss 1 = .ok (.iload_n 1, 1) := by decide +kernel
theorem dX11_miss_2 : decode cX11_miss 2 = .ok (.invokevirtual 188, 3) := by decide +kernel
theorem dX11_miss_5 : decode cX11_miss 5 = .ok (.iload_n 2, 1) := by decide +kernel
theorem dX11_miss_6 : decode cX11_miss 6 = .ok (.invokestatic 161, 3) := by decide +kernel
theorem dX11_miss_9 : decode cX11_miss 9 = .ok (.aload_n 0, 1) := by decide +kernel
theorem dX11_miss_10 : decode cX11_miss 10 = .ok (.getfield 19, 3) := by decide +kernel
theorem dX11_miss_13 : decode cX11_miss 13 = .ok (.getfield 194, 3) := by decide +kernel
theorem dX11_miss_16 : decode cX11_miss 16 = .ok (.iload_n 1, 1) := by decide +kernel
theorem dX11_miss_17 : decode cX11_miss 17 = .ok (.iaload, 1) := by decide +kernel
theorem dX11_miss_18 : decode cX11_miss 18 = .ok (.istore_n 3, 1) := by decide +kernel
theorem dX11_miss_19 : decode cX11_miss 19 = .ok (.iload_n 3, 1) := by decide +kernel
theorem dX11_miss_20 : decode cX11_miss 20 = .ok (.iload_n 2, 1) := by decide +kernel
theorem dX11_miss_21 : decode cX11_miss 21 = .ok (.if_icmp .ne 8, 3) := by decide +kernel
theorem dX11_miss_24 : decode cX11_miss 24 = .ok (.aload_n 0, 1) := by decide +kernel
theorem dX11_miss_25 : decode cX11_miss 25 = .ok (.invokevirtual 226, 3) := by decide +kernel
theorem dX11_miss_28 : decode cX11_miss 28 = .ok (.ireturn, 1) := by decide +kernel
theorem dX11_miss_29 : decode cX11_miss 29 = .ok (.aload_n 0, 1) := by decide +kernel
theorem dX11_miss_30 : decode cX11_miss 30 = .ok (.getfield 26, 3) := by decide +kernel
theorem dX11_miss_33 : decode cX11_miss 33 = .ok (.aload_n 0, 1) := by decide +kernel
theorem dX11_miss_34 : decode cX11_miss 34 = .ok (.getfield 19, 3) := by decide +kernel
theorem dX11_miss_37 : decode cX11_miss 37 = .ok (.invokevirtual 230, 3) := by decide +kernel
theorem dX11_miss_40 : decode cX11_miss 40 = .ok (.aload_n 0, 1) := by decide +kernel
theorem dX11_miss_41 : decode cX11_miss 41 = .ok (.getfield 19, 3) := by decide +kernel
theorem dX11_miss_44 : decode cX11_miss 44 = .ok (.getfield 194, 3) := by decide +kernel
theorem dX11_miss_47 : decode cX11_miss 47 = .ok (.iload_n 1, 1) := by decide +kernel
theorem dX11_miss_48 : decode cX11_miss 48 = .ok (.iload_n 2, 1) := by decide +kernel
theorem dX11_miss_49 : decode cX11_miss 49 = .ok (.iastore, 1) := by decide +kernel
theorem dX11_miss_50 : decode cX11_miss 50 = .ok (.iload_n 3, 1) := by decide +kernel
theorem dX11_miss_51 : decode cX11_miss 51 = .ok (.ireturn, 1) := by decide +kernel
theorem dX11_deny_0 : decode cX11_deny 0 = .ok (.aload_n 0, 1) := by decide +kernel
theorem dX11_deny_1 : decode cX11_deny 1 = .ok (.iload_n 1, 1) := by decide +kernel
theorem dX11_deny_2 : decode cX11_deny 2 = .ok (.invokevirtual 167, 3) := by decide +kernel
theorem dX11_deny_5 : decode cX11_deny 5 = .ok (.iload_n 1, 1) := by decide +kernel
theorem dX11_deny_6 : decode cX11_deny 6 = .ok (.aload_n 0, 1) := by decide +kernel
theorem dX11_deny_7 : decode cX11_deny 7 = .ok (.getfield 19, 3) := by decide +kernel
theorem dX11_deny_10 : decode cX11_deny 10 = .ok (.getfield 139, 3) := by decide +kernel
theorem dX11_deny_13 : decode cX11_deny 13 = .ok (.invokestatic 182, 3) := by decide +kernel
theorem dX11_deny_16 : decode cX11_deny 16 = .ok (.iload_n 2, 1) := by decide +kernel
theorem dX11_deny_17 : decode cX11_deny 17 = .ok (.if_icmp .ne 10, 3) := by decide +kernel
theorem dX11_deny_20 : decode cX11_deny 20 = .ok (.aload_n 0, 1) := by decide +kernel
theorem dX11_deny_21 : decode cX11_deny 21 = .ok (.invokevirtual 226, 3) := by decide +kernel
theorem dX11_deny_24 : decode cX11_deny 24 = .ok (.pop, 1) := by decide +kernel
theorem dX11_deny_25 : decode cX11_deny 25 = .ok (.iconst 0, 1) := by decide +kernel
theorem dX11_deny_26 : decode cX11_deny 26 = .ok (.ireturn, 1) := by decide +kernel
theorem dX11_deny_27 : decode cX11_deny 27 = .ok (.aload_n 0, 1) := by decide +kernel
theorem dX11_deny_28 : decode cX11_deny 28 = .ok (.getfield 26, 3) := by decide +kernel
theorem dX11_deny_31 : decode cX11_deny 31 = .ok (.aload_n 0, 1) := by decide +kernel
theorem dX11_deny_32 : decode cX11_deny 32 = .ok (.getfield 19, 3) := by decide +kernel
theorem dX11_deny_35 : decode cX11_deny 35 = .ok (.invokevirtual 230, 3) := by decide +kernel
theorem dX11_deny_38 : decode cX11_deny 38 = .ok (.aload_n 0, 1) := by decide +kernel
theorem dX11_deny_39 : decode cX11_deny 39 = .ok (.getfield 19, 3) := by decide +kernel
theorem dX11_deny_42 : decode cX11_deny 42 = .ok (.dup, 1) := by decide +kernel
theorem dX11_deny_43 : decode cX11_deny 43 = .ok (.getfield 139, 3) := by decide +kernel
theorem dX11_deny_46 : decode cX11_deny 46 = .ok (.iconst 1, 1) := by decide +kernel
theorem dX11_deny_47 : decode cX11_deny 47 = .ok (.iload_n 1, 1) := by decide +kernel
theorem dX11_deny_48 : decode cX11_deny 48 = .ok (.ishl, 1) := by decide +kernel
theorem dX11_deny_49 : decode cX11_deny 49 = .ok (.ixor, 1) := by decide +kernel
theorem dX11_deny_50 : decode cX11_deny 50 = .ok (.putfield 139, 3) := by decide +kernel
theorem dX11_deny_53 : decode cX11_deny 53 = .ok (.iconst 1, 1) := by decide +kernel
theorem dX11_deny_54 : decode cX11_deny 54 = .ok (.ireturn, 1) := by decide +kernel
theorem dX11_bridge_0 : decode cX11_bridge 0 = .ok (.iload_n 1, 1) := by decide +kernel
theorem dX11_bridge_1 : decode cX11_bridge 1 = .ok (.iconst 1, 1) := by decide +kernel
theorem dX11_bridge_2 : decode cX11_bridge 2 = .ok (.if_icmp .lt 9, 3) := by decide +kernel
theorem dX11_bridge_5 : decode cX11_bridge 5 = .ok (.iload_n 1, 1) := by decide +kernel
theorem dX11_bridge_6 : decode cX11_bridge 6 = .ok (.bipush 8, 2) := by decide +kernel
theorem dX11_bridge_8 : decode cX11_bridge 8 = .ok (.if_icmp .le 8, 3) := by decide +kernel
theorem dX11_bridge_11 : decode cX11_bridge 11 = .ok (.aload_n 0, 1) := by decide +kernel
theorem dX11_bridge_12 : decode cX11_bridge 12 = .ok (.invokevirtual 226, 3) := by decide +kernel
theorem dX11_bridge_15 : decode cX11_bridge 15 = .ok (.ireturn, 1) := by decide +kernel
theorem dX11_bridge_16 : decode cX11_bridge 16 = .ok (.aload_n 0, 1) := by decide +kernel
theorem dX11_bridge_17 : decode cX11_bridge 17 = .ok (.getfield 19, 3) := by decide +kernel
theorem dX11_bridge_20 : decode cX11_bridge 20 = .ok (.getfield 130, 3) := by decide +kernel
theorem dX11_bridge_23 : decode cX11_bridge 23 = .ok (.istore_n 2, 1) := by decide +kernel
theorem dX11_bridge_24 : decode cX11_bridge 24 = .ok (.aload_n 0, 1) := by decide +kernel
theorem dX11_bridge_25 : decode cX11_bridge 25 = .ok (.getfield 26, 3) := by decide +kernel
theorem dX11_bridge_28 : decode cX11_bridge 28 = .ok (.aload_n 0, 1) := by decide +kernel
theorem dX11_bridge_29 : decode cX11_bridge 29 = .ok (.getfield 19, 3) := by decide +kernel
theorem dX11_bridge_32 : decode cX11_bridge 32 = .ok (.invokevirtual 230, 3) := by decide +kernel
theorem dX11_bridge_35 : decode cX11_bridge 35 = .ok (.aload_n 0, 1) := by decide +kernel
theorem dX11_bridge_36 : decode cX11_bridge 36 = .ok (.getfield 19, 3) := by decide +kernel
theorem dX11_bridge_39 : decode cX11_bridge 39 = .ok (.iload_n 1, 1) := by decide +kernel
theorem dX11_bridge_40 : decode cX11_bridge 40 = .ok (.putfield 130, 3) := by decide +kernel
theorem dX11_bridge_43 : decode cX11_bridge 43 = .ok (.iload_n 2, 1) := by decide +kernel
theorem dX11_bridge_44 : decode cX11_bridge 44 = .ok (.ireturn, 1) := by decide +kernel
theorem dX11_refuseAct_0 : decode cX11_refuseAct 0 = .ok (.aload_n 0, 1) := by decide +kernel
theorem dX11_refuseAct_1 : decode cX11_refuseAct 1 = .ok (.getfield 37, 3) := by decide +kernel
theorem dX11_refuseAct_4 : decode cX11_refuseAct 4 = .ok (.iconst 1, 1) := by decide +kernel
theorem dX11_refuseAct_5 : decode cX11_refuseAct 5 = .ok (.dup2, 1) := by decide +kernel
theorem dX11_refuseAct_6 : decode cX11_refuseAct 6 = .ok (.iaload, 1) := by decide +kernel
theorem dX11_refuseAct_7 : decode cX11_refuseAct 7 = .ok (.iconst 1, 1) := by decide +kernel
theorem dX11_refuseAct_8 : decode cX11_refuseAct 8 = .ok (.iadd, 1) := by decide +kernel
theorem dX11_refuseAct_9 : decode cX11_refuseAct 9 = .ok (.iastore, 1) := by decide +kernel
theorem dX11_refuseAct_10 : decode cX11_refuseAct 10 = .ok (.iconst (-1), 1) := by decide +kernel
theorem dX11_refuseAct_11 : decode cX11_refuseAct 11 = .ok (.ireturn, 1) := by decide +kernel
theorem dX11_undo_0 : decode cX11_undo 0 = .ok (.aload_n 0, 1) := by decide +kernel
theorem dX11_undo_1 : decode cX11_undo 1 = .ok (.getfield 26, 3) := by decide +kernel
theorem dX11_undo_4 : decode cX11_undo 4 = .ok (.aload_n 0, 1) := by decide +kernel
theorem dX11_undo_5 : decode cX11_undo 5 = .ok (.getfield 19, 3) := by decide +kernel
theorem dX11_undo_8 : decode cX11_undo 8 = .ok (.invokevirtual 243, 3) := by decide +kernel
theorem dX11_undo_11 : decode cX11_undo 11 = .ok (.ifCond .eq 13, 3) := by decide +kernel
theorem dX11_undo_14 : decode cX11_undo 14 = .ok (.aload_n 0, 1) := by decide +kernel
theorem dX11_undo_15 : decode cX11_undo 15 = .ok (.getfield 26, 3) := by decide +kernel
theorem dX11_undo_18 : decode cX11_undo 18 = .ok (.getfield 152, 3) := by decide +kernel
theorem dX11_undo_21 : decode cX11_undo 21 = .ok (.goto 4, 3) := by decide +kernel
theorem dX11_undo_24 : decode cX11_undo 24 = .ok (.iconst (-1), 1) := by decide +kernel
theorem dX11_undo_25 : decode cX11_undo 25 = .ok (.ireturn, 1) := by decide +kernel
theorem dX11_crossing_0 : decode cX11_crossing 0 = .ok (.iload_n 1, 1) := by decide +kernel
theorem dX11_crossing_1 : decode cX11_crossing 1 = .ok (.iconst 1, 1) := by decide +kernel
theorem dX11_crossing_2 : decode cX11_crossing 2 = .ok (.bipush 60, 2) := by decide +kernel
theorem dX11_crossing_4 : decode cX11_crossing 4 = .ok (.invokestatic 94, 3) := by decide +kernel
theorem dX11_crossing_7 : decode cX11_crossing 7 = .ok (.aload_n 0, 1) := by decide +kernel
theorem dX11_crossing_8 : decode cX11_crossing 8 = .ok (.getfield 77, 3) := by decide +kernel
theorem dX11_crossing_11 : decode cX11_crossing 11 = .ok (.aload_n 0, 1) := by decide +kernel
theorem dX11_crossing_12 : decode cX11_crossing 12 = .ok (.getfield 68, 3) := by decide +kernel
theorem dX11_crossing_15 : decode cX11_crossing 15 = .ok (.aload_n 0, 1) := by decide +kernel
theorem dX11_crossing_16 : decode cX11_crossing 16 = .ok (.getfield 19, 3) := by decide +kernel
theorem dX11_crossing_19 : decode cX11_crossing 19 = .ok (.invokevirtual 219, 3) := by decide +kernel
theorem dX11_crossing_22 : decode cX11_crossing 22 = .ok (.iconst 0, 1) := by decide +kernel
theorem dX11_crossing_23 : decode cX11_crossing 23 = .ok (.istore_n 2, 1) := by decide +kernel
theorem dX11_crossing_24 : decode cX11_crossing 24 = .ok (.iload_n 2, 1) := by decide +kernel
theorem dX11_crossing_25 : decode cX11_crossing 25 = .ok (.iload_n 1, 1) := by decide +kernel
theorem dX11_crossing_26 : decode cX11_crossing 26 = .ok (.if_icmp .ge 16, 3) := by decide +kernel
theorem dX11_crossing_29 : decode cX11_crossing 29 = .ok (.aload_n 0, 1) := by decide +kernel
theorem dX11_crossing_30 : decode cX11_crossing 30 = .ok (.getfield 77, 3) := by decide +kernel
theorem dX11_crossing_33 : decode cX11_crossing 33 = .ok (.invokevirtual 234, 3) := by decide +kernel
theorem dX11_crossing_36 : decode cX11_crossing 36 = .ok (.iinc 2 1, 3) := by decide +kernel
theorem dX11_crossing_39 : decode cX11_crossing 39 = .ok (.goto (-15), 3) := by decide +kernel
theorem dX11_crossing_42 : decode cX11_crossing 42 = .ok (.aload_n 0, 1) := by decide +kernel
theorem dX11_crossing_43 : decode cX11_crossing 43 = .ok (.getfield 77, 3) := by decide +kernel
theorem dX11_crossing_46 : decode cX11_crossing 46 = .ok (.getfield 237, 3) := by decide +kernel
theorem dX11_crossing_49 : decode cX11_crossing 49 = .ok (.getfield 136, 3) := by decide +kernel
theorem dX11_crossing_52 : decode cX11_crossing 52 = .ok (.ireturn, 1) := by decide +kernel
theorem dX11_then_0 : decode cX11_then 0 = .ok (.aload_n 0, 1) := by decide +kernel
theorem dX11_then_1 : decode cX11_then 1 = .ok (.iload_n 1, 1) := by decide +kernel
theorem dX11_then_2 : decode cX11_then 2 = .ok (.invokevirtual 188, 3) := by decide +kernel
theorem dX11_then_5 : decode cX11_then 5 = .ok (.iload_n 3, 1) := by decide +kernel
theorem dX11_then_6 : decode cX11_then 6 = .ok (.iconst 1, 1) := by decide +kernel
theorem dX11_then_7 : decode cX11_then 7 = .ok (.invokestatic 247, 3) := by decide +kernel
theorem dX11_then_10 : decode cX11_then 10 = .ok (.iload_n 2, 1) := by decide +kernel
theorem dX11_then_11 : decode cX11_then 11 = .ok (.iconst 0, 1) := by decide +kernel
theorem dX11_then_12 : decode cX11_then 12 = .ok (.bipush 60, 2) := by decide +kernel
theorem dX11_then_14 : decode cX11_then 14 = .ok (.invokestatic 94, 3) := by decide +kernel
theorem dX11_then_17 : decode cX11_then 17 = .ok (.aload_n 0, 1) := by decide +kernel
theorem dX11_then_18 : decode cX11_then 18 = .ok (.getfield 77, 3) := by decide +kernel
theorem dX11_then_21 : decode cX11_then 21 = .ok (.aload_n 0, 1) := by decide +kernel
theorem dX11_then_22 : decode cX11_then 22 = .ok (.getfield 68, 3) := by decide +kernel
theorem dX11_then_25 : decode cX11_then 25 = .ok (.aload_n 0, 1) := by decide +kernel
theorem dX11_then_26 : decode cX11_then 26 = .ok (.getfield 19, 3) := by decide +kernel
theorem dX11_then_29 : decode cX11_then 29 = .ok (.invokevirtual 219, 3) := by decide +kernel
theorem dX11_then_32 : decode cX11_then 32 = .ok (.iconst 0, 1) := by decide +kernel
theorem dX11_then_33 : decode cX11_then 33 = .ok (.istore 4, 2) := by decide +kernel
theorem dX11_then_35 : decode cX11_then 35 = .ok (.iload 4, 2) := by decide +kernel
theorem dX11_then_37 : decode cX11_then 37 = .ok (.iload_n 2, 1) := by decide +kernel
theorem dX11_then_38 : decode cX11_then 38 = .ok (.if_icmp .ge 16, 3) := by decide +kernel
theorem dX11_then_41 : decode cX11_then 41 = .ok (.aload_n 0, 1) := by decide +kernel
theorem dX11_then_42 : decode cX11_then 42 = .ok (.getfield 77, 3) := by decide +kernel
theorem dX11_then_45 : decode cX11_then 45 = .ok (.invokevirtual 234, 3) := by decide +kernel
theorem dX11_then_48 : decode cX11_then 48 = .ok (.iinc 4 1, 3) := by decide +kernel
theorem dX11_then_51 : decode cX11_then 51 = .ok (.goto (-16), 3) := by decide +kernel
theorem dX11_then_54 : decode cX11_then 54 = .ok (.iload_n 3, 1) := by decide +kernel
theorem dX11_then_55 : decode cX11_then 55 = .ok (.ifCond .ne 18, 3) := by decide +kernel
theorem dX11_then_58 : decode cX11_then 58 = .ok (.aload_n 0, 1) := by decide +kernel
theorem dX11_then_59 : decode cX11_then 59 = .ok (.getfield 77, 3) := by decide +kernel
theorem dX11_then_62 : decode cX11_then 62 = .ok (.getfield 237, 3) := by decide +kernel
theorem dX11_then_65 : decode cX11_then 65 = .ok (.getfield 200, 3) := by decide +kernel
theorem dX11_then_68 : decode cX11_then 68 = .ok (.iload_n 1, 1) := by decide +kernel
theorem dX11_then_69 : decode cX11_then 69 = .ok (.iaload, 1) := by decide +kernel
theorem dX11_then_70 : decode cX11_then 70 = .ok (.goto 15, 3) := by decide +kernel
theorem dX11_then_73 : decode cX11_then 73 = .ok (.aload_n 0, 1) := by decide +kernel
theorem dX11_then_74 : decode cX11_then 74 = .ok (.getfield 77, 3) := by decide +kernel
theorem dX11_then_77 : decode cX11_then 77 = .ok (.getfield 237, 3) := by decide +kernel
theorem dX11_then_80 : decode cX11_then 80 = .ok (.getfield 203, 3) := by decide +kernel
theorem dX11_then_83 : decode cX11_then 83 = .ok (.iload_n 1, 1) := by decide +kernel
theorem dX11_then_84 : decode cX11_then 84 = .ok (.iaload, 1) := by decide +kernel
theorem dX11_then_85 : decode cX11_then 85 = .ok (.ireturn, 1) := by decide +kernel
theorem dX11_first_0 : decode cX11_first 0 = .ok (.aload_n 0, 1) := by decide +kernel
theorem dX11_first_1 : decode cX11_first 1 = .ok (.iload_n 1, 1) := by decide +kernel
theorem dX11_first_2 : decode cX11_first 2 = .ok (.invokevirtual 188, 3) := by decide +kernel
theorem dX11_first_5 : decode cX11_first 5 = .ok (.aload_n 0, 1) := by decide +kernel
theorem dX11_first_6 : decode cX11_first 6 = .ok (.getfield 77, 3) := by decide +kernel
theorem dX11_first_9 : decode cX11_first 9 = .ok (.aload_n 0, 1) := by decide +kernel
theorem dX11_first_10 : decode cX11_first 10 = .ok (.getfield 68, 3) := by decide +kernel
theorem dX11_first_13 : decode cX11_first 13 = .ok (.aload_n 0, 1) := by decide +kernel
theorem dX11_first_14 : decode cX11_first 14 = .ok (.getfield 19, 3) := by decide +kernel
theorem dX11_first_17 : decode cX11_first 17 = .ok (.invokevirtual 219, 3) := by decide +kernel
theorem dX11_first_20 : decode cX11_first 20 = .ok (.iconst 1, 1) := by decide +kernel
theorem dX11_first_21 : decode cX11_first 21 = .ok (.istore_n 2, 1) := by decide +kernel
theorem dX11_first_22 : decode cX11_first 22 = .ok (.iload_n 2, 1) := by decide +kernel
theorem dX11_first_23 : decode cX11_first 23 = .ok (.bipush 60, 2) := by decide +kernel
theorem dX11_first_25 : decode cX11_first 25 = .ok (.if_icmp .gt 35, 3) := by decide +kernel
theorem dX11_first_28 : decode cX11_first 28 = .ok (.aload_n 0, 1) := by decide +kernel
theorem dX11_first_29 : decode cX11_first 29 = .ok (.getfield 77, 3) := by decide +kernel
theorem dX11_first_32 : decode cX11_first 32 = .ok (.invokevirtual 234, 3) := by decide +kernel
theorem dX11_first_35 : decode cX11_first 35 = .ok (.iload_n 1, 1) := by decide +kernel
theorem dX11_first_36 : decode cX11_first 36 = .ok (.aload_n 0, 1) := by decide +kernel
theorem dX11_first_37 : decode cX11_first 37 = .ok (.getfield 77, 3) := by decide +kernel
theorem dX11_first_40 : decode cX11_first 40 = .ok (.getfield 237, 3) := by decide +kernel
theorem dX11_first_43 : decode cX11_first 43 = .ok (.getfield 136, 3) := by decide +kernel
theorem dX11_first_46 : decode cX11_first 46 = .ok (.invokestatic 182, 3) := by decide +kernel
theorem dX11_first_49 : decode cX11_first 49 = .ok (.ifCond .eq 5, 3) := by decide +kernel
theorem dX11_first_52 : decode cX11_first 52 = .ok (.iload_n 2, 1) := by decide +kernel
theorem dX11_first_53 : decode cX11_first 53 = .ok (.ireturn, 1) := by decide +kernel
theorem dX11_first_54 : decode cX11_first 54 = .ok (.iinc 2 1, 3) := by decide +kernel
theorem dX11_first_57 : decode cX11_first 57 = .ok (.goto (-35), 3) := by decide +kernel
theorem dX11_first_60 : decode cX11_first 60 = .ok (.iconst (-1), 1) := by decide +kernel
theorem dX11_first_61 : decode cX11_first 61 = .ok (.ireturn, 1) := by decide +kernel
theorem dX11_waiting_0 : decode cX11_waiting 0 = .ok (.aload_n 0, 1) := by decide +kernel
theorem dX11_waiting_1 : decode cX11_waiting 1 = .ok (.iload_n 1, 1) := by decide +kernel
theorem dX11_waiting_2 : decode cX11_waiting 2 = .ok (.invokevirtual 188, 3) := by decide +kernel
theorem dX11_waiting_5 : decode cX11_waiting 5 = .ok (.iload_n 2, 1) := by decide +kernel
theorem dX11_waiting_6 : decode cX11_waiting 6 = .ok (.iconst 0, 1) := by decide +kernel
theorem dX11_waiting_7 : decode cX11_waiting 7 = .ok (.bipush 60, 2) := by decide +kernel
theorem dX11_waiting_9 : decode cX11_waiting 9 = .ok (.invokestatic 94, 3) := by decide +kernel
theorem dX11_waiting_12 : decode cX11_waiting 12 = .ok (.aload_n 0, 1) := by decide +kernel
theorem dX11_waiting_13 : decode cX11_waiting 13 = .ok (.getfield 77, 3) := by decide +kernel
theorem dX11_waiting_16 : decode cX11_waiting 16 = .ok (.aload_n 0, 1) := by decide +kernel
theorem dX11_waiting_17 : decode cX11_waiting 17 = .ok (.getfield 68, 3) := by decide +kernel
theorem dX11_waiting_20 : decode cX11_waiting 20 = .ok (.aload_n 0, 1) := by decide +kernel
theorem dX11_waiting_21 : decode cX11_waiting 21 = .ok (.getfield 19, 3) := by decide +kernel
theorem dX11_waiting_24 : decode cX11_waiting 24 = .ok (.invokevirtual 219, 3) := by decide +kernel
theorem dX11_waiting_27 : decode cX11_waiting 27 = .ok (.iconst 0, 1) := by decide +kernel
theorem dX11_waiting_28 : decode cX11_waiting 28 = .ok (.istore_n 3, 1) := by decide +kernel
theorem dX11_waiting_29 : decode cX11_waiting 29 = .ok (.iconst 0, 1) := by decide +kernel
theorem dX11_waiting_30 : decode cX11_waiting 30 = .ok (.istore 4, 2) := by decide +kernel
theorem dX11_waiting_32 : decode cX11_waiting 32 = .ok (.iload 4, 2) := by decide +kernel
theorem dX11_waiting_34 : decode cX11_waiting 34 = .ok (.iload_n 2, 1) := by decide +kernel
theorem dX11_waiting_35 : decode cX11_waiting 35 = .ok (.if_icmp .ge 33, 3) := by decide +kernel
theorem dX11_waiting_38 : decode cX11_waiting 38 = .ok (.aload_n 0, 1) := by decide +kernel
theorem dX11_waiting_39 : decode cX11_waiting 39 = .ok (.getfield 77, 3) := by decide +kernel
theorem dX11_waiting_42 : decode cX11_waiting 42 = .ok (.invokevirtual 234, 3) := by decide +kernel
theorem dX11_waiting_45 : decode cX11_waiting 45 = .ok (.iload_n 1, 1) := by decide +kernel
theorem dX11_waiting_46 : decode cX11_waiting 46 = .ok (.aload_n 0, 1) := by decide +kernel
theorem dX11_waiting_47 : decode cX11_waiting 47 = .ok (.getfield 77, 3) := by decide +kernel
theorem dX11_waiting_50 : decode cX11_waiting 50 = .ok (.invokevirtual 251, 3) := by decide +kernel
theorem dX11_waiting_53 : decode cX11_waiting 53 = .ok (.invokestatic 182, 3) := by decide +kernel
theorem dX11_waiting_56 : decode cX11_waiting 56 = .ok (.ifCond .eq 6, 3) := by decide +kernel
theorem dX11_waiting_59 : decode cX11_waiting 59 = .ok (.iinc 3 1, 3) := by decide +kernel
theorem dX11_waiting_62 : decode cX11_waiting 62 = .ok (.iinc 4 1, 3) := by decide +kernel
theorem dX11_waiting_65 : decode cX11_waiting 65 = .ok (.goto (-33), 3) := by decide +kernel
theorem dX11_waiting_68 : decode cX11_waiting 68 = .ok (.iload_n 3, 1) := by decide +kernel
theorem dX11_waiting_69 : decode cX11_waiting 69 = .ok (.ireturn, 1) := by decide +kernel
theorem dX11_toBear_0 : decode cX11_toBear 0 = .ok (.iload_n 1, 1) := by decide +kernel
theorem dX11_toBear_1 : decode cX11_toBear 1 = .ok (.iconst 0, 1) := by decide +kernel
theorem dX11_toBear_2 : decode cX11_toBear 2 = .ok (.bipush 60, 2) := by decide +kernel
theorem dX11_toBear_4 : decode cX11_toBear 4 = .ok (.invokestatic 94, 3) := by decide +kernel
theorem dX11_toBear_7 : decode cX11_toBear 7 = .ok (.iconst 1, 1) := by decide +kernel
theorem dX11_toBear_8 : decode cX11_toBear 8 = .ok (.istore_n 2, 1) := by decide +kernel
theorem dX11_toBear_9 : decode cX11_toBear 9 = .ok (.iload_n 2, 1) := by decide +kernel
theorem dX11_toBear_10 : decode cX11_toBear 10 = .ok (.bipush 8, 2) := by decide +kernel
theorem dX11_toBear_12 : decode cX11_toBear 12 = .ok (.if_icmp .ge 20, 3) := by decide +kernel
theorem dX11_toBear_15 : decode cX11_toBear 15 = .ok (.aload_n 0, 1) := by decide +kernel
theorem dX11_toBear_16 : decode cX11_toBear 16 = .ok (.iload_n 1, 1) := by decide +kernel
theorem dX11_toBear_17 : decode cX11_toBear 17 = .ok (.iload_n 2, 1) := by decide +kernel
theorem dX11_toBear_18 : decode cX11_toBear 18 = .ok (.invokevirtual 254, 3) := by decide +kernel
theorem dX11_toBear_21 : decode cX11_toBear 21 = .ok (.ifCond .ne 5, 3) := by decide +kernel
theorem dX11_toBear_24 : decode cX11_toBear 24 = .ok (.iload_n 2, 1) := by decide +kernel
theorem dX11_toBear_25 : decode cX11_toBear 25 = .ok (.ireturn, 1) := by decide +kernel
theorem dX11_toBear_26 : decode cX11_toBear 26 = .ok (.iinc 2 1, 3) := by decide +kernel
theorem dX11_toBear_29 : decode cX11_toBear 29 = .ok (.goto (-20), 3) := by decide +kernel
theorem dX11_toBear_32 : decode cX11_toBear 32 = .ok (.bipush 8, 2) := by decide +kernel
theorem dX11_toBear_34 : decode cX11_toBear 34 = .ok (.ireturn, 1) := by decide +kernel
theorem dX11_somebodyWaits_0 : decode cX11_somebodyWaits 0 = .ok (.aload_n 0, 1) := by decide +kernel
theorem dX11_somebodyWaits_1 : decode cX11_somebodyWaits 1 = .ok (.getfield 77, 3) := by decide +kernel
theorem dX11_somebodyWaits_4 : decode cX11_somebodyWaits 4 = .ok (.aload_n 0, 1) := by decide +kernel
theorem dX11_somebodyWaits_5 : decode cX11_somebodyWaits 5 = .ok (.getfield 68, 3) := by decide +kernel
theorem dX11_somebodyWaits_8 : decode cX11_somebodyWaits 8 = .ok (.aload_n 0, 1) := by decide +kernel
theorem dX11_somebodyWaits_9 : decode cX11_somebodyWaits 9 = .ok (.getfield 19, 3) := by decide +kernel
theorem dX11_somebodyWaits_12 : decode cX11_somebodyWaits 12 = .ok (.invokevirtual 219, 3) := by decide +kernel
theorem dX11_somebodyWaits_15 : decode cX11_somebodyWaits 15 = .ok (.aload_n 0, 1) := by decide +kernel
theorem dX11_somebodyWaits_16 : decode cX11_somebodyWaits 16 = .ok (.getfield 77, 3) := by decide +kernel
theorem dX11_somebodyWaits_19 : decode cX11_somebodyWaits 19 = .ok (.getfield 237, 3) := by decide +kernel
theorem dX11_somebodyWaits_22 : decode cX11_somebodyWaits 22 = .ok (.iload_n 2, 1) := by decide +kernel
theorem dX11_somebodyWaits_23 : decode cX11_somebodyWaits 23 = .ok (.putfield 130, 3) := by decide +kernel
theorem dX11_somebodyWaits_26 : decode cX11_somebodyWaits 26 = .ok (.iconst 0, 1) := by decide +kernel
theorem dX11_somebodyWaits_27 : decode cX11_somebodyWaits 27 = .ok (.istore_n 3, 1) := by decide +kernel
theorem dX11_somebodyWaits_28 : decode cX11_somebodyWaits 28 = .ok (.iload_n 3, 1) := by decide +kernel
theorem dX11_somebodyWaits_29 : decode cX11_somebodyWaits 29 = .ok (.iload_n 1, 1) := by decide +kernel
theorem dX11_somebodyWaits_30 : decode cX11_somebodyWaits 30 = .ok (.if_icmp .ge 28, 3) := by decide +kernel
theorem dX11_somebodyWaits_33 : decode cX11_somebodyWaits 33 = .ok (.aload_n 0, 1) := by decide +kernel
theorem dX11_somebodyWaits_34 : decode cX11_somebodyWaits 34 = .ok (.getfield 77, 3) := by decide +kernel
theorem dX11_somebodyWaits_37 : decode cX11_somebodyWaits 37 = .ok (.invokevirtual 234, 3) := by decide +kernel
theorem dX11_somebodyWaits_40 : decode cX11_somebodyWaits 40 = .ok (.aload_n 0, 1) := by decide +kernel
theorem dX11_somebodyWaits_41 : decode cX11_somebodyWaits 41 = .ok (.getfield 77, 3) := by decide +kernel
theorem dX11_somebodyWaits_44 : decode cX11_somebodyWaits 44 = .ok (.invokevirtual 251, 3) := by decide +kernel
theorem dX11_somebodyWaits_47 : decode cX11_somebodyWaits 47 = .ok (.ifCond .eq 5, 3) := by decide +kernel
theorem dX11_somebodyWaits_50 : decode cX11_somebodyWaits 50 = .ok (.iconst 1, 1) := by decide +kernel
theorem dX11_somebodyWaits_51 : decode cX11_somebodyWaits 51 = .ok (.ireturn, 1) := by decide +kernel
theorem dX11_somebodyWaits_52 : decode cX11_somebodyWaits 52 = .ok (.iinc 3 1, 3) := by decide +kernel
theorem dX11_somebodyWaits_55 : decode cX11_somebodyWaits 55 = .ok (.goto (-27), 3) := by decide +kernel
theorem dX11_somebodyWaits_58 : decode cX11_somebodyWaits 58 = .ok (.iconst 0, 1) := by decide +kernel
theorem dX11_somebodyWaits_59 : decode cX11_somebodyWaits 59 = .ok (.ireturn, 1) := by decide +kernel
theorem dX11_times_0 : decode cX11_times 0 = .ok (.aload_n 0, 1) := by decide +kernel
theorem dX11_times_1 : decode cX11_times 1 = .ok (.iload_n 1, 1) := by decide +kernel
theorem dX11_times_2 : decode cX11_times 2 = .ok (.invokevirtual 188, 3) := by decide +kernel
theorem dX11_times_5 : decode cX11_times 5 = .ok (.iload_n 2, 1) := by decide +kernel
theorem dX11_times_6 : decode cX11_times 6 = .ok (.iconst 0, 1) := by decide +kernel
theorem dX11_times_7 : decode cX11_times 7 = .ok (.bipush 60, 2) := by decide +kernel
theorem dX11_times_9 : decode cX11_times 9 = .ok (.invokestatic 94, 3) := by decide +kernel
theorem dX11_times_12 : decode cX11_times 12 = .ok (.aload_n 0, 1) := by decide +kernel
theorem dX11_times_13 : decode cX11_times 13 = .ok (.getfield 77, 3) := by decide +kernel
theorem dX11_times_16 : decode cX11_times 16 = .ok (.aload_n 0, 1) := by decide +kernel
theorem dX11_times_17 : decode cX11_times 17 = .ok (.getfield 68, 3) := by decide +kernel
theorem dX11_times_20 : decode cX11_times 20 = .ok (.aload_n 0, 1) := by decide +kernel
theorem dX11_times_21 : decode cX11_times 21 = .ok (.getfield 19, 3) := by decide +kernel
theorem dX11_times_24 : decode cX11_times 24 = .ok (.invokevirtual 219, 3) := by decide +kernel
theorem dX11_times_27 : decode cX11_times 27 = .ok (.iconst 0, 1) := by decide +kernel
theorem dX11_times_28 : decode cX11_times 28 = .ok (.istore_n 3, 1) := by decide +kernel
theorem dX11_times_29 : decode cX11_times 29 = .ok (.iconst 0, 1) := by decide +kernel
theorem dX11_times_30 : decode cX11_times 30 = .ok (.istore 4, 2) := by decide +kernel
theorem dX11_times_32 : decode cX11_times 32 = .ok (.iload 4, 2) := by decide +kernel
theorem dX11_times_34 : decode cX11_times 34 = .ok (.iload_n 2, 1) := by decide +kernel
theorem dX11_times_35 : decode cX11_times 35 = .ok (.if_icmp .ge 36, 3) := by decide +kernel
theorem dX11_times_38 : decode cX11_times 38 = .ok (.aload_n 0, 1) := by decide +kernel
theorem dX11_times_39 : decode cX11_times 39 = .ok (.getfield 77, 3) := by decide +kernel
theorem dX11_times_42 : decode cX11_times 42 = .ok (.invokevirtual 234, 3) := by decide +kernel
theorem dX11_times_45 : decode cX11_times 45 = .ok (.iload_n 1, 1) := by decide +kernel
theorem dX11_times_46 : decode cX11_times 46 = .ok (.aload_n 0, 1) := by decide +kernel
theorem dX11_times_47 : decode cX11_times 47 = .ok (.getfield 77, 3) := by decide +kernel
theorem dX11_times_50 : decode cX11_times 50 = .ok (.getfield 237, 3) := by decide +kernel
theorem dX11_times_53 : decode cX11_times 53 = .ok (.getfield 136, 3) := by decide +kernel
theorem dX11_times_56 : decode cX11_times 56 = .ok (.invokestatic 182, 3) := by decide +kernel
theorem dX11_times_59 : decode cX11_times 59 = .ok (.ifCond .eq 6, 3) := by decide +kernel
theorem dX11_times_62 : decode cX11_times 62 = .ok (.iinc 3 1, 3) := by decide +kernel
theorem dX11_times_65 : decode cX11_times 65 = .ok (.iinc 4 1, 3) := by decide +kernel
theorem dX11_times_68 : decode cX11_times 68 = .ok (.goto (-36), 3) := by decide +kernel
theorem dX11_times_71 : decode cX11_times 71 = .ok (.iload_n 3, 1) := by decide +kernel
theorem dX11_times_72 : decode cX11_times 72 = .ok (.ireturn, 1) := by decide +kernel
theorem dX11_fullest_0 : decode cX11_fullest 0 = .ok (.iload_n 2, 1) := by decide +kernel
theorem dX11_fullest_1 : decode cX11_fullest 1 = .ok (.iconst 1, 1) := by decide +kernel
theorem dX11_fullest_2 : decode cX11_fullest 2 = .ok (.invokestatic 247, 3) := by decide +kernel
theorem dX11_fullest_5 : decode cX11_fullest 5 = .ok (.iload_n 1, 1) := by decide +kernel
theorem dX11_fullest_6 : decode cX11_fullest 6 = .ok (.iconst 1, 1) := by decide +kernel
theorem dX11_fullest_7 : decode cX11_fullest 7 = .ok (.bipush 60, 2) := by decide +kernel
theorem dX11_fullest_9 : decode cX11_fullest 9 = .ok (.invokestatic 94, 3) := by decide +kernel
theorem dX11_fullest_12 : decode cX11_fullest 12 = .ok (.aload_n 0, 1) := by decide +kernel
theorem dX11_fullest_13 : decode cX11_fullest 13 = .ok (.getfield 77, 3) := by decide +kernel
theorem dX11_fullest_16 : decode cX11_fullest 16 = .ok (.aload_n 0, 1) := by decide +kernel
theorem dX11_fullest_17 : decode cX11_fullest 17 = .ok (.getfield 68, 3) := by decide +kernel
theorem dX11_fullest_20 : decode cX11_fullest 20 = .ok (.aload_n 0, 1) := by decide +kernel
theorem dX11_fullest_21 : decode cX11_fullest 21 = .ok (.getfield 19, 3) := by decide +kernel
theorem dX11_fullest_24 : decode cX11_fullest 24 = .ok (.invokevirtual 219, 3) := by decide +kernel
theorem dX11_fullest_27 : decode cX11_fullest 27 = .ok (.iconst 0, 1) := by decide +kernel
theorem dX11_fullest_28 : decode cX11_fullest 28 = .ok (.istore_n 3, 1) := by decide +kernel
theorem dX11_fullest_29 : decode cX11_fullest 29 = .ok (.iconst (-1), 1) := by decide +kernel
theorem dX11_fullest_30 : decode cX11_fullest 30 = .ok (.istore 4, 2) := by decide +kernel
theorem dX11_fullest_32 : decode cX11_fullest 32 = .ok (.iconst 1, 1) := by decide +kernel
theorem dX11_fullest_33 : decode cX11_fullest 33 = .ok (.istore 5, 2) := by decide +kernel
theorem dX11_fullest_35 : decode cX11_fullest 35 = .ok (.iload 5, 2) := by decide +kernel
theorem dX11_fullest_37 : decode cX11_fullest 37 = .ok (.iload_n 1, 1) := by decide +kernel
theorem dX11_fullest_38 : decode cX11_fullest 38 = .ok (.if_icmp .gt 45, 3) := by decide +kernel
theorem dX11_fullest_41 : decode cX11_fullest 41 = .ok (.aload_n 0, 1) := by decide +kernel
theorem dX11_fullest_42 : decode cX11_fullest 42 = .ok (.getfield 77, 3) := by decide +kernel
theorem dX11_fullest_45 : decode cX11_fullest 45 = .ok (.invokevirtual 234, 3) := by decide +kernel
theorem dX11_fullest_48 : decode cX11_fullest 48 = .ok (.aload_n 0, 1) := by decide +kernel
theorem dX11_fullest_49 : decode cX11_fullest 49 = .ok (.getfield 77, 3) := by decide +kernel
theorem dX11_fullest_52 : decode cX11_fullest 52 = .ok (.getfield 237, 3) := by decide +kernel
theorem dX11_fullest_55 : decode cX11_fullest 55 = .ok (.getfield 136, 3) := by decide +kernel
theorem dX11_fullest_58 : decode cX11_fullest 58 = .ok (.invokestatic 257, 3) := by decide +kernel
theorem dX11_fullest_61 : decode cX11_fullest 61 = .ok (.istore 6, 2) := by decide +kernel
theorem dX11_fullest_63 : decode cX11_fullest 63 = .ok (.iload 6, 2) := by decide +kernel
theorem dX11_fullest_65 : decode cX11_fullest 65 = .ok (.iload 4, 2) := by decide +kernel
theorem dX11_fullest_67 : decode cX11_fullest 67 = .ok (.if_icmp .le 10, 3) := by decide +kernel
theorem dX11_fullest_70 : decode cX11_fullest 70 = .ok (.iload 6, 2) := by decide +kernel
theorem dX11_fullest_72 : decode cX11_fullest 72 = .ok (.istore 4, 2) := by decide +kernel
theorem dX11_fullest_74 : decode cX11_fullest 74 = .ok (.iload 5, 2) := by decide +kernel
theorem dX11_fullest_76 : decode cX11_fullest 76 = .ok (.istore_n 3, 1) := by decide +kernel
theorem dX11_fullest_77 : decode cX11_fullest 77 = .ok (.iinc 5 1, 3) := by decide +kernel
theorem dX11_fullest_80 : decode cX11_fullest 80 = .ok (.goto (-45), 3) := by decide +kernel
theorem dX11_fullest_83 : decode cX11_fullest 83 = .ok (.iload_n 2, 1) := by decide +kernel
theorem dX11_fullest_84 : decode cX11_fullest 84 = .ok (.ifCond .ne 7, 3) := by decide +kernel
theorem dX11_fullest_87 : decode cX11_fullest 87 = .ok (.iload_n 3, 1) := by decide +kernel
theorem dX11_fullest_88 : decode cX11_fullest 88 = .ok (.goto 5, 3) := by decide +kernel
theorem dX11_fullest_91 : decode cX11_fullest 91 = .ok (.iload 4, 2) := by decide +kernel
theorem dX11_fullest_93 : decode cX11_fullest 93 = .ok (.ireturn, 1) := by decide +kernel
theorem dX11_comes_0 : decode cX11_comes 0 = .ok (.iload_n 1, 1) := by decide +kernel
theorem dX11_comes_1 : decode cX11_comes 1 = .ok (.iconst 0, 1) := by decide +kernel
theorem dX11_comes_2 : decode cX11_comes 2 = .ok (.sipush 1023, 3) := by decide +kernel
theorem dX11_comes_5 : decode cX11_comes 5 = .ok (.invokestatic 94, 3) := by decide +kernel
theorem dX11_comes_8 : decode cX11_comes 8 = .ok (.aload_n 0, 1) := by decide +kernel
theorem dX11_comes_9 : decode cX11_comes 9 = .ok (.getfield 68, 3) := by decide +kernel
theorem dX11_comes_12 : decode cX11_comes 12 = .ok (.getfield 123, 3) := by decide +kernel
theorem dX11_comes_15 : decode cX11_comes 15 = .ok (.iload_n 1, 1) := by decide +kernel
theorem dX11_comes_16 : decode cX11_comes 16 = .ok (.aload_n 0, 1) := by decide +kernel
theorem dX11_comes_17 : decode cX11_comes 17 = .ok (.getfield 19, 3) := by decide +kernel
theorem dX11_comes_20 : decode cX11_comes 20 = .ok (.getfield 139, 3) := by decide +kernel
theorem dX11_comes_23 : decode cX11_comes 23 = .ok (.invokevirtual 262, 3) := by decide +kernel
theorem dX11_comes_26 : decode cX11_comes 26 = .ok (.ireturn, 1) := by decide +kernel
theorem dX11_why_0 : decode cX11_why 0 = .ok (.iload_n 2, 1) := by decide +kernel
theorem dX11_why_1 : decode cX11_why 1 = .ok (.invokestatic 161, 3) := by decide +kernel
theorem dX11_why_4 : decode cX11_why 4 = .ok (.iload_n 1, 1) := by decide +kernel
theorem dX11_why_5 : decode cX11_why 5 = .ok (.iconst 0, 1) := by decide +kernel
theorem dX11_why_6 : decode cX11_why 6 = .ok (.sipush 1023, 3) := by decide +kernel
theorem dX11_why_9 : decode cX11_why 9 = .ok (.invokestatic 94, 3) := by decide +kernel
theorem dX11_why_12 : decode cX11_why 12 = .ok (.aload_n 0, 1) := by decide +kernel
theorem dX11_why_13 : decode cX11_why 13 = .ok (.getfield 51, 3) := by decide +kernel
theorem dX11_why_16 : decode cX11_why 16 = .ok (.aload_n 0, 1) := by decide +kernel
theorem dX11_why_17 : decode cX11_why 17 = .ok (.getfield 68, 3) := by decide +kernel
theorem dX11_why_20 : decode cX11_why 20 = .ok (.getfield 123, 3) := by decide +kernel
theorem dX11_why_23 : decode cX11_why 23 = .ok (.aload_n 0, 1) := by decide +kernel
theorem dX11_why_24 : decode cX11_why 24 = .ok (.getfield 19, 3) := by decide +kernel
theorem dX11_why_27 : decode cX11_why 27 = .ok (.getfield 139, 3) := by decide +kernel
theorem dX11_why_30 : decode cX11_why 30 = .ok (.iload_n 1, 1) := by decide +kernel
theorem dX11_why_31 : decode cX11_why 31 = .ok (.iload_n 2, 1) := by decide +kernel
theorem dX11_why_32 : decode cX11_why 32 = .ok (.invokevirtual 266, 3) := by decide +kernel
theorem dX11_why_35 : decode cX11_why 35 = .ok (.ireturn, 1) := by decide +kernel
theorem dX11_needed_0 : decode cX11_needed 0 = .ok (.iload_n 2, 1) := by decide +kernel
theorem dX11_needed_1 : decode cX11_needed 1 = .ok (.invokestatic 161, 3) := by decide +kernel
theorem dX11_needed_4 : decode cX11_needed 4 = .ok (.iload_n 1, 1) := by decide +kernel
theorem dX11_needed_5 : decode cX11_needed 5 = .ok (.iconst 0, 1) := by decide +kernel
theorem dX11_needed_6 : decode cX11_needed 6 = .ok (.sipush 1023, 3) := by decide +kernel
theorem dX11_needed_9 : decode cX11_needed 9 = .ok (.invokestatic 94, 3) := by decide +kernel
theorem dX11_needed_12 : decode cX11_needed 12 = .ok (.iload_n 2, 1) := by decide +kernel
theorem dX11_needed_13 : decode cX11_needed 13 = .ok (.aload_n 0, 1) := by decide +kernel
theorem dX11_needed_14 : decode cX11_needed 14 = .ok (.getfield 68, 3) := by decide +kernel
theorem dX11_needed_17 : decode cX11_needed 17 = .ok (.getfield 123, 3) := by decide +kernel
theorem dX11_needed_20 : decode cX11_needed 20 = .ok (.iload_n 1, 1) := by decide +kernel
theorem dX11_needed_21 : decode cX11_needed 21 = .ok (.aload_n 0, 1) := by decide +kernel
theorem dX11_needed_22 : decode cX11_needed 22 = .ok (.getfield 19, 3) := by decide +kernel
theorem dX11_needed_25 : decode cX11_needed 25 = .ok (.getfield 139, 3) := by decide +kernel
theorem dX11_needed_28 : decode cX11_needed 28 = .ok (.invokevirtual 262, 3) := by decide +kernel
theorem dX11_needed_31 : decode cX11_needed 31 = .ok (.invokestatic 182, 3) := by decide +kernel
theorem dX11_needed_34 : decode cX11_needed 34 = .ok (.ifCond .ne 5, 3) := by decide +kernel
theorem dX11_needed_37 : decode cX11_needed 37 = .ok (.iconst 0, 1) := by decide +kernel
theorem dX11_needed_38 : decode cX11_needed 38 = .ok (.ireturn, 1) := by decide +kernel
theorem dX11_needed_39 : decode cX11_needed 39 = .ok (.iconst 0, 1) := by decide +kernel
theorem dX11_needed_40 : decode cX11_needed 40 = .ok (.istore_n 3, 1) := by decide +kernel
theorem dX11_needed_41 : decode cX11_needed 41 = .ok (.iconst 0, 1) := by decide +kernel
theorem dX11_needed_42 : decode cX11_needed 42 = .ok (.istore 4, 2) := by decide +kernel
theorem dX11_needed_44 : decode cX11_needed 44 = .ok (.iload 4, 2) := by decide +kernel
theorem dX11_needed_46 : decode cX11_needed 46 = .ok (.aload_n 0, 1) := by decide +kernel
theorem dX11_needed_47 : decode cX11_needed 47 = .ok (.getfield 68, 3) := by decide +kernel
theorem dX11_needed_50 : decode cX11_needed 50 = .ok (.getfield 123, 3) := by decide +kernel
theorem dX11_needed_53 : decode cX11_needed 53 = .ok (.getfield 127, 3) := by decide +kernel
theorem dX11_needed_56 : decode cX11_needed 56 = .ok (.if_icmp .ge 50, 3) := by decide +kernel
theorem dX11_needed_59 : decode cX11_needed 59 = .ok (.aload_n 0, 1) := by decide +kernel
theorem dX11_needed_60 : decode cX11_needed 60 = .ok (.getfield 68, 3) := by decide +kernel
theorem dX11_needed_63 : decode cX11_needed 63 = .ok (.getfield 123, 3) := by decide +kernel
theorem dX11_needed_66 : decode cX11_needed 66 = .ok (.iload_n 1, 1) := by decide +kernel
theorem dX11_needed_67 : decode cX11_needed 67 = .ok (.aload_n 0, 1) := by decide +kernel
theorem dX11_needed_68 : decode cX11_needed 68 = .ok (.getfield 19, 3) := by decide +kernel
theorem dX11_needed_71 : decode cX11_needed 71 = .ok (.getfield 139, 3) := by decide +kernel
theorem dX11_needed_74 : decode cX11_needed 74 = .ok (.iconst 1, 1) := by decide +kernel
theorem dX11_needed_75 : decode cX11_needed 75 = .ok (.iload 4, 2) := by decide +kernel
theorem dX11_needed_77 : decode cX11_needed 77 = .ok (.ishl, 1) := by decide +kernel
theorem dX11_needed_78 : decode cX11_needed 78 = .ok (.ior, 1) := by decide +kernel
theorem dX11_needed_79 : decode cX11_needed 79 = .ok (.invokevirtual 262, 3) := by decide +kernel
theorem dX11_needed_82 : decode cX11_needed 82 = .ok (.istore 5, 2) := by decide +kernel
theorem dX11_needed_84 : decode cX11_needed 84 = .ok (.iload_n 2, 1) := by decide +kernel
theorem dX11_needed_85 : decode cX11_needed 85 = .ok (.iload 5, 2) := by decide +kernel
theorem dX11_needed_87 : decode cX11_needed 87 = .ok (.invokestatic 182, 3) := by decide +kernel
theorem dX11_needed_90 : decode cX11_needed 90 = .ok (.ifCond .ne 10, 3) := by decide +kernel
theorem dX11_needed_93 : decode cX11_needed 93 = .ok (.iload_n 3, 1) := by decide +kernel
theorem dX11_needed_94 : decode cX11_needed 94 = .ok (.iconst 1, 1) := by decide +kernel
theorem dX11_needed_95 : decode cX11_needed 95 = .ok (.iload 4, 2) := by decide +kernel
theorem dX11_needed_97 : decode cX11_needed 97 = .ok (.ishl, 1) := by decide +kernel
theorem dX11_needed_98 : decode cX11_needed 98 = .ok (.ior, 1) := by decide +kernel
theorem dX11_needed_99 : decode cX11_needed 99 = .ok (.istore_n 3, 1) := by decide +kernel
theorem dX11_needed_100 : decode cX11_needed 100 = .ok (.iinc 4 1, 3) := by decide +kernel
theorem dX11_needed_103 : decode cX11_needed 103 = .ok (.goto (-59), 3) := by decide +kernel
theorem dX11_needed_106 : decode cX11_needed 106 = .ok (.iload_n 3, 1) := by decide +kernel
theorem dX11_needed_107 : decode cX11_needed 107 = .ok (.ireturn, 1) := by decide +kernel
theorem dX11_fewest_0 : decode cX11_fewest 0 = .ok (.iload_n 2, 1) := by decide +kernel
theorem dX11_fewest_1 : decode cX11_fewest 1 = .ok (.invokestatic 161, 3) := by decide +kernel
theorem dX11_fewest_4 : decode cX11_fewest 4 = .ok (.iload_n 1, 1) := by decide +kernel
theorem dX11_fewest_5 : decode cX11_fewest 5 = .ok (.iconst 0, 1) := by decide +kernel
theorem dX11_fewest_6 : decode cX11_fewest 6 = .ok (.sipush 1023, 3) := by decide +kernel
theorem dX11_fewest_9 : decode cX11_fewest 9 = .ok (.invokestatic 94, 3) := by decide +kernel
theorem dX11_fewest_12 : decode cX11_fewest 12 = .ok (.iconst (-1), 1) := by decide +kernel
theorem dX11_fewest_13 : decode cX11_fewest 13 = .ok (.istore_n 3, 1) := by decide +kernel
theorem dX11_fewest_14 : decode cX11_fewest 14 = .ok (.bipush 11, 2) := by decide +kernel
theorem dX11_fewest_16 : decode cX11_fewest 16 = .ok (.istore 4, 2) := by decide +kernel
theorem dX11_fewest_18 : decode cX11_fewest 18 = .ok (.iconst 0, 1) := by decide +kernel
theorem dX11_fewest_19 : decode cX11_fewest 19 = .ok (.istore 5, 2) := by decide +kernel
theorem dX11_fewest_21 : decode cX11_fewest 21 = .ok (.iload 5, 2) := by decide +kernel
theorem dX11_fewest_23 : decode cX11_fewest 23 = .ok (.sipush 1024, 3) := by decide +kernel
theorem dX11_fewest_26 : decode cX11_fewest 26 = .ok (.if_icmp .ge 69, 3) := by decide +kernel
theorem dX11_fewest_29 : decode cX11_fewest 29 = .ok (.iload_n 2, 1) := by decide +kernel
theorem dX11_fewest_30 : decode cX11_fewest 30 = .ok (.iload 5, 2) := by decide +kernel
theorem dX11_fewest_32 : decode cX11_fewest 32 = .ok (.invokestatic 182, 3) := by decide +kernel
theorem dX11_fewest_35 : decode cX11_fewest 35 = .ok (.ifCond .ne 54, 3) := by decide +kernel
theorem dX11_fewest_38 : decode cX11_fewest 38 = .ok (.iload 5, 2) := by decide +kernel
theorem dX11_fewest_40 : decode cX11_fewest 40 = .ok (.invokestatic 257, 3) := by decide +kernel
theorem dX11_fewest_43 : decode cX11_fewest 43 = .ok (.iload 4, 2) := by decide +kernel
theorem dX11_fewest_45 : decode cX11_fewest 45 = .ok (.if_icmp .lt 6, 3) := by decide +kernel
theorem dX11_fewest_48 : decode cX11_fewest 48 = .ok (.goto 41, 3) := by decide +kernel
theorem dX11_fewest_51 : decode cX11_fewest 51 = .ok (.iload_n 2, 1) := by decide +kernel
theorem dX11_fewest_52 : decode cX11_fewest 52 = .ok (.aload_n 0, 1) := by decide +kernel
theorem dX11_fewest_53 : decode cX11_fewest 53 = .ok (.getfield 68, 3) := by decide +kernel
theorem dX11_fewest_56 : decode cX11_fewest 56 = .ok (.getfield 123, 3) := by decide +kernel
theorem dX11_fewest_59 : decode cX11_fewest 59 = .ok (.iload_n 1, 1) := by decide +kernel
theorem dX11_fewest_60 : decode cX11_fewest 60 = .ok (.iload 5, 2) := by decide +kernel
theorem dX11_fewest_62 : decode cX11_fewest 62 = .ok (.ior, 1) := by decide +kernel
theorem dX11_fewest_63 : decode cX11_fewest 63 = .ok (.aload_n 0, 1) := by decide +kernel
theorem dX11_fewest_64 : decode cX11_fewest 64 = .ok (.getfield 19, 3) := by decide +kernel
theorem dX11_fewest_67 : decode cX11_fewest 67 = .ok (.getfield 139, 3) := by decide +kernel
theorem dX11_fewest_70 : decode cX11_fewest 70 = .ok (.invokevirtual 262, 3) := by decide +kernel
theorem dX11_fewest_73 : decode cX11_fewest 73 = .ok (.invokestatic 182, 3) := by decide +kernel
theorem dX11_fewest_76 : decode cX11_fewest 76 = .ok (.ifCond .eq 13, 3) := by decide +kernel
theorem dX11_fewest_79 : decode cX11_fewest 79 = .ok (.iload 5, 2) := by decide +kernel
theorem dX11_fewest_81 : decode cX11_fewest 81 = .ok (.istore_n 3, 1) := by decide +kernel
theorem dX11_fewest_82 : decode cX11_fewest 82 = .ok (.iload 5, 2) := by decide +kernel
theorem dX11_fewest_84 : decode cX11_fewest 84 = .ok (.invokestatic 257, 3) := by decide +kernel
theorem dX11_fewest_87 : decode cX11_fewest 87 = .ok (.istore 4, 2) := by decide +kernel
theorem dX11_fewest_89 : decode cX11_fewest 89 = .ok (.iinc 5 1, 3) := by decide +kernel
theorem dX11_fewest_92 : decode cX11_fewest 92 = .ok (.goto (-71), 3) := by decide +kernel
theorem dX11_fewest_95 : decode cX11_fewest 95 = .ok (.iload_n 3, 1) := by decide +kernel
theorem dX11_fewest_96 : decode cX11_fewest 96 = .ok (.ireturn, 1) := by decide +kernel
theorem dX11_leads_0 : decode cX11_leads 0 = .ok (.iload_n 1, 1) := by decide +kernel
theorem dX11_leads_1 : decode cX11_leads 1 = .ok (.invokestatic 161, 3) := by decide +kernel
theorem dX11_leads_4 : decode cX11_leads 4 = .ok (.iload_n 2, 1) := by decide +kernel
theorem dX11_leads_5 : decode cX11_leads 5 = .ok (.invokestatic 161, 3) := by decide +kernel
theorem dX11_leads_8 : decode cX11_leads 8 = .ok (.aload_n 0, 1) := by decide +kernel
theorem dX11_leads_9 : decode cX11_leads 9 = .ok (.getfield 68, 3) := by decide +kernel
theorem dX11_leads_12 : decode cX11_leads 12 = .ok (.getfield 123, 3) := by decide +kernel
theorem dX11_leads_15 : decode cX11_leads 15 = .ok (.iload_n 1, 1) := by decide +kernel
theorem dX11_leads_16 : decode cX11_leads 16 = .ok (.iload_n 2, 1) := by decide +kernel
theorem dX11_leads_17 : decode cX11_leads 17 = .ok (.aload_n 0, 1) := by decide +kernel
theorem dX11_leads_18 : decode cX11_leads 18 = .ok (.getfield 19, 3) := by decide +kernel
theorem dX11_leads_21 : decode cX11_leads 21 = .ok (.getfield 139, 3) := by decide +kernel
theorem dX11_leads_24 : decode cX11_leads 24 = .ok (.invokevirtual 270, 3) := by decide +kernel
theorem dX11_leads_27 : decode cX11_leads 27 = .ok (.iconst (-1), 1) := by decide +kernel
theorem dX11_leads_28 : decode cX11_leads 28 = .ok (.if_icmp .eq 7, 3) := by decide +kernel
theorem dX11_leads_31 : decode cX11_leads 31 = .ok (.iconst 1, 1) := by decide +kernel
theorem dX11_leads_32 : decode cX11_leads 32 = .ok (.goto 4, 3) := by decide +kernel
theorem dX11_leads_35 : decode cX11_leads 35 = .ok (.iconst 0, 1) := by decide +kernel
theorem dX11_leads_36 : decode cX11_leads 36 = .ok (.ireturn, 1) := by decide +kernel
theorem dX11_sources_0 : decode cX11_sources 0 = .ok (.iload_n 1, 1) := by decide +kernel
theorem dX11_sources_1 : decode cX11_sources 1 = .ok (.invokestatic 161, 3) := by decide +kernel
theorem dX11_sources_4 : decode cX11_sources 4 = .ok (.iconst 0, 1) := by decide +kernel
theorem dX11_sources_5 : decode cX11_sources 5 = .ok (.istore_n 2, 1) := by decide +kernel
theorem dX11_sources_6 : decode cX11_sources 6 = .ok (.iconst 0, 1) := by decide +kernel
theorem dX11_sources_7 : decode cX11_sources 7 = .ok (.istore_n 3, 1) := by decide +kernel
theorem dX11_sources_8 : decode cX11_sources 8 = .ok (.iload_n 3, 1) := by decide +kernel
theorem dX11_sources_9 : decode cX11_sources 9 = .ok (.bipush 10, 2) := by decide +kernel
theorem dX11_sources_11 : decode cX11_sources 11 = .ok (.if_icmp .ge 38, 3) := by decide +kernel
theorem dX11_sources_14 : decode cX11_sources 14 = .ok (.aload_n 0, 1) := by decide +kernel
theorem dX11_sources_15 : decode cX11_sources 15 = .ok (.getfield 68, 3) := by decide +kernel
theorem dX11_sources_18 : decode cX11_sources 18 = .ok (.getfield 123, 3) := by decide +kernel
theorem dX11_sources_21 : decode cX11_sources 21 = .ok (.iload_n 3, 1) := by decide +kernel
theorem dX11_sources_22 : decode cX11_sources 22 = .ok (.iload_n 1, 1) := by decide +kernel
theorem dX11_sources_23 : decode cX11_sources 23 = .ok (.aload_n 0, 1) := by decide +kernel
theorem dX11_sources_24 : decode cX11_sources 24 = .ok (.getfield 19, 3) := by decide +kernel
theorem dX11_sources_27 : decode cX11_sources 27 = .ok (.getfield 139, 3) := by decide +kernel
theorem dX11_sources_30 : decode cX11_sources 30 = .ok (.invokevirtual 270, 3) := by decide +kernel
theorem dX11_sources_33 : decode cX11_sources 33 = .ok (.iconst (-1), 1) := by decide +kernel
theorem dX11_sources_34 : decode cX11_sources 34 = .ok (.if_icmp .eq 9, 3) := by decide +kernel
theorem dX11_sources_37 : decode cX11_sources 37 = .ok (.iload_n 2, 1) := by decide +kernel
theorem dX11_sources_38 : decode cX11_sources 38 = .ok (.iconst 1, 1) := by decide +kernel
theorem dX11_sources_39 : decode cX11_sources 39 = .ok (.iload_n 3, 1) := by decide +kernel
theorem dX11_sources_40 : decode cX11_sources 40 = .ok (.ishl, 1) := by decide +kernel
theorem dX11_sources_41 : decode cX11_sources 41 = .ok (.ior, 1) := by decide +kernel
theorem dX11_sources_42 : decode cX11_sources 42 = .ok (.istore_n 2, 1) := by decide +kernel
theorem dX11_sources_43 : decode cX11_sources 43 = .ok (.iinc 3 1, 3) := by decide +kernel
theorem dX11_sources_46 : decode cX11_sources 46 = .ok (.goto (-38), 3) := by decide +kernel
theorem dX11_sources_49 : decode cX11_sources 49 = .ok (.iload_n 2, 1) := by decide +kernel
theorem dX11_sources_50 : decode cX11_sources 50 = .ok (.ireturn, 1) := by decide +kernel
theorem dX11_resting_0 : decode cX11_resting 0 = .ok (.iconst 0, 1) := by decide +kernel
theorem dX11_resting_1 : decode cX11_resting 1 = .ok (.istore_n 1, 1) := by decide +kernel
theorem dX11_resting_2 : decode cX11_resting 2 = .ok (.iconst 0, 1) := by decide +kernel
theorem dX11_resting_3 : decode cX11_resting 3 = .ok (.istore_n 2, 1) := by decide +kernel
theorem dX11_resting_4 : decode cX11_resting 4 = .ok (.iload_n 2, 1) := by decide +kernel
theorem dX11_resting_5 : decode cX11_resting 5 = .ok (.sipush 1024, 3) := by decide +kernel
theorem dX11_resting_8 : decode cX11_resting 8 = .ok (.if_icmp .ge 35, 3) := by decide +kernel
theorem dX11_resting_11 : decode cX11_resting 11 = .ok (.aload_n 0, 1) := by decide +kernel
theorem dX11_resting_12 : decode cX11_resting 12 = .ok (.getfield 68, 3) := by decide +kernel
theorem dX11_resting_15 : decode cX11_resting 15 = .ok (.getfield 123, 3) := by decide +kernel
theorem dX11_resting_18 : decode cX11_resting 18 = .ok (.iload_n 2, 1) := by decide +kernel
theorem dX11_resting_19 : decode cX11_resting 19 = .ok (.aload_n 0, 1) := by decide +kernel
theorem dX11_resting_20 : decode cX11_resting 20 = .ok (.getfield 19, 3) := by decide +kernel
theorem dX11_resting_23 : decode cX11_resting 23 = .ok (.getfield 139, 3) := by decide +kernel
theorem dX11_resting_26 : decode cX11_resting 26 = .ok (.iconst 0, 1) := by decide +kernel
theorem dX11_resting_27 : decode cX11_resting 27 = .ok (.invokevirtual 274, 3) := by decide +kernel
theorem dX11_resting_30 : decode cX11_resting 30 = .ok (.iconst (-1), 1) := by decide +kernel
theorem dX11_resting_31 : decode cX11_resting 31 = .ok (.if_icmp .ne 6, 3) := by decide +kernel
theorem dX11_resting_34 : decode cX11_resting 34 = .ok (.iinc 1 1, 3) := by decide +kernel
theorem dX11_resting_37 : decode cX11_resting 37 = .ok (.iinc 2 1, 3) := by decide +kernel
theorem dX11_resting_40 : decode cX11_resting 40 = .ok (.goto (-36), 3) := by decide +kernel
theorem dX11_resting_43 : decode cX11_resting 43 = .ok (.iload_n 1, 1) := by decide +kernel
theorem dX11_resting_44 : decode cX11_resting 44 = .ok (.ireturn, 1) := by decide +kernel
theorem dX11_sets_0 : decode cX11_sets 0 = .ok (.iload_n 1, 1) := by decide +kernel
theorem dX11_sets_1 : decode cX11_sets 1 = .ok (.invokestatic 161, 3) := by decide +kernel
theorem dX11_sets_4 : decode cX11_sets 4 = .ok (.aload_n 0, 1) := by decide +kernel
theorem dX11_sets_5 : decode cX11_sets 5 = .ok (.getfield 51, 3) := by decide +kernel
theorem dX11_sets_8 : decode cX11_sets 8 = .ok (.aload_n 0, 1) := by decide +kernel
theorem dX11_sets_9 : decode cX11_sets 9 = .ok (.getfield 68, 3) := by decide +kernel
theorem dX11_sets_12 : decode cX11_sets 12 = .ok (.getfield 123, 3) := by decide +kernel
theorem dX11_sets_15 : decode cX11_sets 15 = .ok (.aload_n 0, 1) := by decide +kernel
theorem dX11_sets_16 : decode cX11_sets 16 = .ok (.getfield 19, 3) := by decide +kernel
theorem dX11_sets_19 : decode cX11_sets 19 = .ok (.getfield 139, 3) := by decide +kernel
theorem dX11_sets_22 : decode cX11_sets 22 = .ok (.iload_n 1, 1) := by decide +kernel
theorem dX11_sets_23 : decode cX11_sets 23 = .ok (.invokevirtual 277, 3) := by decide +kernel
theorem dX11_sets_26 : decode cX11_sets 26 = .ok (.ireturn, 1) := by decide +kernel
theorem dX11_toDeny_0 : decode cX11_toDeny 0 = .ok (.iload_n 2, 1) := by decide +kernel
theorem dX11_toDeny_1 : decode cX11_toDeny 1 = .ok (.invokestatic 161, 3) := by decide +kernel
theorem dX11_toDeny_4 : decode cX11_toDeny 4 = .ok (.iload_n 1, 1) := by decide +kernel
theorem dX11_toDeny_5 : decode cX11_toDeny 5 = .ok (.iconst 0, 1) := by decide +kernel
theorem dX11_toDeny_6 : decode cX11_toDeny 6 = .ok (.sipush 1023, 3) := by decide +kernel
theorem dX11_toDeny_9 : decode cX11_toDeny 9 = .ok (.invokestatic 94, 3) := by decide +kernel
theorem dX11_toDeny_12 : decode cX11_toDeny 12 = .ok (.iconst (-1), 1) := by decide +kernel
theorem dX11_toDeny_13 : decode cX11_toDeny 13 = .ok (.istore_n 3, 1) := by decide +kernel
theorem dX11_toDeny_14 : decode cX11_toDeny 14 = .ok (.bipush 13, 2) := by decide +kernel
theorem dX11_toDeny_16 : decode cX11_toDeny 16 = .ok (.istore 4, 2) := by decide +kernel
theorem dX11_toDeny_18 : decode cX11_toDeny 18 = .ok (.iconst 1, 1) := by decide +kernel
theorem dX11_toDeny_19 : decode cX11_toDeny 19 = .ok (.aload_n 0, 1) := by decide +kernel
theorem dX11_toDeny_20 : decode cX11_toDeny 20 = .ok (.getfield 68, 3) := by decide +kernel
theorem dX11_toDeny_23 : decode cX11_toDeny 23 = .ok (.getfield 123, 3) := by decide +kernel
theorem dX11_toDeny_26 : decode cX11_toDeny 26 = .ok (.getfield 127, 3) := by decide +kernel
theorem dX11_toDeny_29 : decode cX11_toDeny 29 = .ok (.ishl, 1) := by decide +kernel
theorem dX11_toDeny_30 : decode cX11_toDeny 30 = .ok (.istore 5, 2) := by decide +kernel
theorem dX11_toDeny_32 : decode cX11_toDeny 32 = .ok (.iconst 0, 1) := by decide +kernel
theorem dX11_toDeny_33 : decode cX11_toDeny 33 = .ok (.istore 6, 2) := by decide +kernel
theorem dX11_toDeny_35 : decode cX11_toDeny 35 = .ok (.iload 6, 2) := by decide +kernel
theorem dX11_toDeny_37 : decode cX11_toDeny 37 = .ok (.iload 5, 2) := by decide +kernel
theorem dX11_toDeny_39 : decode cX11_toDeny 39 = .ok (.if_icmp .ge 60, 3) := by decide +kernel
theorem dX11_toDeny_42 : decode cX11_toDeny 42 = .ok (.iload 6, 2) := by decide +kernel
theorem dX11_toDeny_44 : decode cX11_toDeny 44 = .ok (.invokestatic 257, 3) := by decide +kernel
theorem dX11_toDeny_47 : decode cX11_toDeny 47 = .ok (.iload 4, 2) := by decide +kernel
theorem dX11_toDeny_49 : decode cX11_toDeny 49 = .ok (.if_icmp .lt 6, 3) := by decide +kernel
theorem dX11_toDeny_52 : decode cX11_toDeny 52 = .ok (.goto 41, 3) := by decide +kernel
theorem dX11_toDeny_55 : decode cX11_toDeny 55 = .ok (.iload_n 2, 1) := by decide +kernel
theorem dX11_toDeny_56 : decode cX11_toDeny 56 = .ok (.aload_n 0, 1) := by decide +kernel
theorem dX11_toDeny_57 : decode cX11_toDeny 57 = .ok (.getfield 68, 3) := by decide +kernel
theorem dX11_toDeny_60 : decode cX11_toDeny 60 = .ok (.getfield 123, 3) := by decide +kernel
theorem dX11_toDeny_63 : decode cX11_toDeny 63 = .ok (.iload_n 1, 1) := by decide +kernel
theorem dX11_toDeny_64 : decode cX11_toDeny 64 = .ok (.aload_n 0, 1) := by decide +kernel
theorem dX11_toDeny_65 : decode cX11_toDeny 65 = .ok (.getfield 19, 3) := by decide +kernel
theorem dX11_toDeny_68 : decode cX11_toDeny 68 = .ok (.getfield 139, 3) := by decide +kernel
theorem dX11_toDeny_71 : decode cX11_toDeny 71 = .ok (.iload 6, 2) := by decide +kernel
theorem dX11_toDeny_73 : decode cX11_toDeny 73 = .ok (.ior, 1) := by decide +kernel
theorem dX11_toDeny_74 : decode cX11_toDeny 74 = .ok (.invokevirtual 262, 3) := by decide +kernel
theorem dX11_toDeny_77 : decode cX11_toDeny 77 = .ok (.invokestatic 182, 3) := by decide +kernel
theorem dX11_toDeny_80 : decode cX11_toDeny 80 = .ok (.ifCond .ne 13, 3) := by decide +kernel
theorem dX11_toDeny_83 : decode cX11_toDeny 83 = .ok (.iload 6, 2) := by decide +kernel
theorem dX11_toDeny_85 : decode cX11_toDeny 85 = .ok (.istore_n 3, 1) := by decide +kernel
theorem dX11_toDeny_86 : decode cX11_toDeny 86 = .ok (.iload 6, 2) := by decide +kernel
theorem dX11_toDeny_88 : decode cX11_toDeny 88 = .ok (.invokestatic 257, 3) := by decide +kernel
theorem dX11_toDeny_91 : decode cX11_toDeny 91 = .ok (.istore 4, 2) := by decide +kernel
theorem dX11_toDeny_93 : decode cX11_toDeny 93 = .ok (.iinc 6 1, 3) := by decide +kernel
theorem dX11_toDeny_96 : decode cX11_toDeny 96 = .ok (.goto (-61), 3) := by decide +kernel
theorem dX11_toDeny_99 : decode cX11_toDeny 99 = .ok (.iload_n 3, 1) := by decide +kernel
theorem dX11_toDeny_100 : decode cX11_toDeny 100 = .ok (.ireturn, 1) := by decide +kernel
theorem dX11_like_0 : decode cX11_like 0 = .ok (.aload_n 0, 1) := by decide +kernel
theorem dX11_like_1 : decode cX11_like 1 = .ok (.iload_n 1, 1) := by decide +kernel
theorem dX11_like_2 : decode cX11_like 2 = .ok (.invokevirtual 188, 3) := by decide +kernel
theorem dX11_like_5 : decode cX11_like 5 = .ok (.iload_n 2, 1) := by decide +kernel
theorem dX11_like_6 : decode cX11_like 6 = .ok (.iconst 1, 1) := by decide +kernel
theorem dX11_like_7 : decode cX11_like 7 = .ok (.invokestatic 247, 3) := by decide +kernel
theorem dX11_like_10 : decode cX11_like 10 = .ok (.aload_n 0, 1) := by decide +kernel
theorem dX11_like_11 : decode cX11_like 11 = .ok (.getfield 68, 3) := by decide +kernel
theorem dX11_like_14 : decode cX11_like 14 = .ok (.aload_n 0, 1) := by decide +kernel
theorem dX11_like_15 : decode cX11_like 15 = .ok (.getfield 19, 3) := by decide +kernel
theorem dX11_like_18 : decode cX11_like 18 = .ok (.iload_n 1, 1) := by decide +kernel
theorem dX11_like_19 : decode cX11_like 19 = .ok (.invokevirtual 206, 3) := by decide +kernel
theorem dX11_like_22 : decode cX11_like 22 = .ok (.istore_n 3, 1) := by decide +kernel
theorem dX11_like_23 : decode cX11_like 23 = .ok (.iconst 0, 1) := by decide +kernel
theorem dX11_like_24 : decode cX11_like 24 = .ok (.istore 4, 2) := by decide +kernel
theorem dX11_like_26 : decode cX11_like 26 = .ok (.iconst 0, 1) := by decide +kernel
theorem dX11_like_27 : decode cX11_like 27 = .ok (.istore 5, 2) := by decide +kernel
theorem dX11_like_29 : decode cX11_like 29 = .ok (.iload 5, 2) := by decide +kernel
theorem dX11_like_31 : decode cX11_like 31 = .ok (.aload_n 0, 1) := by decide +kernel
theorem dX11_like_32 : decode cX11_like 32 = .ok (.getfield 68, 3) := by decide +kernel
theorem dX11_like_35 : decode cX11_like 35 = .ok (.getfield 120, 3) := by decide +kernel
theorem dX11_like_38 : decode cX11_like 38 = .ok (.if_icmp .ge 56, 3) := by decide +kernel
theorem dX11_like_41 : decode cX11_like 41 = .ok (.iload_n 2, 1) := by decide +kernel
theorem dX11_like_42 : decode cX11_like 42 = .ok (.ifCond .ne 19, 3) := by decide +kernel
theorem dX11_like_45 : decode cX11_like 45 = .ok (.aload_n 0, 1) := by decide +kernel
theorem dX11_like_46 : decode cX11_like 46 = .ok (.getfield 68, 3) := by decide +kernel
theorem dX11_like_49 : decode cX11_like 49 = .ok (.aload_n 0, 1) := by decide +kernel
theorem dX11_like_50 : decode cX11_like 50 = .ok (.getfield 19, 3) := by decide +kernel
theorem dX11_like_53 : decode cX11_like 53 = .ok (.iload 5, 2) := by decide +kernel
theorem dX11_like_55 : decode cX11_like 55 = .ok (.invokevirtual 206, 3) := by decide +kernel
theorem dX11_like_58 : decode cX11_like 58 = .ok (.goto 13, 3) := by decide +kernel
theorem dX11_like_61 : decode cX11_like 61 = .ok (.aload_n 0, 1) := by decide +kernel
theorem dX11_like_62 : decode cX11_like 62 = .ok (.getfield 19, 3) := by decide +kernel
theorem dX11_like_65 : decode cX11_like 65 = .ok (.getfield 191, 3) := by decide +kernel
theorem dX11_like_68 : decode cX11_like 68 = .ok (.iload 5, 2) := by decide +kernel
theorem dX11_like_70 : decode cX11_like 70 = .ok (.iaload, 1) := by decide +kernel
theorem dX11_like_71 : decode cX11_like 71 = .ok (.istore 6, 2) := by decide +kernel
theorem dX11_like_73 : decode cX11_like 73 = .ok (.iload 6, 2) := by decide +kernel
theorem dX11_like_75 : decode cX11_like 75 = .ok (.iload_n 3, 1) := by decide +kernel
theorem dX11_like_76 : decode cX11_like 76 = .ok (.if_icmp .ne 12, 3) := by decide +kernel
theorem dX11_like_79 : decode cX11_like 79 = .ok (.iload 4, 2) := by decide +kernel
theorem dX11_like_81 : decode cX11_like 81 = .ok (.iconst 1, 1) := by decide +kernel
theorem dX11_like_82 : decode cX11_like 82 = .ok (.iload 5, 2) := by decide +kernel
theorem dX11_like_84 : decode cX11_like 84 = .ok (.ishl, 1) := by decide +kernel
theorem dX11_like_85 : decode cX11_like 85 = .ok (.ior, 1) := by decide +kernel
theorem dX11_like_86 : decode cX11_like 86 = .ok (.istore 4, 2) := by decide +kernel
theorem dX11_like_88 : decode cX11_like 88 = .ok (.iinc 5 1, 3) := by decide +kernel
theorem dX11_like_91 : decode cX11_like 91 = .ok (.goto (-62), 3) := by decide +kernel
theorem dX11_like_94 : decode cX11_like 94 = .ok (.iload 4, 2) := by decide +kernel
theorem dX11_like_96 : decode cX11_like 96 = .ok (.ireturn, 1) := by decide +kernel
theorem dX11_toSend_0 : decode cX11_toSend 0 = .ok (.iload_n 1, 1) := by decide +kernel
theorem dX11_toSend_1 : decode cX11_toSend 1 = .ok (.iconst 0, 1) := by decide +kernel
theorem dX11_toSend_2 : decode cX11_toSend 2 = .ok (.bipush 8, 2) := by decide +kernel
theorem dX11_toSend_4 : decode cX11_toSend 4 = .ok (.invokestatic 94, 3) := by decide +kernel
theorem dX11_toSend_7 : decode cX11_toSend 7 = .ok (.aload_n 0, 1) := by decide +kernel
theorem dX11_toSend_8 : decode cX11_toSend 8 = .ok (.getfield 77, 3) := by decide +kernel
theorem dX11_toSend_11 : decode cX11_toSend 11 = .ok (.aload_n 0, 1) := by decide +kernel
theorem dX11_toSend_12 : decode cX11_toSend 12 = .ok (.getfield 68, 3) := by decide +kernel
theorem dX11_toSend_15 : decode cX11_toSend 15 = .ok (.aload_n 0, 1) := by decide +kernel
theorem dX11_toSend_16 : decode cX11_toSend 16 = .ok (.getfield 19, 3) := by decide +kernel
theorem dX11_toSend_19 : decode cX11_toSend 19 = .ok (.invokevirtual 219, 3) := by decide +kernel
theorem dX11_toSend_22 : decode cX11_toSend 22 = .ok (.iconst (-1), 1) := by decide +kernel
theorem dX11_toSend_23 : decode cX11_toSend 23 = .ok (.istore_n 2, 1) := by decide +kernel
theorem dX11_toSend_24 : decode cX11_toSend 24 = .ok (.iconst (-1), 1) := by decide +kernel
theorem dX11_toSend_25 : decode cX11_toSend 25 = .ok (.istore_n 3, 1) := by decide +kernel
theorem dX11_toSend_26 : decode cX11_toSend 26 = .ok (.iconst 1, 1) := by decide +kernel
theorem dX11_toSend_27 : decode cX11_toSend 27 = .ok (.aload_n 0, 1) := by decide +kernel
theorem dX11_toSend_28 : decode cX11_toSend 28 = .ok (.getfield 68, 3) := by decide +kernel
theorem dX11_toSend_31 : decode cX11_toSend 31 = .ok (.getfield 120, 3) := by decide +kernel
theorem dX11_toSend_34 : decode cX11_toSend 34 = .ok (.ishl, 1) := by decide +kernel
theorem dX11_toSend_35 : decode cX11_toSend 35 = .ok (.istore 4, 2) := by decide +kernel
theorem dX11_toSend_37 : decode cX11_toSend 37 = .ok (.iconst 0, 1) := by decide +kernel
theorem dX11_toSend_38 : decode cX11_toSend 38 = .ok (.istore 5, 2) := by decide +kernel
theorem dX11_toSend_40 : decode cX11_toSend 40 = .ok (.iload 5, 2) := by decide +kernel
theorem dX11_toSend_42 : decode cX11_toSend 42 = .ok (.iload 4, 2) := by decide +kernel
theorem dX11_toSend_44 : decode cX11_toSend 44 = .ok (.if_icmp .ge 47, 3) := by decide +kernel
theorem dX11_toSend_47 : decode cX11_toSend 47 = .ok (.iload 5, 2) := by decide +kernel
theorem dX11_toSend_49 : decode cX11_toSend 49 = .ok (.invokestatic 257, 3) := by decide +kernel
theorem dX11_toSend_52 : decode cX11_toSend 52 = .ok (.iload_n 1, 1) := by decide +kernel
theorem dX11_toSend_53 : decode cX11_toSend 53 = .ok (.if_icmp .eq 6, 3) := by decide +kernel
theorem dX11_toSend_56 : decode cX11_toSend 56 = .ok (.goto 29, 3) := by decide +kernel
theorem dX11_toSend_59 : decode cX11_toSend 59 = .ok (.aload_n 0, 1) := by decide +kernel
theorem dX11_toSend_60 : decode cX11_toSend 60 = .ok (.getfield 77, 3) := by decide +kernel
theorem dX11_toSend_63 : decode cX11_toSend 63 = .ok (.iload 5, 2) := by decide +kernel
theorem dX11_toSend_65 : decode cX11_toSend 65 = .ok (.invokevirtual 281, 3) := by decide +kernel
theorem dX11_toSend_68 : decode cX11_toSend 68 = .ok (.invokestatic 257, 3) := by decide +kernel
theorem dX11_toSend_71 : decode cX11_toSend 71 = .ok (.istore 6, 2) := by decide +kernel
theorem dX11_toSend_73 : decode cX11_toSend 73 = .ok (.iload 6, 2) := by decide +kernel
theorem dX11_toSend_75 : decode cX11_toSend 75 = .ok (.iload_n 3, 1) := by decide +kernel
theorem dX11_toSend_76 : decode cX11_toSend 76 = .ok (.if_icmp .le 9, 3) := by decide +kernel
theorem dX11_toSend_79 : decode cX11_toSend 79 = .ok (.iload 6, 2) := by decide +kernel
theorem dX11_toSend_81 : decode cX11_toSend 81 = .ok (.istore_n 3, 1) := by decide +kernel
theorem dX11_toSend_82 : decode cX11_toSend 82 = .ok (.iload 5, 2) := by decide +kernel
theorem dX11_toSend_84 : decode cX11_toSend 84 = .ok (.istore_n 2, 1) := by decide +kernel
theorem dX11_toSend_85 : decode cX11_toSend 85 = .ok (.iinc 5 1, 3) := by decide +kernel
theorem dX11_toSend_88 : decode cX11_toSend 88 = .ok (.goto (-48), 3) := by decide +kernel
theorem dX11_toSend_91 : decode cX11_toSend 91 = .ok (.iload_n 2, 1) := by decide +kernel
theorem dX11_toSend_92 : decode cX11_toSend 92 = .ok (.ireturn, 1) := by decide +kernel
theorem dX11_happiest_0 : decode cX11_happiest 0 = .ok (.iload_n 1, 1) := by decide +kernel
theorem dX11_happiest_1 : decode cX11_happiest 1 = .ok (.iconst 2, 1) := by decide +kernel
theorem dX11_happiest_2 : decode cX11_happiest 2 = .ok (.invokestatic 247, 3) := by decide +kernel
theorem dX11_happiest_5 : decode cX11_happiest 5 = .ok (.iconst (-1), 1) := by decide +kernel
theorem dX11_happiest_6 : decode cX11_happiest 6 = .ok (.istore_n 2, 1) := by decide +kernel
theorem dX11_happiest_7 : decode cX11_happiest 7 = .ok (.iconst 0, 1) := by decide +kernel
theorem dX11_happiest_8 : decode cX11_happiest 8 = .ok (.istore_n 3, 1) := by decide +kernel
theorem dX11_happiest_9 : decode cX11_happiest 9 = .ok (.iconst 0, 1) := by decide +kernel
theorem dX11_happiest_10 : decode cX11_happiest 10 = .ok (.istore 4, 2) := by decide +kernel
theorem dX11_happiest_12 : decode cX11_happiest 12 = .ok (.iload 4, 2) := by decide +kernel
theorem dX11_happiest_14 : decode cX11_happiest 14 = .ok (.aload_n 0, 1) := by decide +kernel
theorem dX11_happiest_15 : decode cX11_happiest 15 = .ok (.getfield 68, 3) := by decide +kernel
theorem dX11_happiest_18 : decode cX11_happiest 18 = .ok (.getfield 120, 3) := by decide +kernel
theorem dX11_happiest_21 : decode cX11_happiest 21 = .ok (.if_icmp .ge 42, 3) := by decide +kernel
theorem dX11_happiest_24 : decode cX11_happiest 24 = .ok (.aload_n 0, 1) := by decide +kernel
theorem dX11_happiest_25 : decode cX11_happiest 25 = .ok (.getfield 68, 3) := by decide +kernel
theorem dX11_happiest_28 : decode cX11_happiest 28 = .ok (.aload_n 0, 1) := by decide +kernel
theorem dX11_happiest_29 : decode cX11_happiest 29 = .ok (.iload 4, 2) := by decide +kernel
theorem dX11_happiest_31 : decode cX11_happiest 31 = .ok (.iload_n 1, 1) := by decide +kernel
theorem dX11_happiest_32 : decode cX11_happiest 32 = .ok (.invokevirtual 284, 3) := by decide +kernel
theorem dX11_happiest_35 : decode cX11_happiest 35 = .ok (.invokevirtual 287, 3) := by decide +kernel
theorem dX11_happiest_38 : decode cX11_happiest 38 = .ok (.istore 5, 2) := by decide +kernel
theorem dX11_happiest_40 : decode cX11_happiest 40 = .ok (.iload_n 2, 1) := by decide +kernel
theorem dX11_happiest_41 : decode cX11_happiest 41 = .ok (.iconst (-1), 1) := by decide +kernel
theorem dX11_happiest_42 : decode cX11_happiest 42 = .ok (.if_icmp .eq 9, 3) := by decide +kernel
theorem dX11_happiest_45 : decode cX11_happiest 45 = .ok (.iload 5, 2) := by decide +kernel
theorem dX11_happiest_47 : decode cX11_happiest 47 = .ok (.iload_n 3, 1) := by decide +kernel
theorem dX11_happiest_48 : decode cX11_happiest 48 = .ok (.if_icmp .le 9, 3) := by decide +kernel
theorem dX11_happiest_51 : decode cX11_happiest 51 = .ok (.iload 5, 2) := by decide +kernel
theorem dX11_happiest_53 : decode cX11_happiest 53 = .ok (.istore_n 3, 1) := by decide +kernel
theorem dX11_happiest_54 : decode cX11_happiest 54 = .ok (.iload 4, 2) := by decide +kernel
theorem dX11_happiest_56 : decode cX11_happiest 56 = .ok (.istore_n 2, 1) := by decide +kernel
theorem dX11_happiest_57 : decode cX11_happiest 57 = .ok (.iinc 4 1, 3) := by decide +kernel
theorem dX11_happiest_60 : decode cX11_happiest 60 = .ok (.goto (-48), 3) := by decide +kernel
theorem dX11_happiest_63 : decode cX11_happiest 63 = .ok (.iload_n 2, 1) := by decide +kernel
theorem dX11_happiest_64 : decode cX11_happiest 64 = .ok (.ireturn, 1) := by decide +kernel
theorem dX11_bankOf_0 : decode cX11_bankOf 0 = .ok (.iload_n 2, 1) := by decide +kernel
theorem dX11_bankOf_1 : decode cX11_bankOf 1 = .ok (.ifCond .ne 13, 3) := by decide +kernel
theorem dX11_bankOf_4 : decode cX11_bankOf 4 = .ok (.aload_n 0, 1) := by decide +kernel
theorem dX11_bankOf_5 : decode cX11_bankOf 5 = .ok (.getfield 19, 3) := by decide +kernel
theorem dX11_bankOf_8 : decode cX11_bankOf 8 = .ok (.getfield 191, 3) := by decide +kernel
theorem dX11_bankOf_11 : decode cX11_bankOf 11 = .ok (.iload_n 1, 1) := by decide +kernel
theorem dX11_bankOf_12 : decode cX11_bankOf 12 = .ok (.iaload, 1) := by decide +kernel
theorem dX11_bankOf_13 : decode cX11_bankOf 13 = .ok (.ireturn, 1) := by decide +kernel
theorem dX11_bankOf_14 : decode cX11_bankOf 14 = .ok (.iload_n 2, 1) := by decide +kernel
theorem dX11_bankOf_15 : decode cX11_bankOf 15 = .ok (.iconst 1, 1) := by decide +kernel
theorem dX11_bankOf_16 : decode cX11_bankOf 16 = .ok (.if_icmp .ne 18, 3) := by decide +kernel
theorem dX11_bankOf_19 : decode cX11_bankOf 19 = .ok (.aload_n 0, 1) := by decide +kernel
theorem dX11_bankOf_20 : decode cX11_bankOf 20 = .ok (.getfield 68, 3) := by decide +kernel
theorem dX11_bankOf_23 : decode cX11_bankOf 23 = .ok (.aload_n 0, 1) := by decide +kernel
theorem dX11_bankOf_24 : decode cX11_bankOf 24 = .ok (.getfield 19, 3) := by decide +kernel
theorem dX11_bankOf_27 : decode cX11_bankOf 27 = .ok (.iload_n 1, 1) := by decide +kernel
theorem dX11_bankOf_28 : decode cX11_bankOf 28 = .ok (.invokevirtual 206, 3) := by decide +kernel
theorem dX11_bankOf_31 : decode cX11_bankOf 31 = .ok (.goto 15, 3) := by decide +kernel
theorem dX11_bankOf_34 : decode cX11_bankOf 34 = .ok (.aload_n 0, 1) := by decide +kernel
theorem dX11_bankOf_35 : decode cX11_bankOf 35 = .ok (.getfield 68, 3) := by decide +kernel
theorem dX11_bankOf_38 : decode cX11_bankOf 38 = .ok (.aload_n 0, 1) := by decide +kernel
theorem dX11_bankOf_39 : decode cX11_bankOf 39 = .ok (.getfield 19, 3) := by decide +kernel
theorem dX11_bankOf_42 : decode cX11_bankOf 42 = .ok (.iload_n 1, 1) := by decide +kernel
theorem dX11_bankOf_43 : decode cX11_bankOf 43 = .ok (.invokevirtual 210, 3) := by decide +kernel
theorem dX11_bankOf_46 : decode cX11_bankOf 46 = .ok (.ireturn, 1) := by decide +kernel
theorem dX11_critical_0 : decode cX11_critical 0 = .ok (.aload_n 0, 1) := by decide +kernel
theorem dX11_critical_1 : decode cX11_critical 1 = .ok (.iload_n 1, 1) := by decide +kernel
theorem dX11_critical_2 : decode cX11_critical 2 = .ok (.invokevirtual 188, 3) := by decide +kernel
theorem dX11_critical_5 : decode cX11_critical 5 = .ok (.aload_n 0, 1) := by decide +kernel
theorem dX11_critical_6 : decode cX11_critical 6 = .ok (.getfield 19, 3) := by decide +kernel
theorem dX11_critical_9 : decode cX11_critical 9 = .ok (.getfield 191, 3) := by decide +kernel
theorem dX11_critical_12 : decode cX11_critical 12 = .ok (.iload_n 1, 1) := by decide +kernel
theorem dX11_critical_13 : decode cX11_critical 13 = .ok (.iaload, 1) := by decide +kernel
theorem dX11_critical_14 : decode cX11_critical 14 = .ok (.iconst 1, 1) := by decide +kernel
theorem dX11_critical_15 : decode cX11_critical 15 = .ok (.aload_n 0, 1) := by decide +kernel
theorem dX11_critical_16 : decode cX11_critical 16 = .ok (.getfield 19, 3) := by decide +kernel
theorem dX11_critical_19 : decode cX11_critical 19 = .ok (.getfield 194, 3) := by decide +kernel
theorem dX11_critical_22 : decode cX11_critical 22 = .ok (.iload_n 1, 1) := by decide +kernel
theorem dX11_critical_23 : decode cX11_critical 23 = .ok (.iaload, 1) := by decide +kernel
theorem dX11_critical_24 : decode cX11_critical 24 = .ok (.ishl, 1) := by decide +kernel
theorem dX11_critical_25 : decode cX11_critical 25 = .ok (.ior, 1) := by decide +kernel
theorem dX11_critical_26 : decode cX11_critical 26 = .ok (.istore_n 2, 1) := by decide +kernel
theorem dX11_critical_27 : decode cX11_critical 27 = .ok (.aload_n 0, 1) := by decide +kernel
theorem dX11_critical_28 : decode cX11_critical 28 = .ok (.getfield 68, 3) := by decide +kernel
theorem dX11_critical_31 : decode cX11_critical 31 = .ok (.getfield 123, 3) := by decide +kernel
theorem dX11_critical_34 : decode cX11_critical 34 = .ok (.iload_n 2, 1) := by decide +kernel
theorem dX11_critical_35 : decode cX11_critical 35 = .ok (.aload_n 0, 1) := by decide +kernel
theorem dX11_critical_36 : decode cX11_critical 36 = .ok (.getfield 19, 3) := by decide +kernel
theorem dX11_critical_39 : decode cX11_critical 39 = .ok (.getfield 139, 3) := by decide +kernel
theorem dX11_critical_42 : decode cX11_critical 42 = .ok (.invokevirtual 262, 3) := by decide +kernel
theorem dX11_critical_45 : decode cX11_critical 45 = .ok (.istore_n 3, 1) := by decide +kernel
theorem dX11_critical_46 : decode cX11_critical 46 = .ok (.iconst 0, 1) := by decide +kernel
theorem dX11_critical_47 : decode cX11_critical 47 = .ok (.istore 4, 2) := by decide +kernel
theorem dX11_critical_49 : decode cX11_critical 49 = .ok (.iconst 0, 1) := by decide +kernel
theorem dX11_critical_50 : decode cX11_critical 50 = .ok (.istore 5, 2) := by decide +kernel
theorem dX11_critical_52 : decode cX11_critical 52 = .ok (.iload 5, 2) := by decide +kernel
theorem dX11_critical_54 : decode cX11_critical 54 = .ok (.aload_n 0, 1) := by decide +kernel
theorem dX11_critical_55 : decode cX11_critical 55 = .ok (.getfield 68, 3) := by decide +kernel
theorem dX11_critical_58 : decode cX11_critical 58 = .ok (.getfield 123, 3) := by decide +kernel
theorem dX11_critical_61 : decode cX11_critical 61 = .ok (.getfield 127, 3) := by decide +kernel
theorem dX11_critical_64 : decode cX11_critical 64 = .ok (.if_icmp .ge 45, 3) := by decide +kernel
theorem dX11_critical_67 : decode cX11_critical 67 = .ok (.aload_n 0, 1) := by decide +kernel
theorem dX11_critical_68 : decode cX11_critical 68 = .ok (.getfield 68, 3) := by decide +kernel
theorem dX11_critical_71 : decode cX11_critical 71 = .ok (.getfield 123, 3) := by decide +kernel
theorem dX11_critical_74 : decode cX11_critical 74 = .ok (.iload_n 2, 1) := by decide +kernel
theorem dX11_critical_75 : decode cX11_critical 75 = .ok (.aload_n 0, 1) := by decide +kernel
theorem dX11_critical_76 : decode cX11_critical 76 = .ok (.getfield 19, 3) := by decide +kernel
theorem dX11_critical_79 : decode cX11_critical 79 = .ok (.getfield 139, 3) := by decide +kernel
theorem dX11_critical_82 : decode cX11_critical 82 = .ok (.iconst 1, 1) := by decide +kernel
theorem dX11_critical_83 : decode cX11_critical 83 = .ok (.iload 5, 2) := by decide +kernel
theorem dX11_critical_85 : decode cX11_critical 85 = .ok (.ishl, 1) := by decide +kernel
theorem dX11_critical_86 : decode cX11_critical 86 = .ok (.ior, 1) := by decide +kernel
theorem dX11_critical_87 : decode cX11_critical 87 = .ok (.invokevirtual 262, 3) := by decide +kernel
theorem dX11_critical_90 : decode cX11_critical 90 = .ok (.iload_n 3, 1) := by decide +kernel
theorem dX11_critical_91 : decode cX11_critical 91 = .ok (.if_icmp .eq 12, 3) := by decide +kernel
theorem dX11_critical_94 : decode cX11_critical 94 = .ok (.iload 4, 2) := by decide +kernel
theorem dX11_critical_96 : decode cX11_critical 96 = .ok (.iconst 1, 1) := by decide +kernel
theorem dX11_critical_97 : decode cX11_critical 97 = .ok (.iload 5, 2) := by decide +kernel
theorem dX11_critical_99 : decode cX11_critical 99 = .ok (.ishl, 1) := by decide +kernel
theorem dX11_critical_100 : decode cX11_critical 100 = .ok (.ior, 1) := by decide +kernel
theorem dX11_critical_101 : decode cX11_critical 101 = .ok (.istore 4, 2) := by decide +kernel
theorem dX11_critical_103 : decode cX11_critical 103 = .ok (.iinc 5 1, 3) := by decide +kernel
theorem dX11_critical_106 : decode cX11_critical 106 = .ok (.goto (-54), 3) := by decide +kernel
theorem dX11_critical_109 : decode cX11_critical 109 = .ok (.iload 4, 2) := by decide +kernel
theorem dX11_critical_111 : decode cX11_critical 111 = .ok (.ireturn, 1) := by decide +kernel
theorem dX11_bestMissed_0 : decode cX11_bestMissed 0 = .ok (.aload_n 0, 1) := by decide +kernel
theorem dX11_bestMissed_1 : decode cX11_bestMissed 1 = .ok (.iload_n 1, 1) := by decide +kernel
theorem dX11_bestMissed_2 : decode cX11_bestMissed 2 = .ok (.invokevirtual 188, 3) := by decide +kernel
theorem dX11_bestMissed_5 : decode cX11_bestMissed 5 = .ok (.aload_n 0, 1) := by decide +kernel
theorem dX11_bestMissed_6 : decode cX11_bestMissed 6 = .ok (.iload_n 1, 1) := by decide +kernel
theorem dX11_bestMissed_7 : decode cX11_bestMissed 7 = .ok (.invokevirtual 290, 3) := by decide +kernel
theorem dX11_bestMissed_10 : decode cX11_bestMissed 10 = .ok (.iconst 0, 1) := by decide +kernel
theorem dX11_bestMissed_11 : decode cX11_bestMissed 11 = .ok (.istore_n 2, 1) := by decide +kernel
theorem dX11_bestMissed_12 : decode cX11_bestMissed 12 = .ok (.iconst 1, 1) := by decide +kernel
theorem dX11_bestMissed_13 : decode cX11_bestMissed 13 = .ok (.istore_n 3, 1) := by decide +kernel
theorem dX11_bestMissed_14 : decode cX11_bestMissed 14 = .ok (.iload_n 3, 1) := by decide +kernel
theorem dX11_bestMissed_15 : decode cX11_bestMissed 15 = .ok (.bipush 10, 2) := by decide +kernel
theorem dX11_bestMissed_17 : decode cX11_bestMissed 17 = .ok (.if_icmp .ge 40, 3) := by decide +kernel
theorem dX11_bestMissed_20 : decode cX11_bestMissed 20 = .ok (.aload_n 0, 1) := by decide +kernel
theorem dX11_bestMissed_21 : decode cX11_bestMissed 21 = .ok (.getfield 68, 3) := by decide +kernel
theorem dX11_bestMissed_24 : decode cX11_bestMissed 24 = .ok (.aload_n 0, 1) := by decide +kernel
theorem dX11_bestMissed_25 : decode cX11_bestMissed 25 = .ok (.getfield 55, 3) := by decide +kernel
theorem dX11_bestMissed_28 : decode cX11_bestMissed 28 = .ok (.iload_n 3, 1) := by decide +kernel
theorem dX11_bestMissed_29 : decode cX11_bestMissed 29 = .ok (.iaload, 1) := by decide +kernel
theorem dX11_bestMissed_30 : decode cX11_bestMissed 30 = .ok (.invokevirtual 287, 3) := by decide +kernel
theorem dX11_bestMissed_33 : decode cX11_bestMissed 33 = .ok (.aload_n 0, 1) := by decide +kernel
theorem dX11_bestMissed_34 : decode cX11_bestMissed 34 = .ok (.getfield 68, 3) := by decide +kernel
theorem dX11_bestMissed_37 : decode cX11_bestMissed 37 = .ok (.aload_n 0, 1) := by decide +kernel
theorem dX11_bestMissed_38 : decode cX11_bestMissed 38 = .ok (.getfield 55, 3) := by decide +kernel
theorem dX11_bestMissed_41 : decode cX11_bestMissed 41 = .ok (.iload_n 2, 1) := by decide +kernel
theorem dX11_bestMissed_42 : decode cX11_bestMissed 42 = .ok (.iaload, 1) := by decide +kernel
theorem dX11_bestMissed_43 : decode cX11_bestMissed 43 = .ok (.invokevirtual 287, 3) := by decide +kernel
theorem dX11_bestMissed_46 : decode cX11_bestMissed 46 = .ok (.if_icmp .le 5, 3) := by decide +kernel
theorem dX11_bestMissed_49 : decode cX11_bestMissed 49 = .ok (.iload_n 3, 1) := by decide +kernel
theorem dX11_bestMissed_50 : decode cX11_bestMissed 50 = .ok (.istore_n 2, 1) := by decide +kernel
theorem dX11_bestMissed_51 : decode cX11_bestMissed 51 = .ok (.iinc 3 1, 3) := by decide +kernel
theorem dX11_bestMissed_54 : decode cX11_bestMissed 54 = .ok (.goto (-40), 3) := by decide +kernel
theorem dX11_bestMissed_57 : decode cX11_bestMissed 57 = .ok (.iload_n 2, 1) := by decide +kernel
theorem dX11_bestMissed_58 : decode cX11_bestMissed 58 = .ok (.ireturn, 1) := by decide +kernel
theorem dX11_common_0 : decode cX11_common 0 = .ok (.aload_n 0, 1) := by decide +kernel
theorem dX11_common_1 : decode cX11_common 1 = .ok (.iload_n 1, 1) := by decide +kernel
theorem dX11_common_2 : decode cX11_common 2 = .ok (.invokevirtual 188, 3) := by decide +kernel
theorem dX11_common_5 : decode cX11_common 5 = .ok (.aload_n 0, 1) := by decide +kernel
theorem dX11_common_6 : decode cX11_common 6 = .ok (.iload_n 2, 1) := by decide +kernel
theorem dX11_common_7 : decode cX11_common 7 = .ok (.invokevirtual 188, 3) := by decide +kernel
theorem dX11_common_10 : decode cX11_common 10 = .ok (.aload_n 0, 1) := by decide +kernel
theorem dX11_common_11 : decode cX11_common 11 = .ok (.getfield 68, 3) := by decide +kernel
theorem dX11_common_14 : decode cX11_common 14 = .ok (.aload_n 0, 1) := by decide +kernel
theorem dX11_common_15 : decode cX11_common 15 = .ok (.getfield 19, 3) := by decide +kernel
theorem dX11_common_18 : decode cX11_common 18 = .ok (.iload_n 1, 1) := by decide +kernel
theorem dX11_common_19 : decode cX11_common 19 = .ok (.invokevirtual 206, 3) := by decide +kernel
theorem dX11_common_22 : decode cX11_common 22 = .ok (.aload_n 0, 1) := by decide +kernel
theorem dX11_common_23 : decode cX11_common 23 = .ok (.getfield 68, 3) := by decide +kernel
theorem dX11_common_26 : decode cX11_common 26 = .ok (.aload_n 0, 1) := by decide +kernel
theorem dX11_common_27 : decode cX11_common 27 = .ok (.getfield 19, 3) := by decide +kernel
theorem dX11_common_30 : decode cX11_common 30 = .ok (.iload_n 2, 1) := by decide +kernel
theorem dX11_common_31 : decode cX11_common 31 = .ok (.invokevirtual 206, 3) := by decide +kernel
theorem dX11_common_34 : decode cX11_common 34 = .ok (.iand, 1) := by decide +kernel
theorem dX11_common_35 : decode cX11_common 35 = .ok (.ireturn, 1) := by decide +kernel
theorem dX11_apart_0 : decode cX11_apart 0 = .ok (.aload_n 0, 1) := by decide +kernel
theorem dX11_apart_1 : decode cX11_apart 1 = .ok (.iload_n 1, 1) := by decide +kernel
theorem dX11_apart_2 : decode cX11_apart 2 = .ok (.invokevirtual 188, 3) := by decide +kernel
theorem dX11_apart_5 : decode cX11_apart 5 = .ok (.aload_n 0, 1) := by decide +kernel
theorem dX11_apart_6 : decode cX11_apart 6 = .ok (.iload_n 2, 1) := by decide +kernel
theorem dX11_apart_7 : decode cX11_apart 7 = .ok (.invokevirtual 188, 3) := by decide +kernel
theorem dX11_apart_10 : decode cX11_apart 10 = .ok (.aload_n 0, 1) := by decide +kernel
theorem dX11_apart_11 : decode cX11_apart 11 = .ok (.getfield 68, 3) := by decide +kernel
theorem dX11_apart_14 : decode cX11_apart 14 = .ok (.aload_n 0, 1) := by decide +kernel
theorem dX11_apart_15 : decode cX11_apart 15 = .ok (.getfield 19, 3) := by decide +kernel
theorem dX11_apart_18 : decode cX11_apart 18 = .ok (.iload_n 1, 1) := by decide +kernel
theorem dX11_apart_19 : decode cX11_apart 19 = .ok (.invokevirtual 206, 3) := by decide +kernel
theorem dX11_apart_22 : decode cX11_apart 22 = .ok (.aload_n 0, 1) := by decide +kernel
theorem dX11_apart_23 : decode cX11_apart 23 = .ok (.getfield 68, 3) := by decide +kernel
theorem dX11_apart_26 : decode cX11_apart 26 = .ok (.aload_n 0, 1) := by decide +kernel
theorem dX11_apart_27 : decode cX11_apart 27 = .ok (.getfield 19, 3) := by decide +kernel
theorem dX11_apart_30 : decode cX11_apart 30 = .ok (.iload_n 2, 1) := by decide +kernel
theorem dX11_apart_31 : decode cX11_apart 31 = .ok (.invokevirtual 206, 3) := by decide +kernel
theorem dX11_apart_34 : decode cX11_apart 34 = .ok (.ixor, 1) := by decide +kernel
theorem dX11_apart_35 : decode cX11_apart 35 = .ok (.invokestatic 257, 3) := by decide +kernel
theorem dX11_apart_38 : decode cX11_apart 38 = .ok (.ireturn, 1) := by decide +kernel
theorem dX11_unhad_0 : decode cX11_unhad 0 = .ok (.iconst 0, 1) := by decide +kernel
theorem dX11_unhad_1 : decode cX11_unhad 1 = .ok (.istore_n 1, 1) := by decide +kernel
theorem dX11_unhad_2 : decode cX11_unhad 2 = .ok (.iconst 0, 1) := by decide +kernel
theorem dX11_unhad_3 : decode cX11_unhad 3 = .ok (.istore_n 2, 1) := by decide +kernel
theorem dX11_unhad_4 : decode cX11_unhad 4 = .ok (.iload_n 2, 1) := by decide +kernel
theorem dX11_unhad_5 : decode cX11_unhad 5 = .ok (.aload_n 0, 1) := by decide +kernel
theorem dX11_unhad_6 : decode cX11_unhad 6 = .ok (.getfield 68, 3) := by decide +kernel
theorem dX11_unhad_9 : decode cX11_unhad 9 = .ok (.getfield 120, 3) := by decide +kernel
theorem dX11_unhad_12 : decode cX11_unhad 12 = .ok (.if_icmp .ge 24, 3) := by decide +kernel
theorem dX11_unhad_15 : decode cX11_unhad 15 = .ok (.iload_n 1, 1) := by decide +kernel
theorem dX11_unhad_16 : decode cX11_unhad 16 = .ok (.aload_n 0, 1) := by decide +kernel
theorem dX11_unhad_17 : decode cX11_unhad 17 = .ok (.getfield 68, 3) := by decide +kernel
theorem dX11_unhad_20 : decode cX11_unhad 20 = .ok (.aload_n 0, 1) := by decide +kernel
theorem dX11_unhad_21 : decode cX11_unhad 21 = .ok (.getfield 19, 3) := by decide +kernel
theorem dX11_unhad_24 : decode cX11_unhad 24 = .ok (.iload_n 2, 1) := by decide +kernel
theorem dX11_unhad_25 : decode cX11_unhad 25 = .ok (.invokevirtual 206, 3) := by decide +kernel
theorem dX11_unhad_28 : decode cX11_unhad 28 = .ok (.ior, 1) := by decide +kernel
theorem dX11_unhad_29 : decode cX11_unhad 29 = .ok (.istore_n 1, 1) := by decide +kernel
theorem dX11_unhad_30 : decode cX11_unhad 30 = .ok (.iinc 2 1, 3) := by decide +kernel
theorem dX11_unhad_33 : decode cX11_unhad 33 = .ok (.goto (-29), 3) := by decide +kernel
theorem dX11_unhad_36 : decode cX11_unhad 36 = .ok (.sipush 1023, 3) := by decide +kernel
theorem dX11_unhad_39 : decode cX11_unhad 39 = .ok (.iload_n 1, 1) := by decide +kernel
theorem dX11_unhad_40 : decode cX11_unhad 40 = .ok (.iconst (-1), 1) := by decide +kernel
theorem dX11_unhad_41 : decode cX11_unhad 41 = .ok (.ixor, 1) := by decide +kernel
theorem dX11_unhad_42 : decode cX11_unhad 42 = .ok (.iand, 1) := by decide +kernel
theorem dX11_unhad_43 : decode cX11_unhad 43 = .ok (.ireturn, 1) := by decide +kernel
theorem dX11_see_0 : decode cX11_see 0 = .ok (.aload_n 0, 1) := by decide +kernel
theorem dX11_see_1 : decode cX11_see 1 = .ok (.iload_n 1, 1) := by decide +kernel
theorem dX11_see_2 : decode cX11_see 2 = .ok (.invokevirtual 188, 3) := by decide +kernel
theorem dX11_see_5 : decode cX11_see 5 = .ok (.iload_n 2, 1) := by decide +kernel
theorem dX11_see_6 : decode cX11_see 6 = .ok (.invokestatic 161, 3) := by decide +kernel
theorem dX11_see_9 : decode cX11_see 9 = .ok (.aload_n 0, 1) := by decide +kernel
theorem dX11_see_10 : decode cX11_see 10 = .ok (.getfield 33, 3) := by decide +kernel
theorem dX11_see_13 : decode cX11_see 13 = .ok (.iload_n 1, 1) := by decide +kernel
theorem dX11_see_14 : decode cX11_see 14 = .ok (.iload_n 2, 1) := by decide +kernel
theorem dX11_see_15 : decode cX11_see 15 = .ok (.iload_n 3, 1) := by decide +kernel
theorem dX11_see_16 : decode cX11_see 16 = .ok (.invokevirtual 293, 3) := by decide +kernel
theorem dX11_see_19 : decode cX11_see 19 = .ok (.ifCond .ne 15, 3) := by decide +kernel
theorem dX11_see_22 : decode cX11_see 22 = .ok (.aload_n 0, 1) := by decide +kernel
theorem dX11_see_23 : decode cX11_see 23 = .ok (.getfield 37, 3) := by decide +kernel
theorem dX11_see_26 : decode cX11_see 26 = .ok (.iconst 2, 1) := by decide +kernel
theorem dX11_see_27 : decode cX11_see 27 = .ok (.dup2, 1) := by decide +kernel
theorem dX11_see_28 : decode cX11_see 28 = .ok (.iaload, 1) := by decide +kernel
theorem dX11_see_29 : decode cX11_see 29 = .ok (.iconst 1, 1) := by decide +kernel
theorem dX11_see_30 : decode cX11_see 30 = .ok (.iadd, 1) := by decide +kernel
theorem dX11_see_31 : decode cX11_see 31 = .ok (.iastore, 1) := by decide +kernel
theorem dX11_see_32 : decode cX11_see 32 = .ok (.iconst (-1), 1) := by decide +kernel
theorem dX11_see_33 : decode cX11_see 33 = .ok (.ireturn, 1) := by decide +kernel
theorem dX11_see_34 : decode cX11_see 34 = .ok (.aload_n 0, 1) := by decide +kernel
theorem dX11_see_35 : decode cX11_see 35 = .ok (.getfield 33, 3) := by decide +kernel
theorem dX11_see_38 : decode cX11_see 38 = .ok (.getfield 153, 3) := by decide +kernel
theorem dX11_see_41 : decode cX11_see 41 = .ok (.ireturn, 1) := by decide +kernel
theorem dX11_tells_0 : decode cX11_tells 0 = .ok (.aload_n 0, 1) := by decide +kernel
theorem dX11_tells_1 : decode cX11_tells 1 = .ok (.iload_n 1, 1) := by decide +kernel
theorem dX11_tells_2 : decode cX11_tells 2 = .ok (.invokevirtual 188, 3) := by decide +kernel
theorem dX11_tells_5 : decode cX11_tells 5 = .ok (.aload_n 0, 1) := by decide +kernel
theorem dX11_tells_6 : decode cX11_tells 6 = .ok (.iload_n 1, 1) := by decide +kernel
theorem dX11_tells_7 : decode cX11_tells 7 = .ok (.invokevirtual 290, 3) := by decide +kernel
theorem dX11_tells_10 : decode cX11_tells 10 = .ok (.aload_n 0, 1) := by decide +kernel
theorem dX11_tells_11 : decode cX11_tells 11 = .ok (.iload_n 1, 1) := by decide +kernel
theorem dX11_tells_12 : decode cX11_tells 12 = .ok (.invokevirtual 296, 3) := by decide +kernel
theorem dX11_tells_15 : decode cX11_tells 15 = .ok (.ireturn, 1) := by decide +kernel
theorem dX11_look_0 : decode cX11_look 0 = .ok (.aload_n 0, 1) := by decide +kernel
theorem dX11_look_1 : decode cX11_look 1 = .ok (.iload_n 1, 1) := by decide +kernel
theorem dX11_look_2 : decode cX11_look 2 = .ok (.invokevirtual 188, 3) := by decide +kernel
theorem dX11_look_5 : decode cX11_look 5 = .ok (.iload_n 2, 1) := by decide +kernel
theorem dX11_look_6 : decode cX11_look 6 = .ok (.iconst 1, 1) := by decide +kernel
theorem dX11_look_7 : decode cX11_look 7 = .ok (.invokestatic 247, 3) := by decide +kernel
theorem dX11_look_10 : decode cX11_look 10 = .ok (.aload_n 0, 1) := by decide +kernel
theorem dX11_look_11 : decode cX11_look 11 = .ok (.iload_n 1, 1) := by decide +kernel
theorem dX11_look_12 : decode cX11_look 12 = .ok (.invokevirtual 290, 3) := by decide +kernel
theorem dX11_look_15 : decode cX11_look 15 = .ok (.aload_n 0, 1) := by decide +kernel
theorem dX11_look_16 : decode cX11_look 16 = .ok (.iload_n 1, 1) := by decide +kernel
theorem dX11_look_17 : decode cX11_look 17 = .ok (.invokevirtual 296, 3) := by decide +kernel
theorem dX11_look_20 : decode cX11_look 20 = .ok (.istore_n 3, 1) := by decide +kernel
theorem dX11_look_21 : decode cX11_look 21 = .ok (.iload_n 3, 1) := by decide +kernel
theorem dX11_look_22 : decode cX11_look 22 = .ok (.ifCond .ne 13, 3) := by decide +kernel
theorem dX11_look_25 : decode cX11_look 25 = .ok (.iload_n 2, 1) := by decide +kernel
theorem dX11_look_26 : decode cX11_look 26 = .ok (.ifCond .ne 7, 3) := by decide +kernel
theorem dX11_look_29 : decode cX11_look 29 = .ok (.iconst (-1), 1) := by decide +kernel
theorem dX11_look_30 : decode cX11_look 30 = .ok (.goto 4, 3) := by decide +kernel
theorem dX11_look_33 : decode cX11_look 33 = .ok (.iconst 0, 1) := by decide +kernel
theorem dX11_look_34 : decode cX11_look 34 = .ok (.ireturn, 1) := by decide +kernel
theorem dX11_look_35 : decode cX11_look 35 = .ok (.iconst 0, 1) := by decide +kernel
theorem dX11_look_36 : decode cX11_look 36 = .ok (.istore 4, 2) := by decide +kernel
theorem dX11_look_38 : decode cX11_look 38 = .ok (.iconst (-1), 1) := by decide +kernel
theorem dX11_look_39 : decode cX11_look 39 = .ok (.istore 5, 2) := by decide +kernel
theorem dX11_look_41 : decode cX11_look 41 = .ok (.iconst 0, 1) := by decide +kernel
theorem dX11_look_42 : decode cX11_look 42 = .ok (.istore 6, 2) := by decide +kernel
theorem dX11_look_44 : decode cX11_look 44 = .ok (.iload 6, 2) := by decide +kernel
theorem dX11_look_46 : decode cX11_look 46 = .ok (.bipush 10, 2) := by decide +kernel
theorem dX11_look_48 : decode cX11_look 48 = .ok (.if_icmp .ge 47, 3) := by decide +kernel
theorem dX11_look_51 : decode cX11_look 51 = .ok (.aload_n 0, 1) := by decide +kernel
theorem dX11_look_52 : decode cX11_look 52 = .ok (.iload 6, 2) := by decide +kernel
theorem dX11_look_54 : decode cX11_look 54 = .ok (.iload_n 3, 1) := by decide +kernel
theorem dX11_look_55 : decode cX11_look 55 = .ok (.invokevirtual 299, 3) := by decide +kernel
theorem dX11_look_58 : decode cX11_look 58 = .ok (.istore 7, 2) := by decide +kernel
theorem dX11_look_60 : decode cX11_look 60 = .ok (.iload 7, 2) := by decide +kernel
theorem dX11_look_62 : decode cX11_look 62 = .ok (.iload_n 3, 1) := by decide +kernel
theorem dX11_look_63 : decode cX11_look 63 = .ok (.invokestatic 257, 3) := by decide +kernel
theorem dX11_look_66 : decode cX11_look 66 = .ok (.iload 7, 2) := by decide +kernel
theorem dX11_look_68 : decode cX11_look 68 = .ok (.isub, 1) := by decide +kernel
theorem dX11_look_69 : decode cX11_look 69 = .ok (.invokestatic 302, 3) := by decide +kernel
theorem dX11_look_72 : decode cX11_look 72 = .ok (.istore 8, 2) := by decide +kernel
theorem dX11_look_74 : decode cX11_look 74 = .ok (.iload 8, 2) := by decide +kernel
theorem dX11_look_76 : decode cX11_look 76 = .ok (.iload 5, 2) := by decide +kernel
theorem dX11_look_78 : decode cX11_look 78 = .ok (.if_icmp .le 11, 3) := by decide +kernel
theorem dX11_look_81 : decode cX11_look 81 = .ok (.iload 8, 2) := by decide +kernel
theorem dX11_look_83 : decode cX11_look 83 = .ok (.istore 5, 2) := by decide +kernel
theorem dX11_look_85 : decode cX11_look 85 = .ok (.iload 6, 2) := by decide +kernel
theorem dX11_look_87 : decode cX11_look 87 = .ok (.istore 4, 2) := by decide +kernel
theorem dX11_look_89 : decode cX11_look 89 = .ok (.iinc 6 1, 3) := by decide +kernel
theorem dX11_look_92 : decode cX11_look 92 = .ok (.goto (-48), 3) := by decide +kernel
theorem dX11_look_95 : decode cX11_look 95 = .ok (.iload_n 2, 1) := by decide +kernel
theorem dX11_look_96 : decode cX11_look 96 = .ok (.ifCond .ne 8, 3) := by decide +kernel
theorem dX11_look_99 : decode cX11_look 99 = .ok (.iload 4, 2) := by decide +kernel
theorem dX11_look_101 : decode cX11_look 101 = .ok (.goto 5, 3) := by decide +kernel
theorem dX11_look_104 : decode cX11_look 104 = .ok (.iload 5, 2) := by decide +kernel
theorem dX11_look_106 : decode cX11_look 106 = .ok (.ireturn, 1) := by decide +kernel
theorem dX11_forget_0 : decode cX11_forget 0 = .ok (.aload_n 0, 1) := by decide +kernel
theorem dX11_forget_1 : decode cX11_forget 1 = .ok (.getfield 33, 3) := by decide +kernel
theorem dX11_forget_4 : decode cX11_forget 4 = .ok (.invokevirtual 115, 3) := by decide +kernel
theorem dX11_forget_7 : decode cX11_forget 7 = .ok (.return_, 1) := by decide +kernel
theorem dX11_supposeEachMissed_0 : decode cX11_supposeEachMissed 0 = .ok (.iconst 0, 1) := by decide +kernel
theorem dX11_supposeEachMissed_1 : decode cX11_supposeEachMissed 1 = .ok (.istore_n 2, 1) := by decide +kernel
theorem dX11_supposeEachMissed_2 : decode cX11_supposeEachMissed 2 = .ok (.iload_n 2, 1) := by decide +kernel
theorem dX11_supposeEachMissed_3 : decode cX11_supposeEachMissed 3 = .ok (.bipush 10, 2) := by decide +kernel
theorem dX11_supposeEachMissed_5 : decode cX11_supposeEachMissed 5 = .ok (.if_icmp .ge 45, 3) := by decide +kernel
theorem dX11_supposeEachMissed_8 : decode cX11_supposeEachMissed 8 = .ok (.aload_n 0, 1) := by decide +kernel
theorem dX11_supposeEachMissed_9 : decode cX11_supposeEachMissed 9 = .ok (.getfield 55, 3) := by decide +kernel
theorem dX11_supposeEachMissed_12 : decode cX11_supposeEachMissed 12 = .ok (.iload_n 2, 1) := by decide +kernel
theorem dX11_supposeEachMissed_13 : decode cX11_supposeEachMissed 13 = .ok (.aload_n 0, 1) := by decide +kernel
