theorem dX12_worthOf_12 : decode cX12_worthOf 12 = .ok (.iload_n 3, 1) := by decide +kernel
theorem dX12_worthOf_13 : decode cX12_worthOf 13 = .ok (.invokestatic 263, 3) := by decide +kernel
theorem dX12_worthOf_16 : decode cX12_worthOf 16 = .ok (.ifCond .eq 12, 3) := by decide +kernel
theorem dX12_worthOf_19 : decode cX12_worthOf 19 = .ok (.aload_n 0, 1) := by decide +kernel
theorem dX12_worthOf_20 : decode cX12_worthOf 20 = .ok (.getfield 40, 3) := by decide +kernel
theorem dX12_worthOf_23 : decode cX12_worthOf 23 = .ok (.iload_n 3, 1) := by decide +kernel
theorem dX12_worthOf_24 : decode cX12_worthOf 24 = .ok (.iaload, 1) := by decide +kernel
theorem dX12_worthOf_25 : decode cX12_worthOf 25 = .ok (.goto 4, 3) := by decide +kernel
theorem dX12_worthOf_28 : decode cX12_worthOf 28 = .ok (.iconst 0, 1) := by decide +kernel
theorem dX12_worthOf_29 : decode cX12_worthOf 29 = .ok (.iadd, 1) := by decide +kernel
theorem dX12_worthOf_30 : decode cX12_worthOf 30 = .ok (.istore_n 2, 1) := by decide +kernel
theorem dX12_worthOf_31 : decode cX12_worthOf 31 = .ok (.iinc 3 1, 3) := by decide +kernel
theorem dX12_worthOf_34 : decode cX12_worthOf 34 = .ok (.goto (-30), 3) := by decide +kernel
theorem dX12_worthOf_37 : decode cX12_worthOf 37 = .ok (.iload_n 2, 1) := by decide +kernel
theorem dX12_worthOf_38 : decode cX12_worthOf 38 = .ok (.ireturn, 1) := by decide +kernel
theorem dX12_reckon_0 : decode cX12_reckon 0 = .ok (.iload_n 0, 1) := by decide +kernel
theorem dX12_reckon_1 : decode cX12_reckon 1 = .ok (.tableswitch 103 (-26) (-20) #[89, 78, 67, 55, 51, 47, 43], 43) := by decide +kernel
theorem dX12_reckon_44 : decode cX12_reckon 44 = .ok (.iload_n 1, 1) := by decide +kernel
theorem dX12_reckon_45 : decode cX12_reckon 45 = .ok (.iload_n 2, 1) := by decide +kernel
theorem dX12_reckon_46 : decode cX12_reckon 46 = .ok (.iadd, 1) := by decide +kernel
theorem dX12_reckon_47 : decode cX12_reckon 47 = .ok (.ireturn, 1) := by decide +kernel
theorem dX12_reckon_48 : decode cX12_reckon 48 = .ok (.iload_n 1, 1) := by decide +kernel
theorem dX12_reckon_49 : decode cX12_reckon 49 = .ok (.iload_n 2, 1) := by decide +kernel
theorem dX12_reckon_50 : decode cX12_reckon 50 = .ok (.isub, 1) := by decide +kernel
theorem dX12_reckon_51 : decode cX12_reckon 51 = .ok (.ireturn, 1) := by decide +kernel
theorem dX12_reckon_52 : decode cX12_reckon 52 = .ok (.iload_n 1, 1) := by decide +kernel
theorem dX12_reckon_53 : decode cX12_reckon 53 = .ok (.iload_n 2, 1) := by decide +kernel
theorem dX12_reckon_54 : decode cX12_reckon 54 = .ok (.imul, 1) := by decide +kernel
theorem dX12_reckon_55 : decode cX12_reckon 55 = .ok (.ireturn, 1) := by decide +kernel
theorem dX12_reckon_56 : decode cX12_reckon 56 = .ok (.iload_n 2, 1) := by decide +kernel
theorem dX12_reckon_57 : decode cX12_reckon 57 = .ok (.ifCond .ne 7, 3) := by decide +kernel
theorem dX12_reckon_60 : decode cX12_reckon 60 = .ok (.iconst 0, 1) := by decide +kernel
theorem dX12_reckon_61 : decode cX12_reckon 61 = .ok (.goto 6, 3) := by decide +kernel
theorem dX12_reckon_64 : decode cX12_reckon 64 = .ok (.iload_n 1, 1) := by decide +kernel
theorem dX12_reckon_65 : decode cX12_reckon 65 = .ok (.iload_n 2, 1) := by decide +kernel
theorem dX12_reckon_66 : decode cX12_reckon 66 = .ok (.idiv, 1) := by decide +kernel
theorem dX12_reckon_67 : decode cX12_reckon 67 = .ok (.ireturn, 1) := by decide +kernel
theorem dX12_reckon_68 : decode cX12_reckon 68 = .ok (.iload_n 1, 1) := by decide +kernel
theorem dX12_reckon_69 : decode cX12_reckon 69 = .ok (.iload_n 2, 1) := by decide +kernel
theorem dX12_reckon_70 : decode cX12_reckon 70 = .ok (.if_icmp .ge 7, 3) := by decide +kernel
theorem dX12_reckon_73 : decode cX12_reckon 73 = .ok (.iconst 1, 1) := by decide +kernel
theorem dX12_reckon_74 : decode cX12_reckon 74 = .ok (.goto 4, 3) := by decide +kernel
theorem dX12_reckon_77 : decode cX12_reckon 77 = .ok (.iconst 0, 1) := by decide +kernel
theorem dX12_reckon_78 : decode cX12_reckon 78 = .ok (.ireturn, 1) := by decide +kernel
theorem dX12_reckon_79 : decode cX12_reckon 79 = .ok (.iload_n 1, 1) := by decide +kernel
theorem dX12_reckon_80 : decode cX12_reckon 80 = .ok (.iload_n 2, 1) := by decide +kernel
theorem dX12_reckon_81 : decode cX12_reckon 81 = .ok (.if_icmp .ne 7, 3) := by decide +kernel
theorem dX12_reckon_84 : decode cX12_reckon 84 = .ok (.iconst 1, 1) := by decide +kernel
theorem dX12_reckon_85 : decode cX12_reckon 85 = .ok (.goto 4, 3) := by decide +kernel
theorem dX12_reckon_88 : decode cX12_reckon 88 = .ok (.iconst 0, 1) := by decide +kernel
theorem dX12_reckon_89 : decode cX12_reckon 89 = .ok (.ireturn, 1) := by decide +kernel
theorem dX12_reckon_90 : decode cX12_reckon 90 = .ok (.iload_n 1, 1) := by decide +kernel
theorem dX12_reckon_91 : decode cX12_reckon 91 = .ok (.ifCond .eq 11, 3) := by decide +kernel
theorem dX12_reckon_94 : decode cX12_reckon 94 = .ok (.iload_n 2, 1) := by decide +kernel
theorem dX12_reckon_95 : decode cX12_reckon 95 = .ok (.ifCond .eq 7, 3) := by decide +kernel
theorem dX12_reckon_98 : decode cX12_reckon 98 = .ok (.iconst 1, 1) := by decide +kernel
theorem dX12_reckon_99 : decode cX12_reckon 99 = .ok (.goto 4, 3) := by decide +kernel
theorem dX12_reckon_102 : decode cX12_reckon 102 = .ok (.iconst 0, 1) := by decide +kernel
theorem dX12_reckon_103 : decode cX12_reckon 103 = .ok (.ireturn, 1) := by decide +kernel
theorem dX12_reckon_104 : decode cX12_reckon 104 = .ok (.iload_n 1, 1) := by decide +kernel
theorem dX12_reckon_105 : decode cX12_reckon 105 = .ok (.ifCond .ne 7, 3) := by decide +kernel
theorem dX12_reckon_108 : decode cX12_reckon 108 = .ok (.iload_n 2, 1) := by decide +kernel
theorem dX12_reckon_109 : decode cX12_reckon 109 = .ok (.ifCond .eq 7, 3) := by decide +kernel
theorem dX12_reckon_112 : decode cX12_reckon 112 = .ok (.iconst 1, 1) := by decide +kernel
theorem dX12_reckon_113 : decode cX12_reckon 113 = .ok (.goto 4, 3) := by decide +kernel
theorem dX12_reckon_116 : decode cX12_reckon 116 = .ok (.iconst 0, 1) := by decide +kernel
theorem dX12_reckon_117 : decode cX12_reckon 117 = .ok (.ireturn, 1) := by decide +kernel
theorem dX12_valueNow_0 : decode cX12_valueNow 0 = .ok (.iconst 0, 1) := by decide +kernel
theorem dX12_valueNow_1 : decode cX12_valueNow 1 = .ok (.istore_n 1, 1) := by decide +kernel
theorem dX12_valueNow_2 : decode cX12_valueNow 2 = .ok (.iconst 0, 1) := by decide +kernel
theorem dX12_valueNow_3 : decode cX12_valueNow 3 = .ok (.istore_n 2, 1) := by decide +kernel
theorem dX12_valueNow_4 : decode cX12_valueNow 4 = .ok (.iload_n 2, 1) := by decide +kernel
theorem dX12_valueNow_5 : decode cX12_valueNow 5 = .ok (.aload_n 0, 1) := by decide +kernel
theorem dX12_valueNow_6 : decode cX12_valueNow 6 = .ok (.getfield 36, 3) := by decide +kernel
theorem dX12_valueNow_9 : decode cX12_valueNow 9 = .ok (.iconst 3, 1) := by decide +kernel
theorem dX12_valueNow_10 : decode cX12_valueNow 10 = .ok (.iaload, 1) := by decide +kernel
theorem dX12_valueNow_11 : decode cX12_valueNow 11 = .ok (.if_icmp .ge 112, 3) := by decide +kernel
theorem dX12_valueNow_14 : decode cX12_valueNow 14 = .ok (.aload_n 0, 1) := by decide +kernel
theorem dX12_valueNow_15 : decode cX12_valueNow 15 = .ok (.getfield 67, 3) := by decide +kernel
theorem dX12_valueNow_18 : decode cX12_valueNow 18 = .ok (.iload_n 2, 1) := by decide +kernel
theorem dX12_valueNow_19 : decode cX12_valueNow 19 = .ok (.iaload, 1) := by decide +kernel
theorem dX12_valueNow_20 : decode cX12_valueNow 20 = .ok (.istore_n 3, 1) := by decide +kernel
theorem dX12_valueNow_21 : decode cX12_valueNow 21 = .ok (.iload_n 3, 1) := by decide +kernel
theorem dX12_valueNow_22 : decode cX12_valueNow 22 = .ok (.bipush (-20), 2) := by decide +kernel
theorem dX12_valueNow_24 : decode cX12_valueNow 24 = .ok (.if_icmp .le 31, 3) := by decide +kernel
theorem dX12_valueNow_27 : decode cX12_valueNow 27 = .ok (.aload_n 0, 1) := by decide +kernel
theorem dX12_valueNow_28 : decode cX12_valueNow 28 = .ok (.getfield 96, 3) := by decide +kernel
theorem dX12_valueNow_31 : decode cX12_valueNow 31 = .ok (.iload_n 1, 1) := by decide +kernel
theorem dX12_valueNow_32 : decode cX12_valueNow 32 = .ok (.iload_n 3, 1) := by decide +kernel
theorem dX12_valueNow_33 : decode cX12_valueNow 33 = .ok (.ifCond .lt 7, 3) := by decide +kernel
theorem dX12_valueNow_36 : decode cX12_valueNow 36 = .ok (.iload_n 3, 1) := by decide +kernel
theorem dX12_valueNow_37 : decode cX12_valueNow 37 = .ok (.goto 11, 3) := by decide +kernel
theorem dX12_valueNow_40 : decode cX12_valueNow 40 = .ok (.aload_n 0, 1) := by decide +kernel
theorem dX12_valueNow_41 : decode cX12_valueNow 41 = .ok (.getfield 93, 3) := by decide +kernel
theorem dX12_valueNow_44 : decode cX12_valueNow 44 = .ok (.iconst (-1), 1) := by decide +kernel
theorem dX12_valueNow_45 : decode cX12_valueNow 45 = .ok (.iload_n 3, 1) := by decide +kernel
theorem dX12_valueNow_46 : decode cX12_valueNow 46 = .ok (.isub, 1) := by decide +kernel
theorem dX12_valueNow_47 : decode cX12_valueNow 47 = .ok (.iaload, 1) := by decide +kernel
theorem dX12_valueNow_48 : decode cX12_valueNow 48 = .ok (.iastore, 1) := by decide +kernel
theorem dX12_valueNow_49 : decode cX12_valueNow 49 = .ok (.iinc 1 1, 3) := by decide +kernel
theorem dX12_valueNow_52 : decode cX12_valueNow 52 = .ok (.goto 65, 3) := by decide +kernel
theorem dX12_valueNow_55 : decode cX12_valueNow 55 = .ok (.iload_n 3, 1) := by decide +kernel
theorem dX12_valueNow_56 : decode cX12_valueNow 56 = .ok (.bipush (-28), 2) := by decide +kernel
theorem dX12_valueNow_58 : decode cX12_valueNow 58 = .ok (.if_icmp .ne 30, 3) := by decide +kernel
theorem dX12_valueNow_61 : decode cX12_valueNow 61 = .ok (.aload_n 0, 1) := by decide +kernel
theorem dX12_valueNow_62 : decode cX12_valueNow 62 = .ok (.getfield 96, 3) := by decide +kernel
theorem dX12_valueNow_65 : decode cX12_valueNow 65 = .ok (.iload_n 1, 1) := by decide +kernel
theorem dX12_valueNow_66 : decode cX12_valueNow 66 = .ok (.iconst 1, 1) := by decide +kernel
theorem dX12_valueNow_67 : decode cX12_valueNow 67 = .ok (.isub, 1) := by decide +kernel
theorem dX12_valueNow_68 : decode cX12_valueNow 68 = .ok (.aload_n 0, 1) := by decide +kernel
theorem dX12_valueNow_69 : decode cX12_valueNow 69 = .ok (.getfield 96, 3) := by decide +kernel
theorem dX12_valueNow_72 : decode cX12_valueNow 72 = .ok (.iload_n 1, 1) := by decide +kernel
theorem dX12_valueNow_73 : decode cX12_valueNow 73 = .ok (.iconst 1, 1) := by decide +kernel
theorem dX12_valueNow_74 : decode cX12_valueNow 74 = .ok (.isub, 1) := by decide +kernel
theorem dX12_valueNow_75 : decode cX12_valueNow 75 = .ok (.iaload, 1) := by decide +kernel
theorem dX12_valueNow_76 : decode cX12_valueNow 76 = .ok (.ifCond .eq 7, 3) := by decide +kernel
theorem dX12_valueNow_79 : decode cX12_valueNow 79 = .ok (.iconst 0, 1) := by decide +kernel
theorem dX12_valueNow_80 : decode cX12_valueNow 80 = .ok (.goto 4, 3) := by decide +kernel
theorem dX12_valueNow_83 : decode cX12_valueNow 83 = .ok (.iconst 1, 1) := by decide +kernel
theorem dX12_valueNow_84 : decode cX12_valueNow 84 = .ok (.iastore, 1) := by decide +kernel
theorem dX12_valueNow_85 : decode cX12_valueNow 85 = .ok (.goto 32, 3) := by decide +kernel
theorem dX12_valueNow_88 : decode cX12_valueNow 88 = .ok (.iinc 1 (-1), 3) := by decide +kernel
theorem dX12_valueNow_91 : decode cX12_valueNow 91 = .ok (.aload_n 0, 1) := by decide +kernel
theorem dX12_valueNow_92 : decode cX12_valueNow 92 = .ok (.getfield 96, 3) := by decide +kernel
theorem dX12_valueNow_95 : decode cX12_valueNow 95 = .ok (.iload_n 1, 1) := by decide +kernel
theorem dX12_valueNow_96 : decode cX12_valueNow 96 = .ok (.iconst 1, 1) := by decide +kernel
theorem dX12_valueNow_97 : decode cX12_valueNow 97 = .ok (.isub, 1) := by decide +kernel
theorem dX12_valueNow_98 : decode cX12_valueNow 98 = .ok (.iload_n 3, 1) := by decide +kernel
theorem dX12_valueNow_99 : decode cX12_valueNow 99 = .ok (.aload_n 0, 1) := by decide +kernel
theorem dX12_valueNow_100 : decode cX12_valueNow 100 = .ok (.getfield 96, 3) := by decide +kernel
theorem dX12_valueNow_103 : decode cX12_valueNow 103 = .ok (.iload_n 1, 1) := by decide +kernel
theorem dX12_valueNow_104 : decode cX12_valueNow 104 = .ok (.iconst 1, 1) := by decide +kernel
theorem dX12_valueNow_105 : decode cX12_valueNow 105 = .ok (.isub, 1) := by decide +kernel
theorem dX12_valueNow_106 : decode cX12_valueNow 106 = .ok (.iaload, 1) := by decide +kernel
theorem dX12_valueNow_107 : decode cX12_valueNow 107 = .ok (.aload_n 0, 1) := by decide +kernel
theorem dX12_valueNow_108 : decode cX12_valueNow 108 = .ok (.getfield 96, 3) := by decide +kernel
theorem dX12_valueNow_111 : decode cX12_valueNow 111 = .ok (.iload_n 1, 1) := by decide +kernel
theorem dX12_valueNow_112 : decode cX12_valueNow 112 = .ok (.iaload, 1) := by decide +kernel
theorem dX12_valueNow_113 : decode cX12_valueNow 113 = .ok (.invokestatic 326, 3) := by decide +kernel
theorem dX12_valueNow_116 : decode cX12_valueNow 116 = .ok (.iastore, 1) := by decide +kernel
theorem dX12_valueNow_117 : decode cX12_valueNow 117 = .ok (.iinc 2 1, 3) := by decide +kernel
theorem dX12_valueNow_120 : decode cX12_valueNow 120 = .ok (.goto (-116), 3) := by decide +kernel
theorem dX12_valueNow_123 : decode cX12_valueNow 123 = .ok (.aload_n 0, 1) := by decide +kernel
theorem dX12_valueNow_124 : decode cX12_valueNow 124 = .ok (.getfield 96, 3) := by decide +kernel
theorem dX12_valueNow_127 : decode cX12_valueNow 127 = .ok (.iconst 0, 1) := by decide +kernel
theorem dX12_valueNow_128 : decode cX12_valueNow 128 = .ok (.iaload, 1) := by decide +kernel
theorem dX12_valueNow_129 : decode cX12_valueNow 129 = .ok (.ireturn, 1) := by decide +kernel
theorem dX12_wants_0 : decode cX12_wants 0 = .ok (.aload_n 0, 1) := by decide +kernel
theorem dX12_wants_1 : decode cX12_wants 1 = .ok (.getfield 36, 3) := by decide +kernel
theorem dX12_wants_4 : decode cX12_wants 4 = .ok (.iconst 3, 1) := by decide +kernel
theorem dX12_wants_5 : decode cX12_wants 5 = .ok (.iaload, 1) := by decide +kernel
theorem dX12_wants_6 : decode cX12_wants 6 = .ok (.ifCond .ne 20, 3) := by decide +kernel
theorem dX12_wants_9 : decode cX12_wants 9 = .ok (.aload_n 0, 1) := by decide +kernel
theorem dX12_wants_10 : decode cX12_wants 10 = .ok (.getfield 86, 3) := by decide +kernel
theorem dX12_wants_13 : decode cX12_wants 13 = .ok (.iload_n 1, 1) := by decide +kernel
theorem dX12_wants_14 : decode cX12_wants 14 = .ok (.iaload, 1) := by decide +kernel
theorem dX12_wants_15 : decode cX12_wants 15 = .ok (.bipush 10, 2) := by decide +kernel
theorem dX12_wants_17 : decode cX12_wants 17 = .ok (.if_icmp .lt 7, 3) := by decide +kernel
theorem dX12_wants_20 : decode cX12_wants 20 = .ok (.iconst 1, 1) := by decide +kernel
theorem dX12_wants_21 : decode cX12_wants 21 = .ok (.goto 4, 3) := by decide +kernel
theorem dX12_wants_24 : decode cX12_wants 24 = .ok (.iconst 0, 1) := by decide +kernel
theorem dX12_wants_25 : decode cX12_wants 25 = .ok (.ireturn, 1) := by decide +kernel
theorem dX12_wants_26 : decode cX12_wants 26 = .ok (.aload_n 0, 1) := by decide +kernel
theorem dX12_wants_27 : decode cX12_wants 27 = .ok (.getfield 93, 3) := by decide +kernel
theorem dX12_wants_30 : decode cX12_wants 30 = .ok (.iconst 0, 1) := by decide +kernel
theorem dX12_wants_31 : decode cX12_wants 31 = .ok (.aload_n 0, 1) := by decide +kernel
theorem dX12_wants_32 : decode cX12_wants 32 = .ok (.getfield 86, 3) := by decide +kernel
theorem dX12_wants_35 : decode cX12_wants 35 = .ok (.iload_n 1, 1) := by decide +kernel
theorem dX12_wants_36 : decode cX12_wants 36 = .ok (.iaload, 1) := by decide +kernel
theorem dX12_wants_37 : decode cX12_wants 37 = .ok (.iastore, 1) := by decide +kernel
theorem dX12_wants_38 : decode cX12_wants 38 = .ok (.aload_n 0, 1) := by decide +kernel
theorem dX12_wants_39 : decode cX12_wants 39 = .ok (.getfield 93, 3) := by decide +kernel
theorem dX12_wants_42 : decode cX12_wants 42 = .ok (.iconst 1, 1) := by decide +kernel
theorem dX12_wants_43 : decode cX12_wants 43 = .ok (.aload_n 0, 1) := by decide +kernel
theorem dX12_wants_44 : decode cX12_wants 44 = .ok (.aload_n 0, 1) := by decide +kernel
theorem dX12_wants_45 : decode cX12_wants 45 = .ok (.getfield 80, 3) := by decide +kernel
theorem dX12_wants_48 : decode cX12_wants 48 = .ok (.iload_n 1, 1) := by decide +kernel
theorem dX12_wants_49 : decode cX12_wants 49 = .ok (.iaload, 1) := by decide +kernel
theorem dX12_wants_50 : decode cX12_wants 50 = .ok (.invokevirtual 330, 3) := by decide +kernel
theorem dX12_wants_53 : decode cX12_wants 53 = .ok (.iastore, 1) := by decide +kernel
theorem dX12_wants_54 : decode cX12_wants 54 = .ok (.aload_n 0, 1) := by decide +kernel
theorem dX12_wants_55 : decode cX12_wants 55 = .ok (.getfield 93, 3) := by decide +kernel
theorem dX12_wants_58 : decode cX12_wants 58 = .ok (.iconst 2, 1) := by decide +kernel
theorem dX12_wants_59 : decode cX12_wants 59 = .ok (.aload_n 0, 1) := by decide +kernel
theorem dX12_wants_60 : decode cX12_wants 60 = .ok (.aload_n 0, 1) := by decide +kernel
theorem dX12_wants_61 : decode cX12_wants 61 = .ok (.iload_n 1, 1) := by decide +kernel
theorem dX12_wants_62 : decode cX12_wants 62 = .ok (.invokevirtual 333, 3) := by decide +kernel
theorem dX12_wants_65 : decode cX12_wants 65 = .ok (.invokevirtual 330, 3) := by decide +kernel
theorem dX12_wants_68 : decode cX12_wants 68 = .ok (.iastore, 1) := by decide +kernel
theorem dX12_wants_69 : decode cX12_wants 69 = .ok (.aload_n 0, 1) := by decide +kernel
theorem dX12_wants_70 : decode cX12_wants 70 = .ok (.getfield 93, 3) := by decide +kernel
theorem dX12_wants_73 : decode cX12_wants 73 = .ok (.iconst 3, 1) := by decide +kernel
theorem dX12_wants_74 : decode cX12_wants 74 = .ok (.aload_n 0, 1) := by decide +kernel
theorem dX12_wants_75 : decode cX12_wants 75 = .ok (.aload_n 0, 1) := by decide +kernel
theorem dX12_wants_76 : decode cX12_wants 76 = .ok (.iload_n 1, 1) := by decide +kernel
theorem dX12_wants_77 : decode cX12_wants 77 = .ok (.invokevirtual 336, 3) := by decide +kernel
theorem dX12_wants_80 : decode cX12_wants 80 = .ok (.invokevirtual 330, 3) := by decide +kernel
theorem dX12_wants_83 : decode cX12_wants 83 = .ok (.iastore, 1) := by decide +kernel
theorem dX12_wants_84 : decode cX12_wants 84 = .ok (.aload_n 0, 1) := by decide +kernel
theorem dX12_wants_85 : decode cX12_wants 85 = .ok (.getfield 93, 3) := by decide +kernel
theorem dX12_wants_88 : decode cX12_wants 88 = .ok (.iconst 4, 1) := by decide +kernel
theorem dX12_wants_89 : decode cX12_wants 89 = .ok (.aload_n 0, 1) := by decide +kernel
theorem dX12_wants_90 : decode cX12_wants 90 = .ok (.getfield 300, 3) := by decide +kernel
theorem dX12_wants_93 : decode cX12_wants 93 = .ok (.iastore, 1) := by decide +kernel
theorem dX12_wants_94 : decode cX12_wants 94 = .ok (.aload_n 0, 1) := by decide +kernel
theorem dX12_wants_95 : decode cX12_wants 95 = .ok (.getfield 93, 3) := by decide +kernel
theorem dX12_wants_98 : decode cX12_wants 98 = .ok (.iconst 5, 1) := by decide +kernel
theorem dX12_wants_99 : decode cX12_wants 99 = .ok (.aload_n 0, 1) := by decide +kernel
theorem dX12_wants_100 : decode cX12_wants 100 = .ok (.getfield 88, 3) := by decide +kernel
theorem dX12_wants_103 : decode cX12_wants 103 = .ok (.iload_n 1, 1) := by decide +kernel
theorem dX12_wants_104 : decode cX12_wants 104 = .ok (.iaload, 1) := by decide +kernel
theorem dX12_wants_105 : decode cX12_wants 105 = .ok (.iastore, 1) := by decide +kernel
theorem dX12_wants_106 : decode cX12_wants 106 = .ok (.aload_n 0, 1) := by decide +kernel
theorem dX12_wants_107 : decode cX12_wants 107 = .ok (.getfield 93, 3) := by decide +kernel
theorem dX12_wants_110 : decode cX12_wants 110 = .ok (.bipush 6, 2) := by decide +kernel
theorem dX12_wants_112 : decode cX12_wants 112 = .ok (.aload_n 0, 1) := by decide +kernel
theorem dX12_wants_113 : decode cX12_wants 113 = .ok (.getfield 302, 3) := by decide +kernel
theorem dX12_wants_116 : decode cX12_wants 116 = .ok (.iload_n 1, 1) := by decide +kernel
theorem dX12_wants_117 : decode cX12_wants 117 = .ok (.ishr, 1) := by decide +kernel
theorem dX12_wants_118 : decode cX12_wants 118 = .ok (.iconst 1, 1) := by decide +kernel
theorem dX12_wants_119 : decode cX12_wants 119 = .ok (.iand, 1) := by decide +kernel
theorem dX12_wants_120 : decode cX12_wants 120 = .ok (.iastore, 1) := by decide +kernel
theorem dX12_wants_121 : decode cX12_wants 121 = .ok (.aload_n 0, 1) := by decide +kernel
theorem dX12_wants_122 : decode cX12_wants 122 = .ok (.invokevirtual 339, 3) := by decide +kernel
theorem dX12_wants_125 : decode cX12_wants 125 = .ok (.ifCond .le 7, 3) := by decide +kernel
theorem dX12_wants_128 : decode cX12_wants 128 = .ok (.iconst 1, 1) := by decide +kernel
theorem dX12_wants_129 : decode cX12_wants 129 = .ok (.goto 4, 3) := by decide +kernel
theorem dX12_wants_132 : decode cX12_wants 132 = .ok (.iconst 0, 1) := by decide +kernel
theorem dX12_wants_133 : decode cX12_wants 133 = .ok (.ireturn, 1) := by decide +kernel
theorem dX12_wanting_0 : decode cX12_wanting 0 = .ok (.iconst 0, 1) := by decide +kernel
theorem dX12_wanting_1 : decode cX12_wanting 1 = .ok (.istore_n 1, 1) := by decide +kernel
theorem dX12_wanting_2 : decode cX12_wanting 2 = .ok (.iconst 0, 1) := by decide +kernel
theorem dX12_wanting_3 : decode cX12_wanting 3 = .ok (.istore_n 2, 1) := by decide +kernel
theorem dX12_wanting_4 : decode cX12_wanting 4 = .ok (.iload_n 2, 1) := by decide +kernel
theorem dX12_wanting_5 : decode cX12_wanting 5 = .ok (.aload_n 0, 1) := by decide +kernel
theorem dX12_wanting_6 : decode cX12_wanting 6 = .ok (.getfield 36, 3) := by decide +kernel
theorem dX12_wanting_9 : decode cX12_wanting 9 = .ok (.iconst 0, 1) := by decide +kernel
theorem dX12_wanting_10 : decode cX12_wanting 10 = .ok (.iaload, 1) := by decide +kernel
theorem dX12_wanting_11 : decode cX12_wanting 11 = .ok (.if_icmp .ge 27, 3) := by decide +kernel
theorem dX12_wanting_14 : decode cX12_wanting 14 = .ok (.iload_n 1, 1) := by decide +kernel
theorem dX12_wanting_15 : decode cX12_wanting 15 = .ok (.aload_n 0, 1) := by decide +kernel
theorem dX12_wanting_16 : decode cX12_wanting 16 = .ok (.iload_n 2, 1) := by decide +kernel
theorem dX12_wanting_17 : decode cX12_wanting 17 = .ok (.invokevirtual 342, 3) := by decide +kernel
theorem dX12_wanting_20 : decode cX12_wanting 20 = .ok (.ifCond .eq 9, 3) := by decide +kernel
theorem dX12_wanting_23 : decode cX12_wanting 23 = .ok (.iconst 1, 1) := by decide +kernel
theorem dX12_wanting_24 : decode cX12_wanting 24 = .ok (.iload_n 2, 1) := by decide +kernel
theorem dX12_wanting_25 : decode cX12_wanting 25 = .ok (.ishl, 1) := by decide +kernel
theorem dX12_wanting_26 : decode cX12_wanting 26 = .ok (.goto 4, 3) := by decide +kernel
theorem dX12_wanting_29 : decode cX12_wanting 29 = .ok (.iconst 0, 1) := by decide +kernel
theorem dX12_wanting_30 : decode cX12_wanting 30 = .ok (.ior, 1) := by decide +kernel
theorem dX12_wanting_31 : decode cX12_wanting 31 = .ok (.istore_n 1, 1) := by decide +kernel
theorem dX12_wanting_32 : decode cX12_wanting 32 = .ok (.iinc 2 1, 3) := by decide +kernel
theorem dX12_wanting_35 : decode cX12_wanting 35 = .ok (.goto (-31), 3) := by decide +kernel
theorem dX12_wanting_38 : decode cX12_wanting 38 = .ok (.iload_n 1, 1) := by decide +kernel
theorem dX12_wanting_39 : decode cX12_wanting 39 = .ok (.ireturn, 1) := by decide +kernel
theorem dX12_longingMost_0 : decode cX12_longingMost 0 = .ok (.iconst (-1), 1) := by decide +kernel
theorem dX12_longingMost_1 : decode cX12_longingMost 1 = .ok (.istore_n 2, 1) := by decide +kernel
theorem dX12_longingMost_2 : decode cX12_longingMost 2 = .ok (.iconst 0, 1) := by decide +kernel
theorem dX12_longingMost_3 : decode cX12_longingMost 3 = .ok (.istore_n 3, 1) := by decide +kernel
theorem dX12_longingMost_4 : decode cX12_longingMost 4 = .ok (.iload_n 3, 1) := by decide +kernel
theorem dX12_longingMost_5 : decode cX12_longingMost 5 = .ok (.aload_n 0, 1) := by decide +kernel
theorem dX12_longingMost_6 : decode cX12_longingMost 6 = .ok (.getfield 36, 3) := by decide +kernel
theorem dX12_longingMost_9 : decode cX12_longingMost 9 = .ok (.iconst 0, 1) := by decide +kernel
theorem dX12_longingMost_10 : decode cX12_longingMost 10 = .ok (.iaload, 1) := by decide +kernel
theorem dX12_longingMost_11 : decode cX12_longingMost 11 = .ok (.if_icmp .ge 39, 3) := by decide +kernel
theorem dX12_longingMost_14 : decode cX12_longingMost 14 = .ok (.iload_n 1, 1) := by decide +kernel
theorem dX12_longingMost_15 : decode cX12_longingMost 15 = .ok (.iload_n 3, 1) := by decide +kernel
theorem dX12_longingMost_16 : decode cX12_longingMost 16 = .ok (.invokestatic 263, 3) := by decide +kernel
theorem dX12_longingMost_19 : decode cX12_longingMost 19 = .ok (.ifCond .eq 25, 3) := by decide +kernel
theorem dX12_longingMost_22 : decode cX12_longingMost 22 = .ok (.iload_n 2, 1) := by decide +kernel
theorem dX12_longingMost_23 : decode cX12_longingMost 23 = .ok (.iconst (-1), 1) := by decide +kernel
theorem dX12_longingMost_24 : decode cX12_longingMost 24 = .ok (.if_icmp .eq 18, 3) := by decide +kernel
theorem dX12_longingMost_27 : decode cX12_longingMost 27 = .ok (.aload_n 0, 1) := by decide +kernel
theorem dX12_longingMost_28 : decode cX12_longingMost 28 = .ok (.getfield 86, 3) := by decide +kernel
theorem dX12_longingMost_31 : decode cX12_longingMost 31 = .ok (.iload_n 3, 1) := by decide +kernel
theorem dX12_longingMost_32 : decode cX12_longingMost 32 = .ok (.iaload, 1) := by decide +kernel
theorem dX12_longingMost_33 : decode cX12_longingMost 33 = .ok (.aload_n 0, 1) := by decide +kernel
theorem dX12_longingMost_34 : decode cX12_longingMost 34 = .ok (.getfield 86, 3) := by decide +kernel
theorem dX12_longingMost_37 : decode cX12_longingMost 37 = .ok (.iload_n 2, 1) := by decide +kernel
theorem dX12_longingMost_38 : decode cX12_longingMost 38 = .ok (.iaload, 1) := by decide +kernel
theorem dX12_longingMost_39 : decode cX12_longingMost 39 = .ok (.if_icmp .le 5, 3) := by decide +kernel
theorem dX12_longingMost_42 : decode cX12_longingMost 42 = .ok (.iload_n 3, 1) := by decide +kernel
theorem dX12_longingMost_43 : decode cX12_longingMost 43 = .ok (.istore_n 2, 1) := by decide +kernel
theorem dX12_longingMost_44 : decode cX12_longingMost 44 = .ok (.iinc 3 1, 3) := by decide +kernel
theorem dX12_longingMost_47 : decode cX12_longingMost 47 = .ok (.goto (-43), 3) := by decide +kernel
theorem dX12_longingMost_50 : decode cX12_longingMost 50 = .ok (.iload_n 2, 1) := by decide +kernel
theorem dX12_longingMost_51 : decode cX12_longingMost 51 = .ok (.ireturn, 1) := by decide +kernel
theorem dX12_aSunday_0 : decode cX12_aSunday 0 = .ok (.aload_n 0, 1) := by decide +kernel
theorem dX12_aSunday_1 : decode cX12_aSunday 1 = .ok (.aload_n 0, 1) := by decide +kernel
theorem dX12_aSunday_2 : decode cX12_aSunday 2 = .ok (.invokevirtual 345, 3) := by decide +kernel
theorem dX12_aSunday_5 : decode cX12_aSunday 5 = .ok (.putfield 348, 3) := by decide +kernel
theorem dX12_aSunday_8 : decode cX12_aSunday 8 = .ok (.iconst 0, 1) := by decide +kernel
theorem dX12_aSunday_9 : decode cX12_aSunday 9 = .ok (.istore_n 1, 1) := by decide +kernel
theorem dX12_aSunday_10 : decode cX12_aSunday 10 = .ok (.iconst 0, 1) := by decide +kernel
theorem dX12_aSunday_11 : decode cX12_aSunday 11 = .ok (.istore_n 2, 1) := by decide +kernel
theorem dX12_aSunday_12 : decode cX12_aSunday 12 = .ok (.iload_n 2, 1) := by decide +kernel
theorem dX12_aSunday_13 : decode cX12_aSunday 13 = .ok (.aload_n 0, 1) := by decide +kernel
theorem dX12_aSunday_14 : decode cX12_aSunday 14 = .ok (.getfield 136, 3) := by decide +kernel
theorem dX12_aSunday_17 : decode cX12_aSunday 17 = .ok (.if_icmp .ge 34, 3) := by decide +kernel
theorem dX12_aSunday_20 : decode cX12_aSunday 20 = .ok (.iload_n 1, 1) := by decide +kernel
theorem dX12_aSunday_21 : decode cX12_aSunday 21 = .ok (.aload_n 0, 1) := by decide +kernel
theorem dX12_aSunday_22 : decode cX12_aSunday 22 = .ok (.getfield 348, 3) := by decide +kernel
theorem dX12_aSunday_25 : decode cX12_aSunday 25 = .ok (.if_icmp .eq 26, 3) := by decide +kernel
theorem dX12_aSunday_28 : decode cX12_aSunday 28 = .ok (.iload_n 1, 1) := by decide +kernel
theorem dX12_aSunday_29 : decode cX12_aSunday 29 = .ok (.iconst 1, 1) := by decide +kernel
theorem dX12_aSunday_30 : decode cX12_aSunday 30 = .ok (.aload_n 0, 1) := by decide +kernel
theorem dX12_aSunday_31 : decode cX12_aSunday 31 = .ok (.aload_n 0, 1) := by decide +kernel
theorem dX12_aSunday_32 : decode cX12_aSunday 32 = .ok (.getfield 348, 3) := by decide +kernel
theorem dX12_aSunday_35 : decode cX12_aSunday 35 = .ok (.iload_n 1, 1) := by decide +kernel
theorem dX12_aSunday_36 : decode cX12_aSunday 36 = .ok (.iconst (-1), 1) := by decide +kernel
theorem dX12_aSunday_37 : decode cX12_aSunday 37 = .ok (.ixor, 1) := by decide +kernel
theorem dX12_aSunday_38 : decode cX12_aSunday 38 = .ok (.iand, 1) := by decide +kernel
theorem dX12_aSunday_39 : decode cX12_aSunday 39 = .ok (.invokevirtual 351, 3) := by decide +kernel
theorem dX12_aSunday_42 : decode cX12_aSunday 42 = .ok (.ishl, 1) := by decide +kernel
theorem dX12_aSunday_43 : decode cX12_aSunday 43 = .ok (.ior, 1) := by decide +kernel
theorem dX12_aSunday_44 : decode cX12_aSunday 44 = .ok (.istore_n 1, 1) := by decide +kernel
theorem dX12_aSunday_45 : decode cX12_aSunday 45 = .ok (.iinc 2 1, 3) := by decide +kernel
theorem dX12_aSunday_48 : decode cX12_aSunday 48 = .ok (.goto (-36), 3) := by decide +kernel
theorem dX12_aSunday_51 : decode cX12_aSunday 51 = .ok (.iconst 0, 1) := by decide +kernel
theorem dX12_aSunday_52 : decode cX12_aSunday 52 = .ok (.istore_n 2, 1) := by decide +kernel
theorem dX12_aSunday_53 : decode cX12_aSunday 53 = .ok (.iload_n 2, 1) := by decide +kernel
theorem dX12_aSunday_54 : decode cX12_aSunday 54 = .ok (.aload_n 0, 1) := by decide +kernel
theorem dX12_aSunday_55 : decode cX12_aSunday 55 = .ok (.getfield 36, 3) := by decide +kernel
theorem dX12_aSunday_58 : decode cX12_aSunday 58 = .ok (.iconst 0, 1) := by decide +kernel
theorem dX12_aSunday_59 : decode cX12_aSunday 59 = .ok (.iaload, 1) := by decide +kernel
theorem dX12_aSunday_60 : decode cX12_aSunday 60 = .ok (.if_icmp .ge 137, 3) := by decide +kernel
theorem dX12_aSunday_63 : decode cX12_aSunday 63 = .ok (.aload_n 0, 1) := by decide +kernel
theorem dX12_aSunday_64 : decode cX12_aSunday 64 = .ok (.iload_n 2, 1) := by decide +kernel
theorem dX12_aSunday_65 : decode cX12_aSunday 65 = .ok (.invokevirtual 333, 3) := by decide +kernel
theorem dX12_aSunday_68 : decode cX12_aSunday 68 = .ok (.istore_n 3, 1) := by decide +kernel
theorem dX12_aSunday_69 : decode cX12_aSunday 69 = .ok (.iload_n 3, 1) := by decide +kernel
theorem dX12_aSunday_70 : decode cX12_aSunday 70 = .ok (.aload_n 0, 1) := by decide +kernel
theorem dX12_aSunday_71 : decode cX12_aSunday 71 = .ok (.getfield 80, 3) := by decide +kernel
theorem dX12_aSunday_74 : decode cX12_aSunday 74 = .ok (.iload_n 2, 1) := by decide +kernel
theorem dX12_aSunday_75 : decode cX12_aSunday 75 = .ok (.iaload, 1) := by decide +kernel
theorem dX12_aSunday_76 : decode cX12_aSunday 76 = .ok (.iconst (-1), 1) := by decide +kernel
theorem dX12_aSunday_77 : decode cX12_aSunday 77 = .ok (.ixor, 1) := by decide +kernel
theorem dX12_aSunday_78 : decode cX12_aSunday 78 = .ok (.iand, 1) := by decide +kernel
theorem dX12_aSunday_79 : decode cX12_aSunday 79 = .ok (.istore 4, 2) := by decide +kernel
theorem dX12_aSunday_81 : decode cX12_aSunday 81 = .ok (.iload_n 1, 1) := by decide +kernel
theorem dX12_aSunday_82 : decode cX12_aSunday 82 = .ok (.iload_n 2, 1) := by decide +kernel
theorem dX12_aSunday_83 : decode cX12_aSunday 83 = .ok (.invokestatic 263, 3) := by decide +kernel
theorem dX12_aSunday_86 : decode cX12_aSunday 86 = .ok (.ifCond .eq 80, 3) := by decide +kernel
theorem dX12_aSunday_89 : decode cX12_aSunday 89 = .ok (.aload_n 0, 1) := by decide +kernel
theorem dX12_aSunday_90 : decode cX12_aSunday 90 = .ok (.iload_n 3, 1) := by decide +kernel
theorem dX12_aSunday_91 : decode cX12_aSunday 91 = .ok (.invokevirtual 330, 3) := by decide +kernel
theorem dX12_aSunday_94 : decode cX12_aSunday 94 = .ok (.aload_n 0, 1) := by decide +kernel
theorem dX12_aSunday_95 : decode cX12_aSunday 95 = .ok (.aload_n 0, 1) := by decide +kernel
theorem dX12_aSunday_96 : decode cX12_aSunday 96 = .ok (.getfield 80, 3) := by decide +kernel
theorem dX12_aSunday_99 : decode cX12_aSunday 99 = .ok (.iload_n 2, 1) := by decide +kernel
theorem dX12_aSunday_100 : decode cX12_aSunday 100 = .ok (.iaload, 1) := by decide +kernel
theorem dX12_aSunday_101 : decode cX12_aSunday 101 = .ok (.invokevirtual 330, 3) := by decide +kernel
theorem dX12_aSunday_104 : decode cX12_aSunday 104 = .ok (.isub, 1) := by decide +kernel
theorem dX12_aSunday_105 : decode cX12_aSunday 105 = .ok (.istore 5, 2) := by decide +kernel
theorem dX12_aSunday_107 : decode cX12_aSunday 107 = .ok (.aload_n 0, 1) := by decide +kernel
theorem dX12_aSunday_108 : decode cX12_aSunday 108 = .ok (.getfield 86, 3) := by decide +kernel
theorem dX12_aSunday_111 : decode cX12_aSunday 111 = .ok (.iload_n 2, 1) := by decide +kernel
theorem dX12_aSunday_112 : decode cX12_aSunday 112 = .ok (.iconst 0, 1) := by decide +kernel
theorem dX12_aSunday_113 : decode cX12_aSunday 113 = .ok (.aload_n 0, 1) := by decide +kernel
theorem dX12_aSunday_114 : decode cX12_aSunday 114 = .ok (.getfield 86, 3) := by decide +kernel
theorem dX12_aSunday_117 : decode cX12_aSunday 117 = .ok (.iload_n 2, 1) := by decide +kernel
theorem dX12_aSunday_118 : decode cX12_aSunday 118 = .ok (.iaload, 1) := by decide +kernel
theorem dX12_aSunday_119 : decode cX12_aSunday 119 = .ok (.iconst 0, 1) := by decide +kernel
theorem dX12_aSunday_120 : decode cX12_aSunday 120 = .ok (.iload 5, 2) := by decide +kernel
theorem dX12_aSunday_122 : decode cX12_aSunday 122 = .ok (.invokestatic 354, 3) := by decide +kernel
theorem dX12_aSunday_125 : decode cX12_aSunday 125 = .ok (.isub, 1) := by decide +kernel
theorem dX12_aSunday_126 : decode cX12_aSunday 126 = .ok (.invokestatic 354, 3) := by decide +kernel
theorem dX12_aSunday_129 : decode cX12_aSunday 129 = .ok (.iastore, 1) := by decide +kernel
theorem dX12_aSunday_130 : decode cX12_aSunday 130 = .ok (.aload_n 0, 1) := by decide +kernel
theorem dX12_aSunday_131 : decode cX12_aSunday 131 = .ok (.getfield 88, 3) := by decide +kernel
theorem dX12_aSunday_134 : decode cX12_aSunday 134 = .ok (.iload_n 2, 1) := by decide +kernel
theorem dX12_aSunday_135 : decode cX12_aSunday 135 = .ok (.iload 4, 2) := by decide +kernel
theorem dX12_aSunday_137 : decode cX12_aSunday 137 = .ok (.ifCond .ne 12, 3) := by decide +kernel
theorem dX12_aSunday_140 : decode cX12_aSunday 140 = .ok (.aload_n 0, 1) := by decide +kernel
theorem dX12_aSunday_141 : decode cX12_aSunday 141 = .ok (.getfield 88, 3) := by decide +kernel
theorem dX12_aSunday_144 : decode cX12_aSunday 144 = .ok (.iload_n 2, 1) := by decide +kernel
theorem dX12_aSunday_145 : decode cX12_aSunday 145 = .ok (.iaload, 1) := by decide +kernel
theorem dX12_aSunday_146 : decode cX12_aSunday 146 = .ok (.goto 16, 3) := by decide +kernel
theorem dX12_aSunday_149 : decode cX12_aSunday 149 = .ok (.bipush 99, 2) := by decide +kernel
theorem dX12_aSunday_151 : decode cX12_aSunday 151 = .ok (.aload_n 0, 1) := by decide +kernel
theorem dX12_aSunday_152 : decode cX12_aSunday 152 = .ok (.getfield 88, 3) := by decide +kernel
theorem dX12_aSunday_155 : decode cX12_aSunday 155 = .ok (.iload_n 2, 1) := by decide +kernel
theorem dX12_aSunday_156 : decode cX12_aSunday 156 = .ok (.iaload, 1) := by decide +kernel
theorem dX12_aSunday_157 : decode cX12_aSunday 157 = .ok (.iconst 1, 1) := by decide +kernel
theorem dX12_aSunday_158 : decode cX12_aSunday 158 = .ok (.iadd, 1) := by decide +kernel
theorem dX12_aSunday_159 : decode cX12_aSunday 159 = .ok (.invokestatic 180, 3) := by decide +kernel
theorem dX12_aSunday_162 : decode cX12_aSunday 162 = .ok (.iastore, 1) := by decide +kernel
theorem dX12_aSunday_163 : decode cX12_aSunday 163 = .ok (.goto 28, 3) := by decide +kernel
theorem dX12_aSunday_166 : decode cX12_aSunday 166 = .ok (.aload_n 0, 1) := by decide +kernel
theorem dX12_aSunday_167 : decode cX12_aSunday 167 = .ok (.getfield 86, 3) := by decide +kernel
theorem dX12_aSunday_170 : decode cX12_aSunday 170 = .ok (.iload_n 2, 1) := by decide +kernel
theorem dX12_aSunday_171 : decode cX12_aSunday 171 = .ok (.bipush 99, 2) := by decide +kernel
theorem dX12_aSunday_173 : decode cX12_aSunday 173 = .ok (.aload_n 0, 1) := by decide +kernel
theorem dX12_aSunday_174 : decode cX12_aSunday 174 = .ok (.getfield 86, 3) := by decide +kernel
theorem dX12_aSunday_177 : decode cX12_aSunday 177 = .ok (.iload_n 2, 1) := by decide +kernel
theorem dX12_aSunday_178 : decode cX12_aSunday 178 = .ok (.iaload, 1) := by decide +kernel
theorem dX12_aSunday_179 : decode cX12_aSunday 179 = .ok (.iload 4, 2) := by decide +kernel
theorem dX12_aSunday_181 : decode cX12_aSunday 181 = .ok (.invokestatic 357, 3) := by decide +kernel
theorem dX12_aSunday_184 : decode cX12_aSunday 184 = .ok (.iadd, 1) := by decide +kernel
theorem dX12_aSunday_185 : decode cX12_aSunday 185 = .ok (.iconst 1, 1) := by decide +kernel
theorem dX12_aSunday_186 : decode cX12_aSunday 186 = .ok (.iadd, 1) := by decide +kernel
theorem dX12_aSunday_187 : decode cX12_aSunday 187 = .ok (.invokestatic 180, 3) := by decide +kernel
theorem dX12_aSunday_190 : decode cX12_aSunday 190 = .ok (.iastore, 1) := by decide +kernel
theorem dX12_aSunday_191 : decode cX12_aSunday 191 = .ok (.iinc 2 1, 3) := by decide +kernel
theorem dX12_aSunday_194 : decode cX12_aSunday 194 = .ok (.goto (-141), 3) := by decide +kernel
theorem dX12_aSunday_197 : decode cX12_aSunday 197 = .ok (.aload_n 0, 1) := by decide +kernel
theorem dX12_aSunday_198 : decode cX12_aSunday 198 = .ok (.iload_n 1, 1) := by decide +kernel
theorem dX12_aSunday_199 : decode cX12_aSunday 199 = .ok (.putfield 302, 3) := by decide +kernel
theorem dX12_aSunday_202 : decode cX12_aSunday 202 = .ok (.aload_n 0, 1) := by decide +kernel
theorem dX12_aSunday_203 : decode cX12_aSunday 203 = .ok (.dup, 1) := by decide +kernel
theorem dX12_aSunday_204 : decode cX12_aSunday 204 = .ok (.getfield 300, 3) := by decide +kernel
theorem dX12_aSunday_207 : decode cX12_aSunday 207 = .ok (.iconst 1, 1) := by decide +kernel
theorem dX12_aSunday_208 : decode cX12_aSunday 208 = .ok (.iadd, 1) := by decide +kernel
theorem dX12_aSunday_209 : decode cX12_aSunday 209 = .ok (.putfield 300, 3) := by decide +kernel
theorem dX12_aSunday_212 : decode cX12_aSunday 212 = .ok (.return_, 1) := by decide +kernel
theorem dX12_goOn_0 : decode cX12_goOn 0 = .ok (.iconst 0, 1) := by decide +kernel
theorem dX12_goOn_1 : decode cX12_goOn 1 = .ok (.istore_n 2, 1) := by decide +kernel
theorem dX12_goOn_2 : decode cX12_goOn 2 = .ok (.iload_n 2, 1) := by decide +kernel
theorem dX12_goOn_3 : decode cX12_goOn 3 = .ok (.iload_n 1, 1) := by decide +kernel
theorem dX12_goOn_4 : decode cX12_goOn 4 = .ok (.if_icmp .ge 13, 3) := by decide +kernel
theorem dX12_goOn_7 : decode cX12_goOn 7 = .ok (.aload_n 0, 1) := by decide +kernel
theorem dX12_goOn_8 : decode cX12_goOn 8 = .ok (.invokevirtual 360, 3) := by decide +kernel
theorem dX12_goOn_11 : decode cX12_goOn 11 = .ok (.iinc 2 1, 3) := by decide +kernel
theorem dX12_goOn_14 : decode cX12_goOn 14 = .ok (.goto (-12), 3) := by decide +kernel
theorem dX12_goOn_17 : decode cX12_goOn 17 = .ok (.return_, 1) := by decide +kernel
theorem dX12_idle_0 : decode cX12_idle 0 = .ok (.iconst 0, 1) := by decide +kernel
theorem dX12_idle_1 : decode cX12_idle 1 = .ok (.istore_n 1, 1) := by decide +kernel
theorem dX12_idle_2 : decode cX12_idle 2 = .ok (.iconst 0, 1) := by decide +kernel
theorem dX12_idle_3 : decode cX12_idle 3 = .ok (.istore_n 2, 1) := by decide +kernel
theorem dX12_idle_4 : decode cX12_idle 4 = .ok (.iload_n 2, 1) := by decide +kernel
theorem dX12_idle_5 : decode cX12_idle 5 = .ok (.aload_n 0, 1) := by decide +kernel
theorem dX12_idle_6 : decode cX12_idle 6 = .ok (.getfield 36, 3) := by decide +kernel
theorem dX12_idle_9 : decode cX12_idle 9 = .ok (.iconst 1, 1) := by decide +kernel
theorem dX12_idle_10 : decode cX12_idle 10 = .ok (.iaload, 1) := by decide +kernel
theorem dX12_idle_11 : decode cX12_idle 11 = .ok (.if_icmp .ge 111, 3) := by decide +kernel
theorem dX12_idle_14 : decode cX12_idle 14 = .ok (.aload_n 0, 1) := by decide +kernel
theorem dX12_idle_15 : decode cX12_idle 15 = .ok (.getfield 304, 3) := by decide +kernel
theorem dX12_idle_18 : decode cX12_idle 18 = .ok (.iload_n 2, 1) := by decide +kernel
theorem dX12_idle_19 : decode cX12_idle 19 = .ok (.invokestatic 263, 3) := by decide +kernel
theorem dX12_idle_22 : decode cX12_idle 22 = .ok (.ifCond .eq 6, 3) := by decide +kernel
theorem dX12_idle_25 : decode cX12_idle 25 = .ok (.goto 91, 3) := by decide +kernel
theorem dX12_idle_28 : decode cX12_idle 28 = .ok (.iconst 1, 1) := by decide +kernel
theorem dX12_idle_29 : decode cX12_idle 29 = .ok (.istore_n 3, 1) := by decide +kernel
theorem dX12_idle_30 : decode cX12_idle 30 = .ok (.iconst 0, 1) := by decide +kernel
theorem dX12_idle_31 : decode cX12_idle 31 = .ok (.istore 4, 2) := by decide +kernel
theorem dX12_idle_33 : decode cX12_idle 33 = .ok (.iload 4, 2) := by decide +kernel
theorem dX12_idle_35 : decode cX12_idle 35 = .ok (.sipush 1023, 3) := by decide +kernel
theorem dX12_idle_38 : decode cX12_idle 38 = .ok (.if_icmp .gt 64, 3) := by decide +kernel
theorem dX12_idle_41 : decode cX12_idle 41 = .ok (.iload_n 3, 1) := by decide +kernel
theorem dX12_idle_42 : decode cX12_idle 42 = .ok (.ifCond .eq 60, 3) := by decide +kernel
theorem dX12_idle_45 : decode cX12_idle 45 = .ok (.aload_n 0, 1) := by decide +kernel
theorem dX12_idle_46 : decode cX12_idle 46 = .ok (.iload 4, 2) := by decide +kernel
theorem dX12_idle_48 : decode cX12_idle 48 = .ok (.invokevirtual 323, 3) := by decide +kernel
theorem dX12_idle_51 : decode cX12_idle 51 = .ok (.istore 5, 2) := by decide +kernel
theorem dX12_idle_53 : decode cX12_idle 53 = .ok (.aload_n 0, 1) := by decide +kernel
theorem dX12_idle_54 : decode cX12_idle 54 = .ok (.dup, 1) := by decide +kernel
theorem dX12_idle_55 : decode cX12_idle 55 = .ok (.getfield 304, 3) := by decide +kernel
theorem dX12_idle_58 : decode cX12_idle 58 = .ok (.iconst 1, 1) := by decide +kernel
theorem dX12_idle_59 : decode cX12_idle 59 = .ok (.iload_n 2, 1) := by decide +kernel
theorem dX12_idle_60 : decode cX12_idle 60 = .ok (.ishl, 1) := by decide +kernel
theorem dX12_idle_61 : decode cX12_idle 61 = .ok (.ior, 1) := by decide +kernel
theorem dX12_idle_62 : decode cX12_idle 62 = .ok (.putfield 304, 3) := by decide +kernel
theorem dX12_idle_65 : decode cX12_idle 65 = .ok (.aload_n 0, 1) := by decide +kernel
theorem dX12_idle_66 : decode cX12_idle 66 = .ok (.iload 4, 2) := by decide +kernel
theorem dX12_idle_68 : decode cX12_idle 68 = .ok (.invokevirtual 323, 3) := by decide +kernel
theorem dX12_idle_71 : decode cX12_idle 71 = .ok (.iload 5, 2) := by decide +kernel
theorem dX12_idle_73 : decode cX12_idle 73 = .ok (.if_icmp .ne 7, 3) := by decide +kernel
theorem dX12_idle_76 : decode cX12_idle 76 = .ok (.iconst 1, 1) := by decide +kernel
theorem dX12_idle_77 : decode cX12_idle 77 = .ok (.goto 4, 3) := by decide +kernel
theorem dX12_idle_80 : decode cX12_idle 80 = .ok (.iconst 0, 1) := by decide +kernel
theorem dX12_idle_81 : decode cX12_idle 81 = .ok (.istore_n 3, 1) := by decide +kernel
theorem dX12_idle_82 : decode cX12_idle 82 = .ok (.aload_n 0, 1) := by decide +kernel
theorem dX12_idle_83 : decode cX12_idle 83 = .ok (.dup, 1) := by decide +kernel
theorem dX12_idle_84 : decode cX12_idle 84 = .ok (.getfield 304, 3) := by decide +kernel
theorem dX12_idle_87 : decode cX12_idle 87 = .ok (.iconst 1, 1) := by decide +kernel
theorem dX12_idle_88 : decode cX12_idle 88 = .ok (.iload_n 2, 1) := by decide +kernel
theorem dX12_idle_89 : decode cX12_idle 89 = .ok (.ishl, 1) := by decide +kernel
theorem dX12_idle_90 : decode cX12_idle 90 = .ok (.iconst (-1), 1) := by decide +kernel
theorem dX12_idle_91 : decode cX12_idle 91 = .ok (.ixor, 1) := by decide +kernel
theorem dX12_idle_92 : decode cX12_idle 92 = .ok (.iand, 1) := by decide +kernel
theorem dX12_idle_93 : decode cX12_idle 93 = .ok (.putfield 304, 3) := by decide +kernel
theorem dX12_idle_96 : decode cX12_idle 96 = .ok (.iinc 4 1, 3) := by decide +kernel
theorem dX12_idle_99 : decode cX12_idle 99 = .ok (.goto (-66), 3) := by decide +kernel
theorem dX12_idle_102 : decode cX12_idle 102 = .ok (.iload_n 1, 1) := by decide +kernel
theorem dX12_idle_103 : decode cX12_idle 103 = .ok (.iload_n 3, 1) := by decide +kernel
theorem dX12_idle_104 : decode cX12_idle 104 = .ok (.ifCond .eq 9, 3) := by decide +kernel
theorem dX12_idle_107 : decode cX12_idle 107 = .ok (.iconst 1, 1) := by decide +kernel
theorem dX12_idle_108 : decode cX12_idle 108 = .ok (.iload_n 2, 1) := by decide +kernel
theorem dX12_idle_109 : decode cX12_idle 109 = .ok (.ishl, 1) := by decide +kernel
theorem dX12_idle_110 : decode cX12_idle 110 = .ok (.goto 4, 3) := by decide +kernel
theorem dX12_idle_113 : decode cX12_idle 113 = .ok (.iconst 0, 1) := by decide +kernel
theorem dX12_idle_114 : decode cX12_idle 114 = .ok (.ior, 1) := by decide +kernel
theorem dX12_idle_115 : decode cX12_idle 115 = .ok (.istore_n 1, 1) := by decide +kernel
theorem dX12_idle_116 : decode cX12_idle 116 = .ok (.iinc 2 1, 3) := by decide +kernel
theorem dX12_idle_119 : decode cX12_idle 119 = .ok (.goto (-115), 3) := by decide +kernel
theorem dX12_idle_122 : decode cX12_idle 122 = .ok (.iload_n 1, 1) := by decide +kernel
theorem dX12_idle_123 : decode cX12_idle 123 = .ok (.ireturn, 1) := by decide +kernel
theorem dX12_ends_0 : decode cX12_ends 0 = .ok (.iconst 0, 1) := by decide +kernel
theorem dX12_ends_1 : decode cX12_ends 1 = .ok (.istore_n 1, 1) := by decide +kernel
theorem dX12_ends_2 : decode cX12_ends 2 = .ok (.iconst 0, 1) := by decide +kernel
theorem dX12_ends_3 : decode cX12_ends 3 = .ok (.istore_n 2, 1) := by decide +kernel
theorem dX12_ends_4 : decode cX12_ends 4 = .ok (.iconst 0, 1) := by decide +kernel
theorem dX12_ends_5 : decode cX12_ends 5 = .ok (.istore_n 3, 1) := by decide +kernel
theorem dX12_ends_6 : decode cX12_ends 6 = .ok (.iload_n 3, 1) := by decide +kernel
theorem dX12_ends_7 : decode cX12_ends 7 = .ok (.aload_n 0, 1) := by decide +kernel
theorem dX12_ends_8 : decode cX12_ends 8 = .ok (.getfield 36, 3) := by decide +kernel
theorem dX12_ends_11 : decode cX12_ends 11 = .ok (.iconst 1, 1) := by decide +kernel
theorem dX12_ends_12 : decode cX12_ends 12 = .ok (.iaload, 1) := by decide +kernel
theorem dX12_ends_13 : decode cX12_ends 13 = .ok (.if_icmp .ge 43, 3) := by decide +kernel
theorem dX12_ends_16 : decode cX12_ends 16 = .ok (.aload_n 0, 1) := by decide +kernel
theorem dX12_ends_17 : decode cX12_ends 17 = .ok (.getfield 304, 3) := by decide +kernel
theorem dX12_ends_20 : decode cX12_ends 20 = .ok (.iload_n 3, 1) := by decide +kernel
theorem dX12_ends_21 : decode cX12_ends 21 = .ok (.invokestatic 263, 3) := by decide +kernel
theorem dX12_ends_24 : decode cX12_ends 24 = .ok (.ifCond .eq 6, 3) := by decide +kernel
theorem dX12_ends_27 : decode cX12_ends 27 = .ok (.goto 23, 3) := by decide +kernel
theorem dX12_ends_30 : decode cX12_ends 30 = .ok (.iload_n 1, 1) := by decide +kernel
theorem dX12_ends_31 : decode cX12_ends 31 = .ok (.iconst 1, 1) := by decide +kernel
theorem dX12_ends_32 : decode cX12_ends 32 = .ok (.aload_n 0, 1) := by decide +kernel
theorem dX12_ends_33 : decode cX12_ends 33 = .ok (.getfield 64, 3) := by decide +kernel
theorem dX12_ends_36 : decode cX12_ends 36 = .ok (.iload_n 3, 1) := by decide +kernel
theorem dX12_ends_37 : decode cX12_ends 37 = .ok (.iaload, 1) := by decide +kernel
theorem dX12_ends_38 : decode cX12_ends 38 = .ok (.ishl, 1) := by decide +kernel
theorem dX12_ends_39 : decode cX12_ends 39 = .ok (.ior, 1) := by decide +kernel
theorem dX12_ends_40 : decode cX12_ends 40 = .ok (.istore_n 1, 1) := by decide +kernel
theorem dX12_ends_41 : decode cX12_ends 41 = .ok (.iload_n 2, 1) := by decide +kernel
theorem dX12_ends_42 : decode cX12_ends 42 = .ok (.aload_n 0, 1) := by decide +kernel
theorem dX12_ends_43 : decode cX12_ends 43 = .ok (.getfield 58, 3) := by decide +kernel
theorem dX12_ends_46 : decode cX12_ends 46 = .ok (.iload_n 3, 1) := by decide +kernel
theorem dX12_ends_47 : decode cX12_ends 47 = .ok (.iaload, 1) := by decide +kernel
theorem dX12_ends_48 : decode cX12_ends 48 = .ok (.ior, 1) := by decide +kernel
theorem dX12_ends_49 : decode cX12_ends 49 = .ok (.istore_n 2, 1) := by decide +kernel
theorem dX12_ends_50 : decode cX12_ends 50 = .ok (.iinc 3 1, 3) := by decide +kernel
theorem dX12_ends_53 : decode cX12_ends 53 = .ok (.goto (-47), 3) := by decide +kernel
theorem dX12_ends_56 : decode cX12_ends 56 = .ok (.iload_n 2, 1) := by decide +kernel
theorem dX12_ends_57 : decode cX12_ends 57 = .ok (.iload_n 1, 1) := by decide +kernel
theorem dX12_ends_58 : decode cX12_ends 58 = .ok (.iconst (-1), 1) := by decide +kernel
theorem dX12_ends_59 : decode cX12_ends 59 = .ok (.ixor, 1) := by decide +kernel
theorem dX12_ends_60 : decode cX12_ends 60 = .ok (.iand, 1) := by decide +kernel
theorem dX12_ends_61 : decode cX12_ends 61 = .ok (.ireturn, 1) := by decide +kernel
theorem dX12_led_0 : decode cX12_led 0 = .ok (.iconst 0, 1) := by decide +kernel
theorem dX12_led_1 : decode cX12_led 1 = .ok (.istore_n 2, 1) := by decide +kernel
theorem dX12_led_2 : decode cX12_led 2 = .ok (.iconst 0, 1) := by decide +kernel
theorem dX12_led_3 : decode cX12_led 3 = .ok (.istore_n 3, 1) := by decide +kernel
theorem dX12_led_4 : decode cX12_led 4 = .ok (.iload_n 3, 1) := by decide +kernel
theorem dX12_led_5 : decode cX12_led 5 = .ok (.aload_n 0, 1) := by decide +kernel
theorem dX12_led_6 : decode cX12_led 6 = .ok (.getfield 36, 3) := by decide +kernel
theorem dX12_led_9 : decode cX12_led 9 = .ok (.iconst 1, 1) := by decide +kernel
theorem dX12_led_10 : decode cX12_led 10 = .ok (.iaload, 1) := by decide +kernel
theorem dX12_led_11 : decode cX12_led 11 = .ok (.if_icmp .ge 46, 3) := by decide +kernel
theorem dX12_led_14 : decode cX12_led 14 = .ok (.iload_n 2, 1) := by decide +kernel
theorem dX12_led_15 : decode cX12_led 15 = .ok (.aload_n 0, 1) := by decide +kernel
theorem dX12_led_16 : decode cX12_led 16 = .ok (.getfield 304, 3) := by decide +kernel
theorem dX12_led_19 : decode cX12_led 19 = .ok (.iload_n 3, 1) := by decide +kernel
theorem dX12_led_20 : decode cX12_led 20 = .ok (.invokestatic 263, 3) := by decide +kernel
theorem dX12_led_23 : decode cX12_led 23 = .ok (.ifCond .ne 25, 3) := by decide +kernel
theorem dX12_led_26 : decode cX12_led 26 = .ok (.aload_n 0, 1) := by decide +kernel
theorem dX12_led_27 : decode cX12_led 27 = .ok (.getfield 58, 3) := by decide +kernel
theorem dX12_led_30 : decode cX12_led 30 = .ok (.iload_n 3, 1) := by decide +kernel
theorem dX12_led_31 : decode cX12_led 31 = .ok (.iaload, 1) := by decide +kernel
theorem dX12_led_32 : decode cX12_led 32 = .ok (.iload_n 1, 1) := by decide +kernel
theorem dX12_led_33 : decode cX12_led 33 = .ok (.iand, 1) := by decide +kernel
theorem dX12_led_34 : decode cX12_led 34 = .ok (.ifCond .eq 14, 3) := by decide +kernel
theorem dX12_led_37 : decode cX12_led 37 = .ok (.iconst 1, 1) := by decide +kernel
theorem dX12_led_38 : decode cX12_led 38 = .ok (.aload_n 0, 1) := by decide +kernel
theorem dX12_led_39 : decode cX12_led 39 = .ok (.getfield 64, 3) := by decide +kernel
theorem dX12_led_42 : decode cX12_led 42 = .ok (.iload_n 3, 1) := by decide +kernel
theorem dX12_led_43 : decode cX12_led 43 = .ok (.iaload, 1) := by decide +kernel
theorem dX12_led_44 : decode cX12_led 44 = .ok (.ishl, 1) := by decide +kernel
theorem dX12_led_45 : decode cX12_led 45 = .ok (.goto 4, 3) := by decide +kernel
theorem dX12_led_48 : decode cX12_led 48 = .ok (.iconst 0, 1) := by decide +kernel
theorem dX12_led_49 : decode cX12_led 49 = .ok (.ior, 1) := by decide +kernel
theorem dX12_led_50 : decode cX12_led 50 = .ok (.istore_n 2, 1) := by decide +kernel
theorem dX12_led_51 : decode cX12_led 51 = .ok (.iinc 3 1, 3) := by decide +kernel
theorem dX12_led_54 : decode cX12_led 54 = .ok (.goto (-50), 3) := by decide +kernel
theorem dX12_led_57 : decode cX12_led 57 = .ok (.iload_n 2, 1) := by decide +kernel
theorem dX12_led_58 : decode cX12_led 58 = .ok (.ireturn, 1) := by decide +kernel
theorem dX12_leadsIn_0 : decode cX12_leadsIn 0 = .ok (.iconst 1, 1) := by decide +kernel
theorem dX12_leadsIn_1 : decode cX12_leadsIn 1 = .ok (.iload_n 1, 1) := by decide +kernel
theorem dX12_leadsIn_2 : decode cX12_leadsIn 2 = .ok (.ishl, 1) := by decide +kernel
theorem dX12_leadsIn_3 : decode cX12_leadsIn 3 = .ok (.istore_n 3, 1) := by decide +kernel
theorem dX12_leadsIn_4 : decode cX12_leadsIn 4 = .ok (.iconst 1, 1) := by decide +kernel
theorem dX12_leadsIn_5 : decode cX12_leadsIn 5 = .ok (.istore 4, 2) := by decide +kernel
theorem dX12_leadsIn_7 : decode cX12_leadsIn 7 = .ok (.iload 4, 2) := by decide +kernel
theorem dX12_leadsIn_9 : decode cX12_leadsIn 9 = .ok (.bipush 10, 2) := by decide +kernel
theorem dX12_leadsIn_11 : decode cX12_leadsIn 11 = .ok (.if_icmp .gt 26, 3) := by decide +kernel
theorem dX12_leadsIn_14 : decode cX12_leadsIn 14 = .ok (.aload_n 0, 1) := by decide +kernel
theorem dX12_leadsIn_15 : decode cX12_leadsIn 15 = .ok (.iload_n 3, 1) := by decide +kernel
theorem dX12_leadsIn_16 : decode cX12_leadsIn 16 = .ok (.invokevirtual 363, 3) := by decide +kernel
theorem dX12_leadsIn_19 : decode cX12_leadsIn 19 = .ok (.istore_n 3, 1) := by decide +kernel
theorem dX12_leadsIn_20 : decode cX12_leadsIn 20 = .ok (.iload_n 3, 1) := by decide +kernel
theorem dX12_leadsIn_21 : decode cX12_leadsIn 21 = .ok (.iload_n 2, 1) := by decide +kernel
theorem dX12_leadsIn_22 : decode cX12_leadsIn 22 = .ok (.invokestatic 263, 3) := by decide +kernel
theorem dX12_leadsIn_25 : decode cX12_leadsIn 25 = .ok (.ifCond .eq 6, 3) := by decide +kernel
theorem dX12_leadsIn_28 : decode cX12_leadsIn 28 = .ok (.iload 4, 2) := by decide +kernel
theorem dX12_leadsIn_30 : decode cX12_leadsIn 30 = .ok (.ireturn, 1) := by decide +kernel
theorem dX12_leadsIn_31 : decode cX12_leadsIn 31 = .ok (.iinc 4 1, 3) := by decide +kernel
theorem dX12_leadsIn_34 : decode cX12_leadsIn 34 = .ok (.goto (-27), 3) := by decide +kernel
theorem dX12_leadsIn_37 : decode cX12_leadsIn 37 = .ok (.iconst (-1), 1) := by decide +kernel
theorem dX12_leadsIn_38 : decode cX12_leadsIn 38 = .ok (.ireturn, 1) := by decide +kernel
theorem dX12_ring_0 : decode cX12_ring 0 = .ok (.iconst (-1), 1) := by decide +kernel
theorem dX12_ring_1 : decode cX12_ring 1 = .ok (.istore_n 1, 1) := by decide +kernel
theorem dX12_ring_2 : decode cX12_ring 2 = .ok (.iconst 0, 1) := by decide +kernel
theorem dX12_ring_3 : decode cX12_ring 3 = .ok (.istore_n 2, 1) := by decide +kernel
theorem dX12_ring_4 : decode cX12_ring 4 = .ok (.iload_n 2, 1) := by decide +kernel
theorem dX12_ring_5 : decode cX12_ring 5 = .ok (.bipush 10, 2) := by decide +kernel
theorem dX12_ring_7 : decode cX12_ring 7 = .ok (.if_icmp .ge 33, 3) := by decide +kernel
theorem dX12_ring_10 : decode cX12_ring 10 = .ok (.aload_n 0, 1) := by decide +kernel
theorem dX12_ring_11 : decode cX12_ring 11 = .ok (.iload_n 2, 1) := by decide +kernel
theorem dX12_ring_12 : decode cX12_ring 12 = .ok (.iload_n 2, 1) := by decide +kernel
theorem dX12_ring_13 : decode cX12_ring 13 = .ok (.invokevirtual 366, 3) := by decide +kernel
theorem dX12_ring_16 : decode cX12_ring 16 = .ok (.istore_n 3, 1) := by decide +kernel
theorem dX12_ring_17 : decode cX12_ring 17 = .ok (.iload_n 3, 1) := by decide +kernel
theorem dX12_ring_18 : decode cX12_ring 18 = .ok (.iconst (-1), 1) := by decide +kernel
theorem dX12_ring_19 : decode cX12_ring 19 = .ok (.if_icmp .eq 15, 3) := by decide +kernel
theorem dX12_ring_22 : decode cX12_ring 22 = .ok (.iload_n 1, 1) := by decide +kernel
theorem dX12_ring_23 : decode cX12_ring 23 = .ok (.iconst (-1), 1) := by decide +kernel
theorem dX12_ring_24 : decode cX12_ring 24 = .ok (.if_icmp .eq 8, 3) := by decide +kernel
theorem dX12_ring_27 : decode cX12_ring 27 = .ok (.iload_n 3, 1) := by decide +kernel
theorem dX12_ring_28 : decode cX12_ring 28 = .ok (.iload_n 1, 1) := by decide +kernel
theorem dX12_ring_29 : decode cX12_ring 29 = .ok (.if_icmp .ge 5, 3) := by decide +kernel
theorem dX12_ring_32 : decode cX12_ring 32 = .ok (.iload_n 3, 1) := by decide +kernel
theorem dX12_ring_33 : decode cX12_ring 33 = .ok (.istore_n 1, 1) := by decide +kernel
theorem dX12_ring_34 : decode cX12_ring 34 = .ok (.iinc 2 1, 3) := by decide +kernel
theorem dX12_ring_37 : decode cX12_ring 37 = .ok (.goto (-33), 3) := by decide +kernel
theorem dX12_ring_40 : decode cX12_ring 40 = .ok (.iload_n 1, 1) := by decide +kernel
theorem dX12_ring_41 : decode cX12_ring 41 = .ok (.ireturn, 1) := by decide +kernel
theorem dX12_count_0 : decode cX12_count 0 = .ok (.aload_n 0, 1) := by decide +kernel
theorem dX12_count_1 : decode cX12_count 1 = .ok (.iconst 0, 1) := by decide +kernel
theorem dX12_count_2 : decode cX12_count 2 = .ok (.putfield 139, 3) := by decide +kernel
theorem dX12_count_5 : decode cX12_count 5 = .ok (.iload_n 1, 1) := by decide +kernel
theorem dX12_count_6 : decode cX12_count 6 = .ok (.tableswitch 141 0 14 #[74, 74, 81, 86, 91, 96, 101, 106, 111, 116, 121, 126, 131, 131, 131], 74) := by decide +kernel
theorem dX12_count_80 : decode cX12_count 80 = .ok (.aload_n 0, 1) := by decide +kernel
theorem dX12_count_81 : decode cX12_count 81 = .ok (.getfield 36, 3) := by decide +kernel
theorem dX12_count_84 : decode cX12_count 84 = .ok (.iload_n 1, 1) := by decide +kernel
theorem dX12_count_85 : decode cX12_count 85 = .ok (.iaload, 1) := by decide +kernel
theorem dX12_count_86 : decode cX12_count 86 = .ok (.ireturn, 1) := by decide +kernel
theorem dX12_count_87 : decode cX12_count 87 = .ok (.aload_n 0, 1) := by decide +kernel
theorem dX12_count_88 : decode cX12_count 88 = .ok (.getfield 136, 3) := by decide +kernel
theorem dX12_count_91 : decode cX12_count 91 = .ok (.ireturn, 1) := by decide +kernel
theorem dX12_count_92 : decode cX12_count 92 = .ok (.aload_n 0, 1) := by decide +kernel
theorem dX12_count_93 : decode cX12_count 93 = .ok (.getfield 300, 3) := by decide +kernel
theorem dX12_count_96 : decode cX12_count 96 = .ok (.ireturn, 1) := by decide +kernel
theorem dX12_count_97 : decode cX12_count 97 = .ok (.aload_n 0, 1) := by decide +kernel
theorem dX12_count_98 : decode cX12_count 98 = .ok (.getfield 302, 3) := by decide +kernel
theorem dX12_count_101 : decode cX12_count 101 = .ok (.ireturn, 1) := by decide +kernel
theorem dX12_count_102 : decode cX12_count 102 = .ok (.aload_n 0, 1) := by decide +kernel
theorem dX12_count_103 : decode cX12_count 103 = .ok (.getfield 304, 3) := by decide +kernel
theorem dX12_count_106 : decode cX12_count 106 = .ok (.ireturn, 1) := by decide +kernel
theorem dX12_count_107 : decode cX12_count 107 = .ok (.aload_n 0, 1) := by decide +kernel
theorem dX12_count_108 : decode cX12_count 108 = .ok (.invokevirtual 369, 3) := by decide +kernel
theorem dX12_count_111 : decode cX12_count 111 = .ok (.ireturn, 1) := by decide +kernel
theorem dX12_count_112 : decode cX12_count 112 = .ok (.aload_n 0, 1) := by decide +kernel
theorem dX12_count_113 : decode cX12_count 113 = .ok (.invokevirtual 372, 3) := by decide +kernel
theorem dX12_count_116 : decode cX12_count 116 = .ok (.ireturn, 1) := by decide +kernel
theorem dX12_count_117 : decode cX12_count 117 = .ok (.aload_n 0, 1) := by decide +kernel
theorem dX12_count_118 : decode cX12_count 118 = .ok (.invokevirtual 375, 3) := by decide +kernel
theorem dX12_count_121 : decode cX12_count 121 = .ok (.ireturn, 1) := by decide +kernel
theorem dX12_count_122 : decode cX12_count 122 = .ok (.aload_n 0, 1) := by decide +kernel
theorem dX12_count_123 : decode cX12_count 123 = .ok (.getfield 307, 3) := by decide +kernel
theorem dX12_count_126 : decode cX12_count 126 = .ok (.ireturn, 1) := by decide +kernel
theorem dX12_count_127 : decode cX12_count 127 = .ok (.aload_n 0, 1) := by decide +kernel
theorem dX12_count_128 : decode cX12_count 128 = .ok (.getfield 310, 3) := by decide +kernel
theorem dX12_count_131 : decode cX12_count 131 = .ok (.ireturn, 1) := by decide +kernel
theorem dX12_count_132 : decode cX12_count 132 = .ok (.aload_n 0, 1) := by decide +kernel
theorem dX12_count_133 : decode cX12_count 133 = .ok (.getfield 150, 3) := by decide +kernel
theorem dX12_count_136 : decode cX12_count 136 = .ok (.ireturn, 1) := by decide +kernel
theorem dX12_count_137 : decode cX12_count 137 = .ok (.aload_n 0, 1) := by decide +kernel
theorem dX12_count_138 : decode cX12_count 138 = .ok (.getfield 70, 3) := by decide +kernel
theorem dX12_count_141 : decode cX12_count 141 = .ok (.iload_n 1, 1) := by decide +kernel
theorem dX12_count_142 : decode cX12_count 142 = .ok (.bipush 12, 2) := by decide +kernel
theorem dX12_count_144 : decode cX12_count 144 = .ok (.isub, 1) := by decide +kernel
theorem dX12_count_145 : decode cX12_count 145 = .ok (.iaload, 1) := by decide +kernel
theorem dX12_count_146 : decode cX12_count 146 = .ok (.ireturn, 1) := by decide +kernel
theorem dX12_count_147 : decode cX12_count 147 = .ok (.aload_n 0, 1) := by decide +kernel
theorem dX12_count_148 : decode cX12_count 148 = .ok (.iconst 1, 1) := by decide +kernel
theorem dX12_count_149 : decode cX12_count 149 = .ok (.invokevirtual 287, 3) := by decide +kernel
theorem dX12_count_152 : decode cX12_count 152 = .ok (.ireturn, 1) := by decide +kernel
theorem dX12_worth_0 : decode cX12_worth 0 = .ok (.aload_n 0, 1) := by decide +kernel
theorem dX12_worth_1 : decode cX12_worth 1 = .ok (.iconst 0, 1) := by decide +kernel
theorem dX12_worth_2 : decode cX12_worth 2 = .ok (.putfield 139, 3) := by decide +kernel
theorem dX12_worth_5 : decode cX12_worth 5 = .ok (.iload_n 1, 1) := by decide +kernel
theorem dX12_worth_6 : decode cX12_worth 6 = .ok (.invokestatic 378, 3) := by decide +kernel
theorem dX12_worth_9 : decode cX12_worth 9 = .ok (.ifCond .eq 12, 3) := by decide +kernel
theorem dX12_worth_12 : decode cX12_worth 12 = .ok (.aload_n 0, 1) := by decide +kernel
theorem dX12_worth_13 : decode cX12_worth 13 = .ok (.getfield 40, 3) := by decide +kernel
theorem dX12_worth_16 : decode cX12_worth 16 = .ok (.iload_n 1, 1) := by decide +kernel
theorem dX12_worth_17 : decode cX12_worth 17 = .ok (.iaload, 1) := by decide +kernel
theorem dX12_worth_18 : decode cX12_worth 18 = .ok (.goto 8, 3) := by decide +kernel
theorem dX12_worth_21 : decode cX12_worth 21 = .ok (.aload_n 0, 1) := by decide +kernel
theorem dX12_worth_22 : decode cX12_worth 22 = .ok (.iconst 1, 1) := by decide +kernel
theorem dX12_worth_23 : decode cX12_worth 23 = .ok (.invokevirtual 287, 3) := by decide +kernel
theorem dX12_worth_26 : decode cX12_worth 26 = .ok (.ireturn, 1) := by decide +kernel
theorem dX12_conditional_0 : decode cX12_conditional 0 = .ok (.aload_n 0, 1) := by decide +kernel
theorem dX12_conditional_1 : decode cX12_conditional 1 = .ok (.iconst 0, 1) := by decide +kernel
theorem dX12_conditional_2 : decode cX12_conditional 2 = .ok (.putfield 139, 3) := by decide +kernel
theorem dX12_conditional_5 : decode cX12_conditional 5 = .ok (.aload_n 0, 1) := by decide +kernel
theorem dX12_conditional_6 : decode cX12_conditional 6 = .ok (.iload_n 1, 1) := by decide +kernel
theorem dX12_conditional_7 : decode cX12_conditional 7 = .ok (.invokevirtual 381, 3) := by decide +kernel
theorem dX12_conditional_10 : decode cX12_conditional 10 = .ok (.ifCond .ne 9, 3) := by decide +kernel
theorem dX12_conditional_13 : decode cX12_conditional 13 = .ok (.aload_n 0, 1) := by decide +kernel
theorem dX12_conditional_14 : decode cX12_conditional 14 = .ok (.iconst 1, 1) := by decide +kernel
theorem dX12_conditional_15 : decode cX12_conditional 15 = .ok (.invokevirtual 287, 3) := by decide +kernel
theorem dX12_conditional_18 : decode cX12_conditional 18 = .ok (.ireturn, 1) := by decide +kernel
theorem dX12_conditional_19 : decode cX12_conditional 19 = .ok (.iload_n 2, 1) := by decide +kernel
theorem dX12_conditional_20 : decode cX12_conditional 20 = .ok (.tableswitch 73 0 4 #[36, 43, 50, 57, 64], 36) := by decide +kernel
theorem dX12_conditional_56 : decode cX12_conditional 56 = .ok (.aload_n 0, 1) := by decide +kernel
theorem dX12_conditional_57 : decode cX12_conditional 57 = .ok (.getfield 58, 3) := by decide +kernel
theorem dX12_conditional_60 : decode cX12_conditional 60 = .ok (.iload_n 1, 1) := by decide +kernel
theorem dX12_conditional_61 : decode cX12_conditional 61 = .ok (.iaload, 1) := by decide +kernel
theorem dX12_conditional_62 : decode cX12_conditional 62 = .ok (.ireturn, 1) := by decide +kernel
theorem dX12_conditional_63 : decode cX12_conditional 63 = .ok (.aload_n 0, 1) := by decide +kernel
theorem dX12_conditional_64 : decode cX12_conditional 64 = .ok (.getfield 61, 3) := by decide +kernel
theorem dX12_conditional_67 : decode cX12_conditional 67 = .ok (.iload_n 1, 1) := by decide +kernel
theorem dX12_conditional_68 : decode cX12_conditional 68 = .ok (.iaload, 1) := by decide +kernel
theorem dX12_conditional_69 : decode cX12_conditional 69 = .ok (.ireturn, 1) := by decide +kernel
theorem dX12_conditional_70 : decode cX12_conditional 70 = .ok (.aload_n 0, 1) := by decide +kernel
theorem dX12_conditional_71 : decode cX12_conditional 71 = .ok (.getfield 64, 3) := by decide +kernel
theorem dX12_conditional_74 : decode cX12_conditional 74 = .ok (.iload_n 1, 1) := by decide +kernel
theorem dX12_conditional_75 : decode cX12_conditional 75 = .ok (.iaload, 1) := by decide +kernel
theorem dX12_conditional_76 : decode cX12_conditional 76 = .ok (.ireturn, 1) := by decide +kernel
theorem dX12_conditional_77 : decode cX12_conditional 77 = .ok (.aload_n 0, 1) := by decide +kernel
theorem dX12_conditional_78 : decode cX12_conditional 78 = .ok (.getfield 55, 3) := by decide +kernel
theorem dX12_conditional_81 : decode cX12_conditional 81 = .ok (.iload_n 1, 1) := by decide +kernel
theorem dX12_conditional_82 : decode cX12_conditional 82 = .ok (.iaload, 1) := by decide +kernel
theorem dX12_conditional_83 : decode cX12_conditional 83 = .ok (.ireturn, 1) := by decide +kernel
theorem dX12_conditional_84 : decode cX12_conditional 84 = .ok (.aload_n 0, 1) := by decide +kernel
theorem dX12_conditional_85 : decode cX12_conditional 85 = .ok (.getfield 304, 3) := by decide +kernel
theorem dX12_conditional_88 : decode cX12_conditional 88 = .ok (.iload_n 1, 1) := by decide +kernel
theorem dX12_conditional_89 : decode cX12_conditional 89 = .ok (.ishr, 1) := by decide +kernel
theorem dX12_conditional_90 : decode cX12_conditional 90 = .ok (.iconst 1, 1) := by decide +kernel
theorem dX12_conditional_91 : decode cX12_conditional 91 = .ok (.iand, 1) := by decide +kernel
theorem dX12_conditional_92 : decode cX12_conditional 92 = .ok (.ireturn, 1) := by decide +kernel
theorem dX12_conditional_93 : decode cX12_conditional 93 = .ok (.aload_n 0, 1) := by decide +kernel
theorem dX12_conditional_94 : decode cX12_conditional 94 = .ok (.iconst 1, 1) := by decide +kernel
theorem dX12_conditional_95 : decode cX12_conditional 95 = .ok (.invokevirtual 287, 3) := by decide +kernel
theorem dX12_conditional_98 : decode cX12_conditional 98 = .ok (.ireturn, 1) := by decide +kernel
theorem dX12_person_0 : decode cX12_person 0 = .ok (.aload_n 0, 1) := by decide +kernel
theorem dX12_person_1 : decode cX12_person 1 = .ok (.iconst 0, 1) := by decide +kernel
theorem dX12_person_2 : decode cX12_person 2 = .ok (.putfield 139, 3) := by decide +kernel
theorem dX12_person_5 : decode cX12_person 5 = .ok (.aload_n 0, 1) := by decide +kernel
theorem dX12_person_6 : decode cX12_person 6 = .ok (.iload_n 1, 1) := by decide +kernel
theorem dX12_person_7 : decode cX12_person 7 = .ok (.invokevirtual 384, 3) := by decide +kernel
theorem dX12_person_10 : decode cX12_person 10 = .ok (.ifCond .ne 9, 3) := by decide +kernel
theorem dX12_person_13 : decode cX12_person 13 = .ok (.aload_n 0, 1) := by decide +kernel
theorem dX12_person_14 : decode cX12_person 14 = .ok (.iconst 1, 1) := by decide +kernel
theorem dX12_person_15 : decode cX12_person 15 = .ok (.invokevirtual 287, 3) := by decide +kernel
theorem dX12_person_18 : decode cX12_person 18 = .ok (.ireturn, 1) := by decide +kernel
theorem dX12_person_19 : decode cX12_person 19 = .ok (.iload_n 2, 1) := by decide +kernel
theorem dX12_person_20 : decode cX12_person 20 = .ok (.tableswitch 109 0 7 #[48, 55, 62, 69, 76, 83, 89, 95], 48) := by decide +kernel
theorem dX12_person_68 : decode cX12_person 68 = .ok (.aload_n 0, 1) := by decide +kernel
theorem dX12_person_69 : decode cX12_person 69 = .ok (.getfield 80, 3) := by decide +kernel
theorem dX12_person_72 : decode cX12_person 72 = .ok (.iload_n 1, 1) := by decide +kernel
theorem dX12_person_73 : decode cX12_person 73 = .ok (.iaload, 1) := by decide +kernel
theorem dX12_person_74 : decode cX12_person 74 = .ok (.ireturn, 1) := by decide +kernel
theorem dX12_person_75 : decode cX12_person 75 = .ok (.aload_n 0, 1) := by decide +kernel
theorem dX12_person_76 : decode cX12_person 76 = .ok (.getfield 83, 3) := by decide +kernel
theorem dX12_person_79 : decode cX12_person 79 = .ok (.iload_n 1, 1) := by decide +kernel
theorem dX12_person_80 : decode cX12_person 80 = .ok (.iaload, 1) := by decide +kernel
theorem dX12_person_81 : decode cX12_person 81 = .ok (.ireturn, 1) := by decide +kernel
theorem dX12_person_82 : decode cX12_person 82 = .ok (.aload_n 0, 1) := by decide +kernel
theorem dX12_person_83 : decode cX12_person 83 = .ok (.getfield 49, 3) := by decide +kernel
theorem dX12_person_86 : decode cX12_person 86 = .ok (.iload_n 1, 1) := by decide +kernel
theorem dX12_person_87 : decode cX12_person 87 = .ok (.iaload, 1) := by decide +kernel
theorem dX12_person_88 : decode cX12_person 88 = .ok (.ireturn, 1) := by decide +kernel
theorem dX12_person_89 : decode cX12_person 89 = .ok (.aload_n 0, 1) := by decide +kernel
theorem dX12_person_90 : decode cX12_person 90 = .ok (.getfield 86, 3) := by decide +kernel
theorem dX12_person_93 : decode cX12_person 93 = .ok (.iload_n 1, 1) := by decide +kernel
theorem dX12_person_94 : decode cX12_person 94 = .ok (.iaload, 1) := by decide +kernel
theorem dX12_person_95 : decode cX12_person 95 = .ok (.ireturn, 1) := by decide +kernel
theorem dX12_person_96 : decode cX12_person 96 = .ok (.aload_n 0, 1) := by decide +kernel
theorem dX12_person_97 : decode cX12_person 97 = .ok (.getfield 88, 3) := by decide +kernel
theorem dX12_person_100 : decode cX12_person 100 = .ok (.iload_n 1, 1) := by decide +kernel
theorem dX12_person_101 : decode cX12_person 101 = .ok (.iaload, 1) := by decide +kernel
theorem dX12_person_102 : decode cX12_person 102 = .ok (.ireturn, 1) := by decide +kernel
theorem dX12_person_103 : decode cX12_person 103 = .ok (.aload_n 0, 1) := by decide +kernel
theorem dX12_person_104 : decode cX12_person 104 = .ok (.iload_n 1, 1) := by decide +kernel
theorem dX12_person_105 : decode cX12_person 105 = .ok (.invokevirtual 333, 3) := by decide +kernel
theorem dX12_person_108 : decode cX12_person 108 = .ok (.ireturn, 1) := by decide +kernel
theorem dX12_person_109 : decode cX12_person 109 = .ok (.aload_n 0, 1) := by decide +kernel
theorem dX12_person_110 : decode cX12_person 110 = .ok (.iload_n 1, 1) := by decide +kernel
theorem dX12_person_111 : decode cX12_person 111 = .ok (.invokevirtual 336, 3) := by decide +kernel
theorem dX12_person_114 : decode cX12_person 114 = .ok (.ireturn, 1) := by decide +kernel
theorem dX12_person_115 : decode cX12_person 115 = .ok (.aload_n 0, 1) := by decide +kernel
theorem dX12_person_116 : decode cX12_person 116 = .ok (.iload_n 1, 1) := by decide +kernel
theorem dX12_person_117 : decode cX12_person 117 = .ok (.invokevirtual 342, 3) := by decide +kernel
theorem dX12_person_120 : decode cX12_person 120 = .ok (.ifCond .eq 7, 3) := by decide +kernel
theorem dX12_person_123 : decode cX12_person 123 = .ok (.iconst 1, 1) := by decide +kernel
theorem dX12_person_124 : decode cX12_person 124 = .ok (.goto 4, 3) := by decide +kernel
theorem dX12_person_127 : decode cX12_person 127 = .ok (.iconst 0, 1) := by decide +kernel
theorem dX12_person_128 : decode cX12_person 128 = .ok (.ireturn, 1) := by decide +kernel
theorem dX12_person_129 : decode cX12_person 129 = .ok (.aload_n 0, 1) := by decide +kernel
theorem dX12_person_130 : decode cX12_person 130 = .ok (.iconst 1, 1) := by decide +kernel
theorem dX12_person_131 : decode cX12_person 131 = .ok (.invokevirtual 287, 3) := by decide +kernel
theorem dX12_person_134 : decode cX12_person 134 = .ok (.ireturn, 1) := by decide +kernel
theorem dX12_refuse_0 : decode cX12_refuse 0 = .ok (.aload_n 0, 1) := by decide +kernel
theorem dX12_refuse_1 : decode cX12_refuse 1 = .ok (.getfield 70, 3) := by decide +kernel
theorem dX12_refuse_4 : decode cX12_refuse 4 = .ok (.iload_n 1, 1) := by decide +kernel
theorem dX12_refuse_5 : decode cX12_refuse 5 = .ok (.dup2, 1) := by decide +kernel
theorem dX12_refuse_6 : decode cX12_refuse 6 = .ok (.iaload, 1) := by decide +kernel
theorem dX12_refuse_7 : decode cX12_refuse 7 = .ok (.iconst 1, 1) := by decide +kernel
theorem dX12_refuse_8 : decode cX12_refuse 8 = .ok (.iadd, 1) := by decide +kernel
theorem dX12_refuse_9 : decode cX12_refuse 9 = .ok (.iastore, 1) := by decide +kernel
theorem dX12_refuse_10 : decode cX12_refuse 10 = .ok (.iconst (-1), 1) := by decide +kernel
theorem dX12_refuse_11 : decode cX12_refuse 11 = .ok (.ireturn, 1) := by decide +kernel
theorem dX12_keep_0 : decode cX12_keep 0 = .ok (.aload_n 0, 1) := by decide +kernel
theorem dX12_keep_1 : decode cX12_keep 1 = .ok (.getfield 307, 3) := by decide +kernel
theorem dX12_keep_4 : decode cX12_keep 4 = .ok (.bipush 40, 2) := by decide +kernel
theorem dX12_keep_6 : decode cX12_keep 6 = .ok (.if_icmp .ne 46, 3) := by decide +kernel
theorem dX12_keep_9 : decode cX12_keep 9 = .ok (.bipush 36, 2) := by decide +kernel
theorem dX12_keep_11 : decode cX12_keep 11 = .ok (.istore_n 1, 1) := by decide +kernel
theorem dX12_keep_12 : decode cX12_keep 12 = .ok (.iload_n 1, 1) := by decide +kernel
theorem dX12_keep_13 : decode cX12_keep 13 = .ok (.aload_n 0, 1) := by decide +kernel
theorem dX12_keep_14 : decode cX12_keep 14 = .ok (.getfield 90, 3) := by decide +kernel
theorem dX12_keep_17 : decode cX12_keep 17 = .ok (.arraylength, 1) := by decide +kernel
theorem dX12_keep_18 : decode cX12_keep 18 = .ok (.if_icmp .ge 24, 3) := by decide +kernel
theorem dX12_keep_21 : decode cX12_keep 21 = .ok (.aload_n 0, 1) := by decide +kernel
theorem dX12_keep_22 : decode cX12_keep 22 = .ok (.getfield 90, 3) := by decide +kernel
theorem dX12_keep_25 : decode cX12_keep 25 = .ok (.iload_n 1, 1) := by decide +kernel
theorem dX12_keep_26 : decode cX12_keep 26 = .ok (.bipush 36, 2) := by decide +kernel
theorem dX12_keep_28 : decode cX12_keep 28 = .ok (.isub, 1) := by decide +kernel
theorem dX12_keep_29 : decode cX12_keep 29 = .ok (.aload_n 0, 1) := by decide +kernel
theorem dX12_keep_30 : decode cX12_keep 30 = .ok (.getfield 90, 3) := by decide +kernel
theorem dX12_keep_33 : decode cX12_keep 33 = .ok (.iload_n 1, 1) := by decide +kernel
theorem dX12_keep_34 : decode cX12_keep 34 = .ok (.iaload, 1) := by decide +kernel
theorem dX12_keep_35 : decode cX12_keep 35 = .ok (.iastore, 1) := by decide +kernel
theorem dX12_keep_36 : decode cX12_keep 36 = .ok (.iinc 1 1, 3) := by decide +kernel
theorem dX12_keep_39 : decode cX12_keep 39 = .ok (.goto (-27), 3) := by decide +kernel
theorem dX12_keep_42 : decode cX12_keep 42 = .ok (.aload_n 0, 1) := by decide +kernel
theorem dX12_keep_43 : decode cX12_keep 43 = .ok (.dup, 1) := by decide +kernel
theorem dX12_keep_44 : decode cX12_keep 44 = .ok (.getfield 307, 3) := by decide +kernel
theorem dX12_keep_47 : decode cX12_keep 47 = .ok (.iconst 1, 1) := by decide +kernel
theorem dX12_keep_48 : decode cX12_keep 48 = .ok (.isub, 1) := by decide +kernel
theorem dX12_keep_49 : decode cX12_keep 49 = .ok (.putfield 307, 3) := by decide +kernel
theorem dX12_keep_52 : decode cX12_keep 52 = .ok (.aload_n 0, 1) := by decide +kernel
theorem dX12_keep_53 : decode cX12_keep 53 = .ok (.aload_n 0, 1) := by decide +kernel
theorem dX12_keep_54 : decode cX12_keep 54 = .ok (.getfield 90, 3) := by decide +kernel
theorem dX12_keep_57 : decode cX12_keep 57 = .ok (.bipush 36, 2) := by decide +kernel
theorem dX12_keep_59 : decode cX12_keep 59 = .ok (.aload_n 0, 1) := by decide +kernel
theorem dX12_keep_60 : decode cX12_keep 60 = .ok (.getfield 307, 3) := by decide +kernel
theorem dX12_keep_63 : decode cX12_keep 63 = .ok (.imul, 1) := by decide +kernel
theorem dX12_keep_64 : decode cX12_keep 64 = .ok (.invokevirtual 387, 3) := by decide +kernel
theorem dX12_keep_67 : decode cX12_keep 67 = .ok (.aload_n 0, 1) := by decide +kernel
theorem dX12_keep_68 : decode cX12_keep 68 = .ok (.dup, 1) := by decide +kernel
theorem dX12_keep_69 : decode cX12_keep 69 = .ok (.getfield 307, 3) := by decide +kernel
theorem dX12_keep_72 : decode cX12_keep 72 = .ok (.iconst 1, 1) := by decide +kernel
theorem dX12_keep_73 : decode cX12_keep 73 = .ok (.iadd, 1) := by decide +kernel
theorem dX12_keep_74 : decode cX12_keep 74 = .ok (.putfield 307, 3) := by decide +kernel
theorem dX12_keep_77 : decode cX12_keep 77 = .ok (.return_, 1) := by decide +kernel
theorem dX12_sundays_0 : decode cX12_sundays 0 = .ok (.aload_n 0, 1) := by decide +kernel
theorem dX12_sundays_1 : decode cX12_sundays 1 = .ok (.iconst 0, 1) := by decide +kernel
theorem dX12_sundays_2 : decode cX12_sundays 2 = .ok (.putfield 139, 3) := by decide +kernel
theorem dX12_sundays_5 : decode cX12_sundays 5 = .ok (.iload_n 1, 1) := by decide +kernel
theorem dX12_sundays_6 : decode cX12_sundays 6 = .ok (.i2l, 1) := by decide +kernel
theorem dX12_sundays_7 : decode cX12_sundays 7 = .ok (.lconst 1, 1) := by decide +kernel
theorem dX12_sundays_8 : decode cX12_sundays 8 = .ok (.ldc2_w 391, 3) := by decide +kernel
theorem dX12_sundays_11 : decode cX12_sundays 11 = .ok (.invokestatic 142, 3) := by decide +kernel
theorem dX12_sundays_14 : decode cX12_sundays 14 = .ok (.ifCond .eq 15, 3) := by decide +kernel
theorem dX12_sundays_17 : decode cX12_sundays 17 = .ok (.aload_n 0, 1) := by decide +kernel
theorem dX12_sundays_18 : decode cX12_sundays 18 = .ok (.getfield 300, 3) := by decide +kernel
theorem dX12_sundays_21 : decode cX12_sundays 21 = .ok (.iload_n 1, 1) := by decide +kernel
theorem dX12_sundays_22 : decode cX12_sundays 22 = .ok (.iadd, 1) := by decide +kernel
theorem dX12_sundays_23 : decode cX12_sundays 23 = .ok (.sipush 999, 3) := by decide +kernel
theorem dX12_sundays_26 : decode cX12_sundays 26 = .ok (.if_icmp .le 9, 3) := by decide +kernel
theorem dX12_sundays_29 : decode cX12_sundays 29 = .ok (.aload_n 0, 1) := by decide +kernel
theorem dX12_sundays_30 : decode cX12_sundays 30 = .ok (.iconst 1, 1) := by decide +kernel
theorem dX12_sundays_31 : decode cX12_sundays 31 = .ok (.invokevirtual 393, 3) := by decide +kernel
theorem dX12_sundays_34 : decode cX12_sundays 34 = .ok (.ireturn, 1) := by decide +kernel
theorem dX12_sundays_35 : decode cX12_sundays 35 = .ok (.aload_n 0, 1) := by decide +kernel
theorem dX12_sundays_36 : decode cX12_sundays 36 = .ok (.invokevirtual 396, 3) := by decide +kernel
theorem dX12_sundays_39 : decode cX12_sundays 39 = .ok (.aload_n 0, 1) := by decide +kernel
theorem dX12_sundays_40 : decode cX12_sundays 40 = .ok (.iload_n 1, 1) := by decide +kernel
theorem dX12_sundays_41 : decode cX12_sundays 41 = .ok (.invokevirtual 399, 3) := by decide +kernel
theorem dX12_sundays_44 : decode cX12_sundays 44 = .ok (.aload_n 0, 1) := by decide +kernel
theorem dX12_sundays_45 : decode cX12_sundays 45 = .ok (.getfield 300, 3) := by decide +kernel
theorem dX12_sundays_48 : decode cX12_sundays 48 = .ok (.ireturn, 1) := by decide +kernel
theorem dX12_has_0 : decode cX12_has 0 = .ok (.aload_n 0, 1) := by decide +kernel
theorem dX12_has_1 : decode cX12_has 1 = .ok (.iconst 0, 1) := by decide +kernel
theorem dX12_has_2 : decode cX12_has 2 = .ok (.putfield 139, 3) := by decide +kernel
theorem dX12_has_5 : decode cX12_has 5 = .ok (.aload_n 0, 1) := by decide +kernel
theorem dX12_has_6 : decode cX12_has 6 = .ok (.iload_n 1, 1) := by decide +kernel
theorem dX12_has_7 : decode cX12_has 7 = .ok (.invokevirtual 384, 3) := by decide +kernel
theorem dX12_has_10 : decode cX12_has 10 = .ok (.ifCond .eq 10, 3) := by decide +kernel
theorem dX12_has_13 : decode cX12_has 13 = .ok (.iload_n 2, 1) := by decide +kernel
theorem dX12_has_14 : decode cX12_has 14 = .ok (.invokestatic 378, 3) := by decide +kernel
theorem dX12_has_17 : decode cX12_has 17 = .ok (.ifCond .ne 9, 3) := by decide +kernel
theorem dX12_has_20 : decode cX12_has 20 = .ok (.aload_n 0, 1) := by decide +kernel
theorem dX12_has_21 : decode cX12_has 21 = .ok (.iconst 1, 1) := by decide +kernel
theorem dX12_has_22 : decode cX12_has 22 = .ok (.invokevirtual 287, 3) := by decide +kernel
theorem dX12_has_25 : decode cX12_has 25 = .ok (.ireturn, 1) := by decide +kernel
theorem dX12_has_26 : decode cX12_has 26 = .ok (.aload_n 0, 1) := by decide +kernel
theorem dX12_has_27 : decode cX12_has 27 = .ok (.getfield 80, 3) := by decide +kernel
theorem dX12_has_30 : decode cX12_has 30 = .ok (.iload_n 1, 1) := by decide +kernel
theorem dX12_has_31 : decode cX12_has 31 = .ok (.iaload, 1) := by decide +kernel
theorem dX12_has_32 : decode cX12_has 32 = .ok (.iload_n 2, 1) := by decide +kernel
theorem dX12_has_33 : decode cX12_has 33 = .ok (.invokestatic 263, 3) := by decide +kernel
theorem dX12_has_36 : decode cX12_has 36 = .ok (.iload_n 3, 1) := by decide +kernel
theorem dX12_has_37 : decode cX12_has 37 = .ok (.if_icmp .ne 9, 3) := by decide +kernel
theorem dX12_has_40 : decode cX12_has 40 = .ok (.aload_n 0, 1) := by decide +kernel
theorem dX12_has_41 : decode cX12_has 41 = .ok (.iconst 1, 1) := by decide +kernel
theorem dX12_has_42 : decode cX12_has 42 = .ok (.invokevirtual 393, 3) := by decide +kernel
theorem dX12_has_45 : decode cX12_has 45 = .ok (.ireturn, 1) := by decide +kernel
theorem dX12_has_46 : decode cX12_has 46 = .ok (.aload_n 0, 1) := by decide +kernel
theorem dX12_has_47 : decode cX12_has 47 = .ok (.invokevirtual 396, 3) := by decide +kernel
theorem dX12_has_50 : decode cX12_has 50 = .ok (.aload_n 0, 1) := by decide +kernel
theorem dX12_has_51 : decode cX12_has 51 = .ok (.getfield 80, 3) := by decide +kernel
theorem dX12_has_54 : decode cX12_has 54 = .ok (.iload_n 1, 1) := by decide +kernel
theorem dX12_has_55 : decode cX12_has 55 = .ok (.dup2, 1) := by decide +kernel
theorem dX12_has_56 : decode cX12_has 56 = .ok (.iaload, 1) := by decide +kernel
theorem dX12_has_57 : decode cX12_has 57 = .ok (.iconst 1, 1) := by decide +kernel
theorem dX12_has_58 : decode cX12_has 58 = .ok (.iload_n 2, 1) := by decide +kernel
theorem dX12_has_59 : decode cX12_has 59 = .ok (.ishl, 1) := by decide +kernel
theorem dX12_has_60 : decode cX12_has 60 = .ok (.ixor, 1) := by decide +kernel
theorem dX12_has_61 : decode cX12_has 61 = .ok (.iastore, 1) := by decide +kernel
theorem dX12_has_62 : decode cX12_has 62 = .ok (.aload_n 0, 1) := by decide +kernel
theorem dX12_has_63 : decode cX12_has 63 = .ok (.getfield 80, 3) := by decide +kernel
theorem dX12_has_66 : decode cX12_has 66 = .ok (.iload_n 1, 1) := by decide +kernel
theorem dX12_has_67 : decode cX12_has 67 = .ok (.iaload, 1) := by decide +kernel
theorem dX12_has_68 : decode cX12_has 68 = .ok (.ireturn, 1) := by decide +kernel
theorem dX12_miss_0 : decode cX12_miss 0 = .ok (.aload_n 0, 1) := by decide +kernel
theorem dX12_miss_1 : decode cX12_miss 1 = .ok (.iconst 0, 1) := by decide +kernel
theorem dX12_miss_2 : decode cX12_miss 2 = .ok (.putfield 139, 3) := by decide +kernel
theorem dX12_miss_5 : decode cX12_miss 5 = .ok (.aload_n 0, 1) := by decide +kernel
theorem dX12_miss_6 : decode cX12_miss 6 = .ok (.iload_n 1, 1) := by decide +kernel
theorem dX12_miss_7 : decode cX12_miss 7 = .ok (.invokevirtual 384, 3) := by decide +kernel
theorem dX12_miss_10 : decode cX12_miss 10 = .ok (.ifCond .eq 10, 3) := by decide +kernel
theorem dX12_miss_13 : decode cX12_miss 13 = .ok (.iload_n 2, 1) := by decide +kernel
theorem dX12_miss_14 : decode cX12_miss 14 = .ok (.invokestatic 378, 3) := by decide +kernel
theorem dX12_miss_17 : decode cX12_miss 17 = .ok (.ifCond .ne 9, 3) := by decide +kernel
theorem dX12_miss_20 : decode cX12_miss 20 = .ok (.aload_n 0, 1) := by decide +kernel
theorem dX12_miss_21 : decode cX12_miss 21 = .ok (.iconst 1, 1) := by decide +kernel
theorem dX12_miss_22 : decode cX12_miss 22 = .ok (.invokevirtual 287, 3) := by decide +kernel
theorem dX12_miss_25 : decode cX12_miss 25 = .ok (.ireturn, 1) := by decide +kernel
theorem dX12_miss_26 : decode cX12_miss 26 = .ok (.aload_n 0, 1) := by decide +kernel
theorem dX12_miss_27 : decode cX12_miss 27 = .ok (.getfield 83, 3) := by decide +kernel
theorem dX12_miss_30 : decode cX12_miss 30 = .ok (.iload_n 1, 1) := by decide +kernel
theorem dX12_miss_31 : decode cX12_miss 31 = .ok (.iaload, 1) := by decide +kernel
theorem dX12_miss_32 : decode cX12_miss 32 = .ok (.iload_n 2, 1) := by decide +kernel
theorem dX12_miss_33 : decode cX12_miss 33 = .ok (.if_icmp .ne 9, 3) := by decide +kernel
theorem dX12_miss_36 : decode cX12_miss 36 = .ok (.aload_n 0, 1) := by decide +kernel
theorem dX12_miss_37 : decode cX12_miss 37 = .ok (.iconst 1, 1) := by decide +kernel
theorem dX12_miss_38 : decode cX12_miss 38 = .ok (.invokevirtual 393, 3) := by decide +kernel
theorem dX12_miss_41 : decode cX12_miss 41 = .ok (.ireturn, 1) := by decide +kernel
theorem dX12_miss_42 : decode cX12_miss 42 = .ok (.aload_n 0, 1) := by decide +kernel
theorem dX12_miss_43 : decode cX12_miss 43 = .ok (.invokevirtual 396, 3) := by decide +kernel
theorem dX12_miss_46 : decode cX12_miss 46 = .ok (.aload_n 0, 1) := by decide +kernel
theorem dX12_miss_47 : decode cX12_miss 47 = .ok (.getfield 83, 3) := by decide +kernel
theorem dX12_miss_50 : decode cX12_miss 50 = .ok (.iload_n 1, 1) := by decide +kernel
theorem dX12_miss_51 : decode cX12_miss 51 = .ok (.iaload, 1) := by decide +kernel
theorem dX12_miss_52 : decode cX12_miss 52 = .ok (.istore_n 3, 1) := by decide +kernel
theorem dX12_miss_53 : decode cX12_miss 53 = .ok (.aload_n 0, 1) := by decide +kernel
theorem dX12_miss_54 : decode cX12_miss 54 = .ok (.getfield 83, 3) := by decide +kernel
theorem dX12_miss_57 : decode cX12_miss 57 = .ok (.iload_n 1, 1) := by decide +kernel
theorem dX12_miss_58 : decode cX12_miss 58 = .ok (.iload_n 2, 1) := by decide +kernel
theorem dX12_miss_59 : decode cX12_miss 59 = .ok (.iastore, 1) := by decide +kernel
theorem dX12_miss_60 : decode cX12_miss 60 = .ok (.iload_n 3, 1) := by decide +kernel
theorem dX12_miss_61 : decode cX12_miss 61 = .ok (.ireturn, 1) := by decide +kernel
theorem dX12_deny_0 : decode cX12_deny 0 = .ok (.aload_n 0, 1) := by decide +kernel
theorem dX12_deny_1 : decode cX12_deny 1 = .ok (.iconst 0, 1) := by decide +kernel
theorem dX12_deny_2 : decode cX12_deny 2 = .ok (.putfield 139, 3) := by decide +kernel
theorem dX12_deny_5 : decode cX12_deny 5 = .ok (.aload_n 0, 1) := by decide +kernel
theorem dX12_deny_6 : decode cX12_deny 6 = .ok (.iload_n 1, 1) := by decide +kernel
theorem dX12_deny_7 : decode cX12_deny 7 = .ok (.invokevirtual 381, 3) := by decide +kernel
theorem dX12_deny_10 : decode cX12_deny 10 = .ok (.ifCond .ne 9, 3) := by decide +kernel
theorem dX12_deny_13 : decode cX12_deny 13 = .ok (.aload_n 0, 1) := by decide +kernel
theorem dX12_deny_14 : decode cX12_deny 14 = .ok (.iconst 1, 1) := by decide +kernel
theorem dX12_deny_15 : decode cX12_deny 15 = .ok (.invokevirtual 402, 3) := by decide +kernel
theorem dX12_deny_18 : decode cX12_deny 18 = .ok (.ireturn, 1) := by decide +kernel
theorem dX12_deny_19 : decode cX12_deny 19 = .ok (.aload_n 0, 1) := by decide +kernel
theorem dX12_deny_20 : decode cX12_deny 20 = .ok (.getfield 304, 3) := by decide +kernel
theorem dX12_deny_23 : decode cX12_deny 23 = .ok (.iload_n 1, 1) := by decide +kernel
theorem dX12_deny_24 : decode cX12_deny 24 = .ok (.invokestatic 263, 3) := by decide +kernel
theorem dX12_deny_27 : decode cX12_deny 27 = .ok (.iload_n 2, 1) := by decide +kernel
theorem dX12_deny_28 : decode cX12_deny 28 = .ok (.if_icmp .ne 15, 3) := by decide +kernel
theorem dX12_deny_31 : decode cX12_deny 31 = .ok (.aload_n 0, 1) := by decide +kernel
theorem dX12_deny_32 : decode cX12_deny 32 = .ok (.getfield 70, 3) := by decide +kernel
theorem dX12_deny_35 : decode cX12_deny 35 = .ok (.iconst 1, 1) := by decide +kernel
theorem dX12_deny_36 : decode cX12_deny 36 = .ok (.dup2, 1) := by decide +kernel
theorem dX12_deny_37 : decode cX12_deny 37 = .ok (.iaload, 1) := by decide +kernel
theorem dX12_deny_38 : decode cX12_deny 38 = .ok (.iconst 1, 1) := by decide +kernel
theorem dX12_deny_39 : decode cX12_deny 39 = .ok (.iadd, 1) := by decide +kernel
theorem dX12_deny_40 : decode cX12_deny 40 = .ok (.iastore, 1) := by decide +kernel
theorem dX12_deny_41 : decode cX12_deny 41 = .ok (.iconst 0, 1) := by decide +kernel
theorem dX12_deny_42 : decode cX12_deny 42 = .ok (.ireturn, 1) := by decide +kernel
theorem dX12_deny_43 : decode cX12_deny 43 = .ok (.aload_n 0, 1) := by decide +kernel
theorem dX12_deny_44 : decode cX12_deny 44 = .ok (.invokevirtual 396, 3) := by decide +kernel
theorem dX12_deny_47 : decode cX12_deny 47 = .ok (.aload_n 0, 1) := by decide +kernel
theorem dX12_deny_48 : decode cX12_deny 48 = .ok (.dup, 1) := by decide +kernel
theorem dX12_deny_49 : decode cX12_deny 49 = .ok (.getfield 304, 3) := by decide +kernel
theorem dX12_deny_52 : decode cX12_deny 52 = .ok (.iconst 1, 1) := by decide +kernel
theorem dX12_deny_53 : decode cX12_deny 53 = .ok (.iload_n 1, 1) := by decide +kernel
theorem dX12_deny_54 : decode cX12_deny 54 = .ok (.ishl, 1) := by decide +kernel
theorem dX12_deny_55 : decode cX12_deny 55 = .ok (.ixor, 1) := by decide +kernel
theorem dX12_deny_56 : decode cX12_deny 56 = .ok (.putfield 304, 3) := by decide +kernel
theorem dX12_deny_59 : decode cX12_deny 59 = .ok (.iconst 1, 1) := by decide +kernel
theorem dX12_deny_60 : decode cX12_deny 60 = .ok (.ireturn, 1) := by decide +kernel
theorem dX12_bridge_0 : decode cX12_bridge 0 = .ok (.aload_n 0, 1) := by decide +kernel
theorem dX12_bridge_1 : decode cX12_bridge 1 = .ok (.iconst 0, 1) := by decide +kernel
theorem dX12_bridge_2 : decode cX12_bridge 2 = .ok (.putfield 139, 3) := by decide +kernel
theorem dX12_bridge_5 : decode cX12_bridge 5 = .ok (.iload_n 1, 1) := by decide +kernel
theorem dX12_bridge_6 : decode cX12_bridge 6 = .ok (.i2l, 1) := by decide +kernel
theorem dX12_bridge_7 : decode cX12_bridge 7 = .ok (.lconst 1, 1) := by decide +kernel
theorem dX12_bridge_8 : decode cX12_bridge 8 = .ok (.ldc2_w 405, 3) := by decide +kernel
theorem dX12_bridge_11 : decode cX12_bridge 11 = .ok (.invokestatic 142, 3) := by decide +kernel
theorem dX12_bridge_14 : decode cX12_bridge 14 = .ok (.ifCond .ne 9, 3) := by decide +kernel
theorem dX12_bridge_17 : decode cX12_bridge 17 = .ok (.aload_n 0, 1) := by decide +kernel
theorem dX12_bridge_18 : decode cX12_bridge 18 = .ok (.iconst 1, 1) := by decide +kernel
theorem dX12_bridge_19 : decode cX12_bridge 19 = .ok (.invokevirtual 393, 3) := by decide +kernel
theorem dX12_bridge_22 : decode cX12_bridge 22 = .ok (.ireturn, 1) := by decide +kernel
theorem dX12_bridge_23 : decode cX12_bridge 23 = .ok (.aload_n 0, 1) := by decide +kernel
theorem dX12_bridge_24 : decode cX12_bridge 24 = .ok (.invokevirtual 396, 3) := by decide +kernel
theorem dX12_bridge_27 : decode cX12_bridge 27 = .ok (.aload_n 0, 1) := by decide +kernel
theorem dX12_bridge_28 : decode cX12_bridge 28 = .ok (.getfield 136, 3) := by decide +kernel
theorem dX12_bridge_31 : decode cX12_bridge 31 = .ok (.istore_n 2, 1) := by decide +kernel
theorem dX12_bridge_32 : decode cX12_bridge 32 = .ok (.aload_n 0, 1) := by decide +kernel
theorem dX12_bridge_33 : decode cX12_bridge 33 = .ok (.iload_n 1, 1) := by decide +kernel
theorem dX12_bridge_34 : decode cX12_bridge 34 = .ok (.putfield 136, 3) := by decide +kernel
theorem dX12_bridge_37 : decode cX12_bridge 37 = .ok (.iload_n 2, 1) := by decide +kernel
theorem dX12_bridge_38 : decode cX12_bridge 38 = .ok (.ireturn, 1) := by decide +kernel
theorem dX12_undo_0 : decode cX12_undo 0 = .ok (.aload_n 0, 1) := by decide +kernel
theorem dX12_undo_1 : decode cX12_undo 1 = .ok (.iconst 0, 1) := by decide +kernel
theorem dX12_undo_2 : decode cX12_undo 2 = .ok (.putfield 139, 3) := by decide +kernel
theorem dX12_undo_5 : decode cX12_undo 5 = .ok (.aload_n 0, 1) := by decide +kernel
theorem dX12_undo_6 : decode cX12_undo 6 = .ok (.getfield 307, 3) := by decide +kernel
theorem dX12_undo_9 : decode cX12_undo 9 = .ok (.ifCond .ne 5, 3) := by decide +kernel
theorem dX12_undo_12 : decode cX12_undo 12 = .ok (.iconst (-1), 1) := by decide +kernel
theorem dX12_undo_13 : decode cX12_undo 13 = .ok (.ireturn, 1) := by decide +kernel
theorem dX12_undo_14 : decode cX12_undo 14 = .ok (.aload_n 0, 1) := by decide +kernel
theorem dX12_undo_15 : decode cX12_undo 15 = .ok (.dup, 1) := by decide +kernel
theorem dX12_undo_16 : decode cX12_undo 16 = .ok (.getfield 307, 3) := by decide +kernel
theorem dX12_undo_19 : decode cX12_undo 19 = .ok (.iconst 1, 1) := by decide +kernel
theorem dX12_undo_20 : decode cX12_undo 20 = .ok (.isub, 1) := by decide +kernel
theorem dX12_undo_21 : decode cX12_undo 21 = .ok (.putfield 307, 3) := by decide +kernel
theorem dX12_undo_24 : decode cX12_undo 24 = .ok (.aload_n 0, 1) := by decide +kernel
theorem dX12_undo_25 : decode cX12_undo 25 = .ok (.aload_n 0, 1) := by decide +kernel
theorem dX12_undo_26 : decode cX12_undo 26 = .ok (.getfield 90, 3) := by decide +kernel
theorem dX12_undo_29 : decode cX12_undo 29 = .ok (.bipush 36, 2) := by decide +kernel
theorem dX12_undo_31 : decode cX12_undo 31 = .ok (.aload_n 0, 1) := by decide +kernel
theorem dX12_undo_32 : decode cX12_undo 32 = .ok (.getfield 307, 3) := by decide +kernel
theorem dX12_undo_35 : decode cX12_undo 35 = .ok (.imul, 1) := by decide +kernel
theorem dX12_undo_36 : decode cX12_undo 36 = .ok (.invokevirtual 407, 3) := by decide +kernel
theorem dX12_undo_39 : decode cX12_undo 39 = .ok (.aload_n 0, 1) := by decide +kernel
theorem dX12_undo_40 : decode cX12_undo 40 = .ok (.getfield 307, 3) := by decide +kernel
theorem dX12_undo_43 : decode cX12_undo 43 = .ok (.ireturn, 1) := by decide +kernel
theorem dX12_crossing_0 : decode cX12_crossing 0 = .ok (.aload_n 0, 1) := by decide +kernel
theorem dX12_crossing_1 : decode cX12_crossing 1 = .ok (.iconst 0, 1) := by decide +kernel
theorem dX12_crossing_2 : decode cX12_crossing 2 = .ok (.putfield 139, 3) := by decide +kernel
theorem dX12_crossing_5 : decode cX12_crossing 5 = .ok (.iload_n 1, 1) := by decide +kernel
theorem dX12_crossing_6 : decode cX12_crossing 6 = .ok (.i2l, 1) := by decide +kernel
theorem dX12_crossing_7 : decode cX12_crossing 7 = .ok (.lconst 1, 1) := by decide +kernel
theorem dX12_crossing_8 : decode cX12_crossing 8 = .ok (.ldc2_w 410, 3) := by decide +kernel
theorem dX12_crossing_11 : decode cX12_crossing 11 = .ok (.invokestatic 142, 3) := by decide +kernel
theorem dX12_crossing_14 : decode cX12_crossing 14 = .ok (.ifCond .ne 9, 3) := by decide +kernel
theorem dX12_crossing_17 : decode cX12_crossing 17 = .ok (.aload_n 0, 1) := by decide +kernel
theorem dX12_crossing_18 : decode cX12_crossing 18 = .ok (.iconst 1, 1) := by decide +kernel
theorem dX12_crossing_19 : decode cX12_crossing 19 = .ok (.invokevirtual 287, 3) := by decide +kernel
theorem dX12_crossing_22 : decode cX12_crossing 22 = .ok (.ireturn, 1) := by decide +kernel
theorem dX12_crossing_23 : decode cX12_crossing 23 = .ok (.aload_n 0, 1) := by decide +kernel
theorem dX12_crossing_24 : decode cX12_crossing 24 = .ok (.aload_n 0, 1) := by decide +kernel
theorem dX12_crossing_25 : decode cX12_crossing 25 = .ok (.getfield 99, 3) := by decide +kernel
theorem dX12_crossing_28 : decode cX12_crossing 28 = .ok (.iconst 0, 1) := by decide +kernel
theorem dX12_crossing_29 : decode cX12_crossing 29 = .ok (.invokevirtual 387, 3) := by decide +kernel
theorem dX12_crossing_32 : decode cX12_crossing 32 = .ok (.aload_n 0, 1) := by decide +kernel
theorem dX12_crossing_33 : decode cX12_crossing 33 = .ok (.iload_n 1, 1) := by decide +kernel
theorem dX12_crossing_34 : decode cX12_crossing 34 = .ok (.invokevirtual 399, 3) := by decide +kernel
theorem dX12_crossing_37 : decode cX12_crossing 37 = .ok (.aload_n 0, 1) := by decide +kernel
theorem dX12_crossing_38 : decode cX12_crossing 38 = .ok (.getfield 302, 3) := by decide +kernel
theorem dX12_crossing_41 : decode cX12_crossing 41 = .ok (.istore_n 2, 1) := by decide +kernel
theorem dX12_crossing_42 : decode cX12_crossing 42 = .ok (.aload_n 0, 1) := by decide +kernel
theorem dX12_crossing_43 : decode cX12_crossing 43 = .ok (.aload_n 0, 1) := by decide +kernel
theorem dX12_crossing_44 : decode cX12_crossing 44 = .ok (.getfield 99, 3) := by decide +kernel
theorem dX12_crossing_47 : decode cX12_crossing 47 = .ok (.iconst 0, 1) := by decide +kernel
theorem dX12_crossing_48 : decode cX12_crossing 48 = .ok (.invokevirtual 407, 3) := by decide +kernel
theorem dX12_crossing_51 : decode cX12_crossing 51 = .ok (.iload_n 2, 1) := by decide +kernel
theorem dX12_crossing_52 : decode cX12_crossing 52 = .ok (.ireturn, 1) := by decide +kernel
theorem dX12_then_0 : decode cX12_then 0 = .ok (.aload_n 0, 1) := by decide +kernel
theorem dX12_then_1 : decode cX12_then 1 = .ok (.iconst 0, 1) := by decide +kernel
theorem dX12_then_2 : decode cX12_then 2 = .ok (.putfield 139, 3) := by decide +kernel
theorem dX12_then_5 : decode cX12_then 5 = .ok (.aload_n 0, 1) := by decide +kernel
theorem dX12_then_6 : decode cX12_then 6 = .ok (.iload_n 1, 1) := by decide +kernel
theorem dX12_then_7 : decode cX12_then 7 = .ok (.invokevirtual 384, 3) := by decide +kernel
theorem dX12_then_10 : decode cX12_then 10 = .ok (.ifCond .eq 12, 3) := by decide +kernel
theorem dX12_then_13 : decode cX12_then 13 = .ok (.iload_n 3, 1) := by decide +kernel
theorem dX12_then_14 : decode cX12_then 14 = .ok (.ifCond .lt 8, 3) := by decide +kernel
theorem dX12_then_17 : decode cX12_then 17 = .ok (.iload_n 3, 1) := by decide +kernel
theorem dX12_then_18 : decode cX12_then 18 = .ok (.iconst 1, 1) := by decide +kernel
theorem dX12_then_19 : decode cX12_then 19 = .ok (.if_icmp .le 9, 3) := by decide +kernel
theorem dX12_then_22 : decode cX12_then 22 = .ok (.aload_n 0, 1) := by decide +kernel
theorem dX12_then_23 : decode cX12_then 23 = .ok (.iconst 1, 1) := by decide +kernel
theorem dX12_then_24 : decode cX12_then 24 = .ok (.invokevirtual 287, 3) := by decide +kernel
theorem dX12_then_27 : decode cX12_then 27 = .ok (.ireturn, 1) := by decide +kernel
theorem dX12_then_28 : decode cX12_then 28 = .ok (.iload_n 2, 1) := by decide +kernel
theorem dX12_then_29 : decode cX12_then 29 = .ok (.i2l, 1) := by decide +kernel
theorem dX12_then_30 : decode cX12_then 30 = .ok (.lconst 0, 1) := by decide +kernel
theorem dX12_then_31 : decode cX12_then 31 = .ok (.ldc2_w 410, 3) := by decide +kernel
theorem dX12_then_34 : decode cX12_then 34 = .ok (.invokestatic 142, 3) := by decide +kernel
theorem dX12_then_37 : decode cX12_then 37 = .ok (.ifCond .ne 9, 3) := by decide +kernel
theorem dX12_then_40 : decode cX12_then 40 = .ok (.aload_n 0, 1) := by decide +kernel
theorem dX12_then_41 : decode cX12_then 41 = .ok (.iconst 2, 1) := by decide +kernel
theorem dX12_then_42 : decode cX12_then 42 = .ok (.invokevirtual 287, 3) := by decide +kernel
theorem dX12_then_45 : decode cX12_then 45 = .ok (.ireturn, 1) := by decide +kernel
theorem dX12_then_46 : decode cX12_then 46 = .ok (.aload_n 0, 1) := by decide +kernel
theorem dX12_then_47 : decode cX12_then 47 = .ok (.aload_n 0, 1) := by decide +kernel
theorem dX12_then_48 : decode cX12_then 48 = .ok (.getfield 99, 3) := by decide +kernel
theorem dX12_then_51 : decode cX12_then 51 = .ok (.iconst 0, 1) := by decide +kernel
theorem dX12_then_52 : decode cX12_then 52 = .ok (.invokevirtual 387, 3) := by decide +kernel
theorem dX12_then_55 : decode cX12_then 55 = .ok (.aload_n 0, 1) := by decide +kernel
theorem dX12_then_56 : decode cX12_then 56 = .ok (.iload_n 2, 1) := by decide +kernel
theorem dX12_then_57 : decode cX12_then 57 = .ok (.invokevirtual 399, 3) := by decide +kernel
theorem dX12_then_60 : decode cX12_then 60 = .ok (.iload_n 3, 1) := by decide +kernel
theorem dX12_then_61 : decode cX12_then 61 = .ok (.ifCond .ne 12, 3) := by decide +kernel
theorem dX12_then_64 : decode cX12_then 64 = .ok (.aload_n 0, 1) := by decide +kernel
theorem dX12_then_65 : decode cX12_then 65 = .ok (.getfield 86, 3) := by decide +kernel
theorem dX12_then_68 : decode cX12_then 68 = .ok (.iload_n 1, 1) := by decide +kernel
theorem dX12_then_69 : decode cX12_then 69 = .ok (.iaload, 1) := by decide +kernel
theorem dX12_then_70 : decode cX12_then 70 = .ok (.goto 9, 3) := by decide +kernel
theorem dX12_then_73 : decode cX12_then 73 = .ok (.aload_n 0, 1) := by decide +kernel
theorem dX12_then_74 : decode cX12_then 74 = .ok (.getfield 88, 3) := by decide +kernel
theorem dX12_then_77 : decode cX12_then 77 = .ok (.iload_n 1, 1) := by decide +kernel
theorem dX12_then_78 : decode cX12_then 78 = .ok (.iaload, 1) := by decide +kernel
theorem dX12_then_79 : decode cX12_then 79 = .ok (.istore 4, 2) := by decide +kernel
theorem dX12_then_81 : decode cX12_then 81 = .ok (.aload_n 0, 1) := by decide +kernel
theorem dX12_then_82 : decode cX12_then 82 = .ok (.aload_n 0, 1) := by decide +kernel
theorem dX12_then_83 : decode cX12_then 83 = .ok (.getfield 99, 3) := by decide +kernel
theorem dX12_then_86 : decode cX12_then 86 = .ok (.iconst 0, 1) := by decide +kernel
theorem dX12_then_87 : decode cX12_then 87 = .ok (.invokevirtual 407, 3) := by decide +kernel
theorem dX12_then_90 : decode cX12_then 90 = .ok (.iload 4, 2) := by decide +kernel
theorem dX12_then_92 : decode cX12_then 92 = .ok (.ireturn, 1) := by decide +kernel
theorem dX12_first_0 : decode cX12_first 0 = .ok (.aload_n 0, 1) := by decide +kernel
theorem dX12_first_1 : decode cX12_first 1 = .ok (.iconst 0, 1) := by decide +kernel
theorem dX12_first_2 : decode cX12_first 2 = .ok (.putfield 139, 3) := by decide +kernel
theorem dX12_first_5 : decode cX12_first 5 = .ok (.aload_n 0, 1) := by decide +kernel
theorem dX12_first_6 : decode cX12_first 6 = .ok (.iload_n 1, 1) := by decide +kernel
theorem dX12_first_7 : decode cX12_first 7 = .ok (.invokevirtual 384, 3) := by decide +kernel
theorem dX12_first_10 : decode cX12_first 10 = .ok (.ifCond .ne 9, 3) := by decide +kernel
theorem dX12_first_13 : decode cX12_first 13 = .ok (.aload_n 0, 1) := by decide +kernel
theorem dX12_first_14 : decode cX12_first 14 = .ok (.iconst 1, 1) := by decide +kernel
theorem dX12_first_15 : decode cX12_first 15 = .ok (.invokevirtual 287, 3) := by decide +kernel
theorem dX12_first_18 : decode cX12_first 18 = .ok (.ireturn, 1) := by decide +kernel
theorem dX12_first_19 : decode cX12_first 19 = .ok (.aload_n 0, 1) := by decide +kernel
theorem dX12_first_20 : decode cX12_first 20 = .ok (.aload_n 0, 1) := by decide +kernel
theorem dX12_first_21 : decode cX12_first 21 = .ok (.getfield 99, 3) := by decide +kernel
theorem dX12_first_24 : decode cX12_first 24 = .ok (.iconst 0, 1) := by decide +kernel
theorem dX12_first_25 : decode cX12_first 25 = .ok (.invokevirtual 387, 3) := by decide +kernel
theorem dX12_first_28 : decode cX12_first 28 = .ok (.iconst (-1), 1) := by decide +kernel
theorem dX12_first_29 : decode cX12_first 29 = .ok (.istore_n 2, 1) := by decide +kernel
theorem dX12_first_30 : decode cX12_first 30 = .ok (.iconst 1, 1) := by decide +kernel
theorem dX12_first_31 : decode cX12_first 31 = .ok (.istore_n 3, 1) := by decide +kernel
theorem dX12_first_32 : decode cX12_first 32 = .ok (.iload_n 3, 1) := by decide +kernel
theorem dX12_first_33 : decode cX12_first 33 = .ok (.bipush 60, 2) := by decide +kernel
theorem dX12_first_35 : decode cX12_first 35 = .ok (.if_icmp .gt 31, 3) := by decide +kernel
theorem dX12_first_38 : decode cX12_first 38 = .ok (.iload_n 2, 1) := by decide +kernel
theorem dX12_first_39 : decode cX12_first 39 = .ok (.iconst (-1), 1) := by decide +kernel
theorem dX12_first_40 : decode cX12_first 40 = .ok (.if_icmp .ne 26, 3) := by decide +kernel
theorem dX12_first_43 : decode cX12_first 43 = .ok (.aload_n 0, 1) := by decide +kernel
theorem dX12_first_44 : decode cX12_first 44 = .ok (.invokevirtual 360, 3) := by decide +kernel
theorem dX12_first_47 : decode cX12_first 47 = .ok (.aload_n 0, 1) := by decide +kernel
theorem dX12_first_48 : decode cX12_first 48 = .ok (.getfield 302, 3) := by decide +kernel
theorem dX12_first_51 : decode cX12_first 51 = .ok (.iload_n 1, 1) := by decide +kernel
theorem dX12_first_52 : decode cX12_first 52 = .ok (.invokestatic 263, 3) := by decide +kernel
theorem dX12_first_55 : decode cX12_first 55 = .ok (.ifCond .eq 5, 3) := by decide +kernel
theorem dX12_first_58 : decode cX12_first 58 = .ok (.iload_n 3, 1) := by decide +kernel
theorem dX12_first_59 : decode cX12_first 59 = .ok (.istore_n 2, 1) := by decide +kernel
theorem dX12_first_60 : decode cX12_first 60 = .ok (.iinc 3 1, 3) := by decide +kernel
theorem dX12_first_63 : decode cX12_first 63 = .ok (.goto (-31), 3) := by decide +kernel
theorem dX12_first_66 : decode cX12_first 66 = .ok (.aload_n 0, 1) := by decide +kernel
theorem dX12_first_67 : decode cX12_first 67 = .ok (.aload_n 0, 1) := by decide +kernel
theorem dX12_first_68 : decode cX12_first 68 = .ok (.getfield 99, 3) := by decide +kernel
theorem dX12_first_71 : decode cX12_first 71 = .ok (.iconst 0, 1) := by decide +kernel
theorem dX12_first_72 : decode cX12_first 72 = .ok (.invokevirtual 407, 3) := by decide +kernel
theorem dX12_first_75 : decode cX12_first 75 = .ok (.iload_n 2, 1) := by decide +kernel
theorem dX12_first_76 : decode cX12_first 76 = .ok (.ireturn, 1) := by decide +kernel
theorem dX12_waiting_0 : decode cX12_waiting 0 = .ok (.aload_n 0, 1) := by decide +kernel
theorem dX12_waiting_1 : decode cX12_waiting 1 = .ok (.iconst 0, 1) := by decide +kernel
theorem dX12_waiting_2 : decode cX12_waiting 2 = .ok (.putfield 139, 3) := by decide +kernel
theorem dX12_waiting_5 : decode cX12_waiting 5 = .ok (.aload_n 0, 1) := by decide +kernel
theorem dX12_waiting_6 : decode cX12_waiting 6 = .ok (.iload_n 1, 1) := by decide +kernel
theorem dX12_waiting_7 : decode cX12_waiting 7 = .ok (.invokevirtual 384, 3) := by decide +kernel
theorem dX12_waiting_10 : decode cX12_waiting 10 = .ok (.ifCond .ne 9, 3) := by decide +kernel
theorem dX12_waiting_13 : decode cX12_waiting 13 = .ok (.aload_n 0, 1) := by decide +kernel
theorem dX12_waiting_14 : decode cX12_waiting 14 = .ok (.iconst 1, 1) := by decide +kernel
theorem dX12_waiting_15 : decode cX12_waiting 15 = .ok (.invokevirtual 287, 3) := by decide +kernel
theorem dX12_waiting_18 : decode cX12_waiting 18 = .ok (.ireturn, 1) := by decide +kernel
theorem dX12_waiting_19 : decode cX12_waiting 19 = .ok (.iload_n 2, 1) := by decide +kernel
theorem dX12_waiting_20 : decode cX12_waiting 20 = .ok (.i2l, 1) := by decide +kernel
theorem dX12_waiting_21 : decode cX12_waiting 21 = .ok (.lconst 0, 1) := by decide +kernel
theorem dX12_waiting_22 : decode cX12_waiting 22 = .ok (.ldc2_w 410, 3) := by decide +kernel
theorem dX12_waiting_25 : decode cX12_waiting 25 = .ok (.invokestatic 142, 3) := by decide +kernel
theorem dX12_waiting_28 : decode cX12_waiting 28 = .ok (.ifCond .ne 9, 3) := by decide +kernel
theorem dX12_waiting_31 : decode cX12_waiting 31 = .ok (.aload_n 0, 1) := by decide +kernel
theorem dX12_waiting_32 : decode cX12_waiting 32 = .ok (.iconst 2, 1) := by decide +kernel
theorem dX12_waiting_33 : decode cX12_waiting 33 = .ok (.invokevirtual 287, 3) := by decide +kernel
theorem dX12_waiting_36 : decode cX12_waiting 36 = .ok (.ireturn, 1) := by decide +kernel
theorem dX12_waiting_37 : decode cX12_waiting 37 = .ok (.aload_n 0, 1) := by decide +kernel
theorem dX12_waiting_38 : decode cX12_waiting 38 = .ok (.aload_n 0, 1) := by decide +kernel
theorem dX12_waiting_39 : decode cX12_waiting 39 = .ok (.getfield 99, 3) := by decide +kernel
theorem dX12_waiting_42 : decode cX12_waiting 42 = .ok (.iconst 0, 1) := by decide +kernel
theorem dX12_waiting_43 : decode cX12_waiting 43 = .ok (.invokevirtual 387, 3) := by decide +kernel
theorem dX12_waiting_46 : decode cX12_waiting 46 = .ok (.iconst 0, 1) := by decide +kernel
theorem dX12_waiting_47 : decode cX12_waiting 47 = .ok (.istore_n 3, 1) := by decide +kernel
theorem dX12_waiting_48 : decode cX12_waiting 48 = .ok (.iconst 0, 1) := by decide +kernel
theorem dX12_waiting_49 : decode cX12_waiting 49 = .ok (.istore 4, 2) := by decide +kernel
theorem dX12_waiting_51 : decode cX12_waiting 51 = .ok (.iload 4, 2) := by decide +kernel
theorem dX12_waiting_53 : decode cX12_waiting 53 = .ok (.iload_n 2, 1) := by decide +kernel
theorem dX12_waiting_54 : decode cX12_waiting 54 = .ok (.if_icmp .ge 31, 3) := by decide +kernel
theorem dX12_waiting_57 : decode cX12_waiting 57 = .ok (.aload_n 0, 1) := by decide +kernel
theorem dX12_waiting_58 : decode cX12_waiting 58 = .ok (.invokevirtual 360, 3) := by decide +kernel
theorem dX12_waiting_61 : decode cX12_waiting 61 = .ok (.iload_n 3, 1) := by decide +kernel
theorem dX12_waiting_62 : decode cX12_waiting 62 = .ok (.aload_n 0, 1) := by decide +kernel
theorem dX12_waiting_63 : decode cX12_waiting 63 = .ok (.getfield 348, 3) := by decide +kernel
theorem dX12_waiting_66 : decode cX12_waiting 66 = .ok (.aload_n 0, 1) := by decide +kernel
theorem dX12_waiting_67 : decode cX12_waiting 67 = .ok (.getfield 302, 3) := by decide +kernel
theorem dX12_waiting_70 : decode cX12_waiting 70 = .ok (.iconst (-1), 1) := by decide +kernel
theorem dX12_waiting_71 : decode cX12_waiting 71 = .ok (.ixor, 1) := by decide +kernel
theorem dX12_waiting_72 : decode cX12_waiting 72 = .ok (.iand, 1) := by decide +kernel
theorem dX12_waiting_73 : decode cX12_waiting 73 = .ok (.iload_n 1, 1) := by decide +kernel
theorem dX12_waiting_74 : decode cX12_waiting 74 = .ok (.ishr, 1) := by decide +kernel
theorem dX12_waiting_75 : decode cX12_waiting 75 = .ok (.iconst 1, 1) := by decide +kernel
theorem dX12_waiting_76 : decode cX12_waiting 76 = .ok (.iand, 1) := by decide +kernel
theorem dX12_waiting_77 : decode cX12_waiting 77 = .ok (.iadd, 1) := by decide +kernel
theorem dX12_waiting_78 : decode cX12_waiting 78 = .ok (.istore_n 3, 1) := by decide +kernel
theorem dX12_waiting_79 : decode cX12_waiting 79 = .ok (.iinc 4 1, 3) := by decide +kernel
theorem dX12_waiting_82 : decode cX12_waiting 82 = .ok (.goto (-31), 3) := by decide +kernel
theorem dX12_waiting_85 : decode cX12_waiting 85 = .ok (.aload_n 0, 1) := by decide +kernel
theorem dX12_waiting_86 : decode cX12_waiting 86 = .ok (.aload_n 0, 1) := by decide +kernel
theorem dX12_waiting_87 : decode cX12_waiting 87 = .ok (.getfield 99, 3) := by decide +kernel
theorem dX12_waiting_90 : decode cX12_waiting 90 = .ok (.iconst 0, 1) := by decide +kernel
theorem dX12_waiting_91 : decode cX12_waiting 91 = .ok (.invokevirtual 407, 3) := by decide +kernel
theorem dX12_waiting_94 : decode cX12_waiting 94 = .ok (.iload_n 3, 1) := by decide +kernel
theorem dX12_waiting_95 : decode cX12_waiting 95 = .ok (.ireturn, 1) := by decide +kernel
theorem dX12_times_0 : decode cX12_times 0 = .ok (.aload_n 0, 1) := by decide +kernel
theorem dX12_times_1 : decode cX12_times 1 = .ok (.iconst 0, 1) := by decide +kernel
theorem dX12_times_2 : decode cX12_times 2 = .ok (.putfield 139, 3) := by decide +kernel
theorem dX12_times_5 : decode cX12_times 5 = .ok (.aload_n 0, 1) := by decide +kernel
theorem dX12_times_6 : decode cX12_times 6 = .ok (.iload_n 1, 1) := by decide +kernel
theorem dX12_times_7 : decode cX12_times 7 = .ok (.invokevirtual 384, 3) := by decide +kernel
theorem dX12_times_10 : decode cX12_times 10 = .ok (.ifCond .ne 9, 3) := by decide +kernel
theorem dX12_times_13 : decode cX12_times 13 = .ok (.aload_n 0, 1) := by decide +kernel
theorem dX12_times_14 : decode cX12_times 14 = .ok (.iconst 1, 1) := by decide +kernel
theorem dX12_times_15 : decode cX12_times 15 = .ok (.invokevirtual 287, 3) := by decide +kernel
theorem dX12_times_18 : decode cX12_times 18 = .ok (.ireturn, 1) := by decide +kernel
theorem dX12_times_19 : decode cX12_times 19 = .ok (.iload_n 2, 1) := by decide +kernel
theorem dX12_times_20 : decode cX12_times 20 = .ok (.i2l, 1) := by decide +kernel
theorem dX12_times_21 : decode cX12_times 21 = .ok (.lconst 0, 1) := by decide +kernel
theorem dX12_times_22 : decode cX12_times 22 = .ok (.ldc2_w 410, 3) := by decide +kernel
theorem dX12_times_25 : decode cX12_times 25 = .ok (.invokestatic 142, 3) := by decide +kernel
theorem dX12_times_28 : decode cX12_times 28 = .ok (.ifCond .ne 9, 3) := by decide +kernel
theorem dX12_times_31 : decode cX12_times 31 = .ok (.aload_n 0, 1) := by decide +kernel
theorem dX12_times_32 : decode cX12_times 32 = .ok (.iconst 2, 1) := by decide +kernel
theorem dX12_times_33 : decode cX12_times 33 = .ok (.invokevirtual 287, 3) := by decide +kernel
theorem dX12_times_36 : decode cX12_times 36 = .ok (.ireturn, 1) := by decide +kernel
theorem dX12_times_37 : decode cX12_times 37 = .ok (.aload_n 0, 1) := by decide +kernel
theorem dX12_times_38 : decode cX12_times 38 = .ok (.aload_n 0, 1) := by decide +kernel
theorem dX12_times_39 : decode cX12_times 39 = .ok (.getfield 99, 3) := by decide +kernel
theorem dX12_times_42 : decode cX12_times 42 = .ok (.iconst 0, 1) := by decide +kernel
theorem dX12_times_43 : decode cX12_times 43 = .ok (.invokevirtual 387, 3) := by decide +kernel
theorem dX12_times_46 : decode cX12_times 46 = .ok (.iconst 0, 1) := by decide +kernel
theorem dX12_times_47 : decode cX12_times 47 = .ok (.istore_n 3, 1) := by decide +kernel
theorem dX12_times_48 : decode cX12_times 48 = .ok (.iconst 0, 1) := by decide +kernel
theorem dX12_times_49 : decode cX12_times 49 = .ok (.istore 4, 2) := by decide +kernel
theorem dX12_times_51 : decode cX12_times 51 = .ok (.iload 4, 2) := by decide +kernel
theorem dX12_times_53 : decode cX12_times 53 = .ok (.iload_n 2, 1) := by decide +kernel
theorem dX12_times_54 : decode cX12_times 54 = .ok (.if_icmp .ge 24, 3) := by decide +kernel
theorem dX12_times_57 : decode cX12_times 57 = .ok (.aload_n 0, 1) := by decide +kernel
theorem dX12_times_58 : decode cX12_times 58 = .ok (.invokevirtual 360, 3) := by decide +kernel
theorem dX12_times_61 : decode cX12_times 61 = .ok (.iload_n 3, 1) := by decide +kernel
theorem dX12_times_62 : decode cX12_times 62 = .ok (.aload_n 0, 1) := by decide +kernel
theorem dX12_times_63 : decode cX12_times 63 = .ok (.getfield 302, 3) := by decide +kernel
theorem dX12_times_66 : decode cX12_times 66 = .ok (.iload_n 1, 1) := by decide +kernel
theorem dX12_times_67 : decode cX12_times 67 = .ok (.ishr, 1) := by decide +kernel
theorem dX12_times_68 : decode cX12_times 68 = .ok (.iconst 1, 1) := by decide +kernel
theorem dX12_times_69 : decode cX12_times 69 = .ok (.iand, 1) := by decide +kernel
theorem dX12_times_70 : decode cX12_times 70 = .ok (.iadd, 1) := by decide +kernel
theorem dX12_times_71 : decode cX12_times 71 = .ok (.istore_n 3, 1) := by decide +kernel
theorem dX12_times_72 : decode cX12_times 72 = .ok (.iinc 4 1, 3) := by decide +kernel
theorem dX12_times_75 : decode cX12_times 75 = .ok (.goto (-24), 3) := by decide +kernel
theorem dX12_times_78 : decode cX12_times 78 = .ok (.aload_n 0, 1) := by decide +kernel
theorem dX12_times_79 : decode cX12_times 79 = .ok (.aload_n 0, 1) := by decide +kernel
theorem dX12_times_80 : decode cX12_times 80 = .ok (.getfield 99, 3) := by decide +kernel
theorem dX12_times_83 : decode cX12_times 83 = .ok (.iconst 0, 1) := by decide +kernel
theorem dX12_times_84 : decode cX12_times 84 = .ok (.invokevirtual 407, 3) := by decide +kernel
theorem dX12_times_87 : decode cX12_times 87 = .ok (.iload_n 3, 1) := by decide +kernel
theorem dX12_times_88 : decode cX12_times 88 = .ok (.ireturn, 1) := by decide +kernel
theorem dX12_fullest_0 : decode cX12_fullest 0 = .ok (.aload_n 0, 1) := by decide +kernel
theorem dX12_fullest_1 : decode cX12_fullest 1 = .ok (.iconst 0, 1) := by decide +kernel
theorem dX12_fullest_2 : decode cX12_fullest 2 = .ok (.putfield 139, 3) := by decide +kernel
theorem dX12_fullest_5 : decode cX12_fullest 5 = .ok (.iload_n 2, 1) := by decide +kernel
theorem dX12_fullest_6 : decode cX12_fullest 6 = .ok (.ifCond .lt 8, 3) := by decide +kernel
theorem dX12_fullest_9 : decode cX12_fullest 9 = .ok (.iload_n 2, 1) := by decide +kernel
theorem dX12_fullest_10 : decode cX12_fullest 10 = .ok (.iconst 1, 1) := by decide +kernel
theorem dX12_fullest_11 : decode cX12_fullest 11 = .ok (.if_icmp .le 9, 3) := by decide +kernel
theorem dX12_fullest_14 : decode cX12_fullest 14 = .ok (.aload_n 0, 1) := by decide +kernel
theorem dX12_fullest_15 : decode cX12_fullest 15 = .ok (.iconst 1, 1) := by decide +kernel
theorem dX12_fullest_16 : decode cX12_fullest 16 = .ok (.invokevirtual 287, 3) := by decide +kernel
theorem dX12_fullest_19 : decode cX12_fullest 19 = .ok (.ireturn, 1) := by decide +kernel
theorem dX12_fullest_20 : decode cX12_fullest 20 = .ok (.iload_n 1, 1) := by decide +kernel
theorem dX12_fullest_21 : decode cX12_fullest 21 = .ok (.i2l, 1) := by decide +kernel
theorem dX12_fullest_22 : decode cX12_fullest 22 = .ok (.lconst 1, 1) := by decide +kernel
theorem dX12_fullest_23 : decode cX12_fullest 23 = .ok (.ldc2_w 410, 3) := by decide +kernel
theorem dX12_fullest_26 : decode cX12_fullest 26 = .ok (.invokestatic 142, 3) := by decide +kernel
theorem dX12_fullest_29 : decode cX12_fullest 29 = .ok (.ifCond .ne 9, 3) := by decide +kernel
theorem dX12_fullest_32 : decode cX12_fullest 32 = .ok (.aload_n 0, 1) := by decide +kernel
theorem dX12_fullest_33 : decode cX12_fullest 33 = .ok (.iconst 2, 1) := by decide +kernel
theorem dX12_fullest_34 : decode cX12_fullest 34 = .ok (.invokevirtual 287, 3) := by decide +kernel
theorem dX12_fullest_37 : decode cX12_fullest 37 = .ok (.ireturn, 1) := by decide +kernel
theorem dX12_fullest_38 : decode cX12_fullest 38 = .ok (.aload_n 0, 1) := by decide +kernel
theorem dX12_fullest_39 : decode cX12_fullest 39 = .ok (.aload_n 0, 1) := by decide +kernel
theorem dX12_fullest_40 : decode cX12_fullest 40 = .ok (.getfield 99, 3) := by decide +kernel
theorem dX12_fullest_43 : decode cX12_fullest 43 = .ok (.iconst 0, 1) := by decide +kernel
theorem dX12_fullest_44 : decode cX12_fullest 44 = .ok (.invokevirtual 387, 3) := by decide +kernel
theorem dX12_fullest_47 : decode cX12_fullest 47 = .ok (.iconst (-1), 1) := by decide +kernel
theorem dX12_fullest_48 : decode cX12_fullest 48 = .ok (.istore_n 3, 1) := by decide +kernel
theorem dX12_fullest_49 : decode cX12_fullest 49 = .ok (.iconst (-1), 1) := by decide +kernel
theorem dX12_fullest_50 : decode cX12_fullest 50 = .ok (.istore 4, 2) := by decide +kernel
theorem dX12_fullest_52 : decode cX12_fullest 52 = .ok (.iconst 1, 1) := by decide +kernel
theorem dX12_fullest_53 : decode cX12_fullest 53 = .ok (.istore 5, 2) := by decide +kernel
theorem dX12_fullest_55 : decode cX12_fullest 55 = .ok (.iload 5, 2) := by decide +kernel
theorem dX12_fullest_57 : decode cX12_fullest 57 = .ok (.iload_n 1, 1) := by decide +kernel
theorem dX12_fullest_58 : decode cX12_fullest 58 = .ok (.if_icmp .gt 40, 3) := by decide +kernel
theorem dX12_fullest_61 : decode cX12_fullest 61 = .ok (.aload_n 0, 1) := by decide +kernel
theorem dX12_fullest_62 : decode cX12_fullest 62 = .ok (.invokevirtual 360, 3) := by decide +kernel
theorem dX12_fullest_65 : decode cX12_fullest 65 = .ok (.aload_n 0, 1) := by decide +kernel
theorem dX12_fullest_66 : decode cX12_fullest 66 = .ok (.getfield 302, 3) := by decide +kernel
theorem dX12_fullest_69 : decode cX12_fullest 69 = .ok (.invokestatic 357, 3) := by decide +kernel
theorem dX12_fullest_72 : decode cX12_fullest 72 = .ok (.iload 4, 2) := by decide +kernel
theorem dX12_fullest_74 : decode cX12_fullest 74 = .ok (.if_icmp .gt 6, 3) := by decide +kernel
theorem dX12_fullest_77 : decode cX12_fullest 77 = .ok (.goto 15, 3) := by decide +kernel
theorem dX12_fullest_80 : decode cX12_fullest 80 = .ok (.iload 5, 2) := by decide +kernel
theorem dX12_fullest_82 : decode cX12_fullest 82 = .ok (.istore_n 3, 1) := by decide +kernel
theorem dX12_fullest_83 : decode cX12_fullest 83 = .ok (.aload_n 0, 1) := by decide +kernel
theorem dX12_fullest_84 : decode cX12_fullest 84 = .ok (.getfield 302, 3) := by decide +kernel
theorem dX12_fullest_87 : decode cX12_fullest 87 = .ok (.invokestatic 357, 3) := by decide +kernel
theorem dX12_fullest_90 : decode cX12_fullest 90 = .ok (.istore 4, 2) := by decide +kernel
theorem dX12_fullest_92 : decode cX12_fullest 92 = .ok (.iinc 5 1, 3) := by decide +kernel
theorem dX12_fullest_95 : decode cX12_fullest 95 = .ok (.goto (-40), 3) := by decide +kernel
theorem dX12_fullest_98 : decode cX12_fullest 98 = .ok (.aload_n 0, 1) := by decide +kernel
theorem dX12_fullest_99 : decode cX12_fullest 99 = .ok (.aload_n 0, 1) := by decide +kernel
theorem dX12_fullest_100 : decode cX12_fullest 100 = .ok (.getfield 99, 3) := by decide +kernel
theorem dX12_fullest_103 : decode cX12_fullest 103 = .ok (.iconst 0, 1) := by decide +kernel
theorem dX12_fullest_104 : decode cX12_fullest 104 = .ok (.invokevirtual 407, 3) := by decide +kernel
theorem dX12_fullest_107 : decode cX12_fullest 107 = .ok (.iload_n 2, 1) := by decide +kernel
theorem dX12_fullest_108 : decode cX12_fullest 108 = .ok (.ifCond .ne 7, 3) := by decide +kernel
theorem dX12_fullest_111 : decode cX12_fullest 111 = .ok (.iload_n 3, 1) := by decide +kernel
theorem dX12_fullest_112 : decode cX12_fullest 112 = .ok (.goto 5, 3) := by decide +kernel
theorem dX12_fullest_115 : decode cX12_fullest 115 = .ok (.iload 4, 2) := by decide +kernel
theorem dX12_fullest_117 : decode cX12_fullest 117 = .ok (.ireturn, 1) := by decide +kernel
theorem dX12_toBear_0 : decode cX12_toBear 0 = .ok (.aload_n 0, 1) := by decide +kernel
theorem dX12_toBear_1 : decode cX12_toBear 1 = .ok (.iconst 0, 1) := by decide +kernel
theorem dX12_toBear_2 : decode cX12_toBear 2 = .ok (.putfield 139, 3) := by decide +kernel
theorem dX12_toBear_5 : decode cX12_toBear 5 = .ok (.iload_n 1, 1) := by decide +kernel
theorem dX12_toBear_6 : decode cX12_toBear 6 = .ok (.i2l, 1) := by decide +kernel
theorem dX12_toBear_7 : decode cX12_toBear 7 = .ok (.lconst 0, 1) := by decide +kernel
theorem dX12_toBear_8 : decode cX12_toBear 8 = .ok (.ldc2_w 410, 3) := by decide +kernel
theorem dX12_toBear_11 : decode cX12_toBear 11 = .ok (.invokestatic 142, 3) := by decide +kernel
theorem dX12_toBear_14 : decode cX12_toBear 14 = .ok (.ifCond .ne 9, 3) := by decide +kernel
theorem dX12_toBear_17 : decode cX12_toBear 17 = .ok (.aload_n 0, 1) := by decide +kernel
theorem dX12_toBear_18 : decode cX12_toBear 18 = .ok (.iconst 1, 1) := by decide +kernel
theorem dX12_toBear_19 : decode cX12_toBear 19 = .ok (.invokevirtual 287, 3) := by decide +kernel
theorem dX12_toBear_22 : decode cX12_toBear 22 = .ok (.ireturn, 1) := by decide +kernel
theorem dX12_toBear_23 : decode cX12_toBear 23 = .ok (.aload_n 0, 1) := by decide +kernel
theorem dX12_toBear_24 : decode cX12_toBear 24 = .ok (.aload_n 0, 1) := by decide +kernel
theorem dX12_toBear_25 : decode cX12_toBear 25 = .ok (.getfield 99, 3) := by decide +kernel
theorem dX12_toBear_28 : decode cX12_toBear 28 = .ok (.iconst 0, 1) := by decide +kernel
theorem dX12_toBear_29 : decode cX12_toBear 29 = .ok (.invokevirtual 387, 3) := by decide +kernel
theorem dX12_toBear_32 : decode cX12_toBear 32 = .ok (.iconst (-1), 1) := by decide +kernel
theorem dX12_toBear_33 : decode cX12_toBear 33 = .ok (.istore_n 2, 1) := by decide +kernel
theorem dX12_toBear_34 : decode cX12_toBear 34 = .ok (.iconst 1, 1) := by decide +kernel
theorem dX12_toBear_35 : decode cX12_toBear 35 = .ok (.istore_n 3, 1) := by decide +kernel
theorem dX12_toBear_36 : decode cX12_toBear 36 = .ok (.iload_n 3, 1) := by decide +kernel
theorem dX12_toBear_37 : decode cX12_toBear 37 = .ok (.bipush 8, 2) := by decide +kernel
theorem dX12_toBear_39 : decode cX12_toBear 39 = .ok (.if_icmp .gt 80, 3) := by decide +kernel
theorem dX12_toBear_42 : decode cX12_toBear 42 = .ok (.iload_n 2, 1) := by decide +kernel
theorem dX12_toBear_43 : decode cX12_toBear 43 = .ok (.iconst (-1), 1) := by decide +kernel
theorem dX12_toBear_44 : decode cX12_toBear 44 = .ok (.if_icmp .ne 75, 3) := by decide +kernel
theorem dX12_toBear_47 : decode cX12_toBear 47 = .ok (.aload_n 0, 1) := by decide +kernel
theorem dX12_toBear_48 : decode cX12_toBear 48 = .ok (.iload_n 3, 1) := by decide +kernel
theorem dX12_toBear_49 : decode cX12_toBear 49 = .ok (.putfield 136, 3) := by decide +kernel
theorem dX12_toBear_52 : decode cX12_toBear 52 = .ok (.iconst 1, 1) := by decide +kernel
theorem dX12_toBear_53 : decode cX12_toBear 53 = .ok (.istore 4, 2) := by decide +kernel
theorem dX12_toBear_55 : decode cX12_toBear 55 = .ok (.iconst 0, 1) := by decide +kernel
theorem dX12_toBear_56 : decode cX12_toBear 56 = .ok (.istore 5, 2) := by decide +kernel
theorem dX12_toBear_58 : decode cX12_toBear 58 = .ok (.iload 5, 2) := by decide +kernel
theorem dX12_toBear_60 : decode cX12_toBear 60 = .ok (.iload_n 1, 1) := by decide +kernel
theorem dX12_toBear_61 : decode cX12_toBear 61 = .ok (.if_icmp .ge 36, 3) := by decide +kernel
theorem dX12_toBear_64 : decode cX12_toBear 64 = .ok (.iload 4, 2) := by decide +kernel
theorem dX12_toBear_66 : decode cX12_toBear 66 = .ok (.ifCond .eq 31, 3) := by decide +kernel
theorem dX12_toBear_69 : decode cX12_toBear 69 = .ok (.aload_n 0, 1) := by decide +kernel
theorem dX12_toBear_70 : decode cX12_toBear 70 = .ok (.invokevirtual 360, 3) := by decide +kernel
theorem dX12_toBear_73 : decode cX12_toBear 73 = .ok (.aload_n 0, 1) := by decide +kernel
theorem dX12_toBear_74 : decode cX12_toBear 74 = .ok (.getfield 348, 3) := by decide +kernel
theorem dX12_toBear_77 : decode cX12_toBear 77 = .ok (.aload_n 0, 1) := by decide +kernel
theorem dX12_toBear_78 : decode cX12_toBear 78 = .ok (.getfield 302, 3) := by decide +kernel
theorem dX12_toBear_81 : decode cX12_toBear 81 = .ok (.if_icmp .ne 7, 3) := by decide +kernel
theorem dX12_toBear_84 : decode cX12_toBear 84 = .ok (.iconst 1, 1) := by decide +kernel
theorem dX12_toBear_85 : decode cX12_toBear 85 = .ok (.goto 4, 3) := by decide +kernel
theorem dX12_toBear_88 : decode cX12_toBear 88 = .ok (.iconst 0, 1) := by decide +kernel
theorem dX12_toBear_89 : decode cX12_toBear 89 = .ok (.istore 4, 2) := by decide +kernel
theorem dX12_toBear_91 : decode cX12_toBear 91 = .ok (.iinc 5 1, 3) := by decide +kernel
theorem dX12_toBear_94 : decode cX12_toBear 94 = .ok (.goto (-36), 3) := by decide +kernel
theorem dX12_toBear_97 : decode cX12_toBear 97 = .ok (.iload 4, 2) := by decide +kernel
theorem dX12_toBear_99 : decode cX12_toBear 99 = .ok (.ifCond .eq 5, 3) := by decide +kernel
theorem dX12_toBear_102 : decode cX12_toBear 102 = .ok (.iload_n 3, 1) := by decide +kernel
theorem dX12_toBear_103 : decode cX12_toBear 103 = .ok (.istore_n 2, 1) := by decide +kernel
theorem dX12_toBear_104 : decode cX12_toBear 104 = .ok (.aload_n 0, 1) := by decide +kernel
theorem dX12_toBear_105 : decode cX12_toBear 105 = .ok (.aload_n 0, 1) := by decide +kernel
theorem dX12_toBear_106 : decode cX12_toBear 106 = .ok (.getfield 99, 3) := by decide +kernel
theorem dX12_toBear_109 : decode cX12_toBear 109 = .ok (.iconst 0, 1) := by decide +kernel
theorem dX12_toBear_110 : decode cX12_toBear 110 = .ok (.invokevirtual 407, 3) := by decide +kernel
theorem dX12_toBear_113 : decode cX12_toBear 113 = .ok (.iinc 3 1, 3) := by decide +kernel
theorem dX12_toBear_116 : decode cX12_toBear 116 = .ok (.goto (-80), 3) := by decide +kernel
theorem dX12_toBear_119 : decode cX12_toBear 119 = .ok (.iload_n 2, 1) := by decide +kernel
theorem dX12_toBear_120 : decode cX12_toBear 120 = .ok (.ireturn, 1) := by decide +kernel
theorem dX12_comes_0 : decode cX12_comes 0 = .ok (.aload_n 0, 1) := by decide +kernel
theorem dX12_comes_1 : decode cX12_comes 1 = .ok (.iconst 0, 1) := by decide +kernel
theorem dX12_comes_2 : decode cX12_comes 2 = .ok (.putfield 139, 3) := by decide +kernel
theorem dX12_comes_5 : decode cX12_comes 5 = .ok (.iload_n 1, 1) := by decide +kernel
theorem dX12_comes_6 : decode cX12_comes 6 = .ok (.invokestatic 412, 3) := by decide +kernel
theorem dX12_comes_9 : decode cX12_comes 9 = .ok (.ifCond .eq 11, 3) := by decide +kernel
theorem dX12_comes_12 : decode cX12_comes 12 = .ok (.aload_n 0, 1) := by decide +kernel
theorem dX12_comes_13 : decode cX12_comes 13 = .ok (.iload_n 1, 1) := by decide +kernel
theorem dX12_comes_14 : decode cX12_comes 14 = .ok (.invokevirtual 323, 3) := by decide +kernel
theorem dX12_comes_17 : decode cX12_comes 17 = .ok (.goto 8, 3) := by decide +kernel
theorem dX12_comes_20 : decode cX12_comes 20 = .ok (.aload_n 0, 1) := by decide +kernel
theorem dX12_comes_21 : decode cX12_comes 21 = .ok (.iconst 1, 1) := by decide +kernel
theorem dX12_comes_22 : decode cX12_comes 22 = .ok (.invokevirtual 287, 3) := by decide +kernel
theorem dX12_comes_25 : decode cX12_comes 25 = .ok (.ireturn, 1) := by decide +kernel
theorem dX12_why_0 : decode cX12_why 0 = .ok (.aload_n 0, 1) := by decide +kernel
theorem dX12_why_1 : decode cX12_why 1 = .ok (.iconst 0, 1) := by decide +kernel
theorem dX12_why_2 : decode cX12_why 2 = .ok (.putfield 139, 3) := by decide +kernel
theorem dX12_why_5 : decode cX12_why 5 = .ok (.iload_n 2, 1) := by decide +kernel
theorem dX12_why_6 : decode cX12_why 6 = .ok (.invokestatic 378, 3) := by decide +kernel
theorem dX12_why_9 : decode cX12_why 9 = .ok (.ifCond .ne 9, 3) := by decide +kernel
theorem dX12_why_12 : decode cX12_why 12 = .ok (.aload_n 0, 1) := by decide +kernel
theorem dX12_why_13 : decode cX12_why 13 = .ok (.iconst 1, 1) := by decide +kernel
theorem dX12_why_14 : decode cX12_why 14 = .ok (.invokevirtual 287, 3) := by decide +kernel
theorem dX12_why_17 : decode cX12_why 17 = .ok (.ireturn, 1) := by decide +kernel
theorem dX12_why_18 : decode cX12_why 18 = .ok (.iload_n 1, 1) := by decide +kernel
theorem dX12_why_19 : decode cX12_why 19 = .ok (.invokestatic 412, 3) := by decide +kernel
theorem dX12_why_22 : decode cX12_why 22 = .ok (.ifCond .ne 9, 3) := by decide +kernel
theorem dX12_why_25 : decode cX12_why 25 = .ok (.aload_n 0, 1) := by decide +kernel
theorem dX12_why_26 : decode cX12_why 26 = .ok (.iconst 2, 1) := by decide +kernel
theorem dX12_why_27 : decode cX12_why 27 = .ok (.invokevirtual 287, 3) := by decide +kernel
theorem dX12_why_30 : decode cX12_why 30 = .ok (.ireturn, 1) := by decide +kernel
theorem dX12_why_31 : decode cX12_why 31 = .ok (.iconst 0, 1) := by decide +kernel
theorem dX12_why_32 : decode cX12_why 32 = .ok (.istore_n 3, 1) := by decide +kernel
theorem dX12_why_33 : decode cX12_why 33 = .ok (.iload_n 3, 1) := by decide +kernel
theorem dX12_why_34 : decode cX12_why 34 = .ok (.sipush 1023, 3) := by decide +kernel
theorem dX12_why_37 : decode cX12_why 37 = .ok (.if_icmp .gt 16, 3) := by decide +kernel
theorem dX12_why_40 : decode cX12_why 40 = .ok (.aload_n 0, 1) := by decide +kernel
theorem dX12_why_41 : decode cX12_why 41 = .ok (.getfield 102, 3) := by decide +kernel
theorem dX12_why_44 : decode cX12_why 44 = .ok (.iload_n 3, 1) := by decide +kernel
theorem dX12_why_45 : decode cX12_why 45 = .ok (.iconst (-1), 1) := by decide +kernel
theorem dX12_why_46 : decode cX12_why 46 = .ok (.iastore, 1) := by decide +kernel
theorem dX12_why_47 : decode cX12_why 47 = .ok (.iinc 3 1, 3) := by decide +kernel
theorem dX12_why_50 : decode cX12_why 50 = .ok (.goto (-17), 3) := by decide +kernel
theorem dX12_why_53 : decode cX12_why 53 = .ok (.aload_n 0, 1) := by decide +kernel
theorem dX12_why_54 : decode cX12_why 54 = .ok (.getfield 105, 3) := by decide +kernel
theorem dX12_why_57 : decode cX12_why 57 = .ok (.iconst 0, 1) := by decide +kernel
theorem dX12_why_58 : decode cX12_why 58 = .ok (.iload_n 1, 1) := by decide +kernel
theorem dX12_why_59 : decode cX12_why 59 = .ok (.iastore, 1) := by decide +kernel
theorem dX12_why_60 : decode cX12_why 60 = .ok (.aload_n 0, 1) := by decide +kernel
theorem dX12_why_61 : decode cX12_why 61 = .ok (.getfield 102, 3) := by decide +kernel
theorem dX12_why_64 : decode cX12_why 64 = .ok (.iload_n 1, 1) := by decide +kernel
theorem dX12_why_65 : decode cX12_why 65 = .ok (.iconst 0, 1) := by decide +kernel
theorem dX12_why_66 : decode cX12_why 66 = .ok (.iastore, 1) := by decide +kernel
theorem dX12_why_67 : decode cX12_why 67 = .ok (.iconst 1, 1) := by decide +kernel
theorem dX12_why_68 : decode cX12_why 68 = .ok (.istore_n 3, 1) := by decide +kernel
theorem dX12_why_69 : decode cX12_why 69 = .ok (.iconst 0, 1) := by decide +kernel
theorem dX12_why_70 : decode cX12_why 70 = .ok (.istore 4, 2) := by decide +kernel
theorem dX12_why_72 : decode cX12_why 72 = .ok (.iload 4, 2) := by decide +kernel
theorem dX12_why_74 : decode cX12_why 74 = .ok (.iload_n 3, 1) := by decide +kernel
theorem dX12_why_75 : decode cX12_why 75 = .ok (.if_icmp .ge 121, 3) := by decide +kernel
theorem dX12_why_78 : decode cX12_why 78 = .ok (.aload_n 0, 1) := by decide +kernel
theorem dX12_why_79 : decode cX12_why 79 = .ok (.getfield 105, 3) := by decide +kernel
theorem dX12_why_82 : decode cX12_why 82 = .ok (.iload 4, 2) := by decide +kernel
theorem dX12_why_84 : decode cX12_why 84 = .ok (.iaload, 1) := by decide +kernel
theorem dX12_why_85 : decode cX12_why 85 = .ok (.istore 5, 2) := by decide +kernel
theorem dX12_why_87 : decode cX12_why 87 = .ok (.iload 5, 2) := by decide +kernel
theorem dX12_why_89 : decode cX12_why 89 = .ok (.iload_n 2, 1) := by decide +kernel
theorem dX12_why_90 : decode cX12_why 90 = .ok (.invokestatic 263, 3) := by decide +kernel
theorem dX12_why_93 : decode cX12_why 93 = .ok (.ifCond .eq 11, 3) := by decide +kernel
theorem dX12_why_96 : decode cX12_why 96 = .ok (.aload_n 0, 1) := by decide +kernel
theorem dX12_why_97 : decode cX12_why 97 = .ok (.getfield 102, 3) := by decide +kernel
theorem dX12_why_100 : decode cX12_why 100 = .ok (.iload 5, 2) := by decide +kernel
theorem dX12_why_102 : decode cX12_why 102 = .ok (.iaload, 1) := by decide +kernel
theorem dX12_why_103 : decode cX12_why 103 = .ok (.ireturn, 1) := by decide +kernel
theorem dX12_why_104 : decode cX12_why 104 = .ok (.iconst 0, 1) := by decide +kernel
theorem dX12_why_105 : decode cX12_why 105 = .ok (.istore 6, 2) := by decide +kernel
theorem dX12_why_107 : decode cX12_why 107 = .ok (.iload 6, 2) := by decide +kernel
theorem dX12_why_109 : decode cX12_why 109 = .ok (.aload_n 0, 1) := by decide +kernel
theorem dX12_why_110 : decode cX12_why 110 = .ok (.getfield 36, 3) := by decide +kernel
theorem dX12_why_113 : decode cX12_why 113 = .ok (.iconst 1, 1) := by decide +kernel
theorem dX12_why_114 : decode cX12_why 114 = .ok (.iaload, 1) := by decide +kernel
theorem dX12_why_115 : decode cX12_why 115 = .ok (.if_icmp .ge 75, 3) := by decide +kernel
theorem dX12_why_118 : decode cX12_why 118 = .ok (.iload 5, 2) := by decide +kernel
theorem dX12_why_120 : decode cX12_why 120 = .ok (.iconst 1, 1) := by decide +kernel
theorem dX12_why_121 : decode cX12_why 121 = .ok (.aload_n 0, 1) := by decide +kernel
theorem dX12_why_122 : decode cX12_why 122 = .ok (.getfield 64, 3) := by decide +kernel
theorem dX12_why_125 : decode cX12_why 125 = .ok (.iload 6, 2) := by decide +kernel
theorem dX12_why_127 : decode cX12_why 127 = .ok (.iaload, 1) := by decide +kernel
theorem dX12_why_128 : decode cX12_why 128 = .ok (.ishl, 1) := by decide +kernel
theorem dX12_why_129 : decode cX12_why 129 = .ok (.ior, 1) := by decide +kernel
theorem dX12_why_130 : decode cX12_why 130 = .ok (.istore 7, 2) := by decide +kernel
theorem dX12_why_132 : decode cX12_why 132 = .ok (.aload_n 0, 1) := by decide +kernel
theorem dX12_why_133 : decode cX12_why 133 = .ok (.iload 6, 2) := by decide +kernel
theorem dX12_why_135 : decode cX12_why 135 = .ok (.iload 5, 2) := by decide +kernel
theorem dX12_why_137 : decode cX12_why 137 = .ok (.invokevirtual 317, 3) := by decide +kernel
theorem dX12_why_140 : decode cX12_why 140 = .ok (.ifCond .eq 44, 3) := by decide +kernel
theorem dX12_why_143 : decode cX12_why 143 = .ok (.aload_n 0, 1) := by decide +kernel
theorem dX12_why_144 : decode cX12_why 144 = .ok (.getfield 102, 3) := by decide +kernel
theorem dX12_why_147 : decode cX12_why 147 = .ok (.iload 7, 2) := by decide +kernel
theorem dX12_why_149 : decode cX12_why 149 = .ok (.iaload, 1) := by decide +kernel
theorem dX12_why_150 : decode cX12_why 150 = .ok (.iconst (-1), 1) := by decide +kernel
theorem dX12_why_151 : decode cX12_why 151 = .ok (.if_icmp .eq 6, 3) := by decide +kernel
theorem dX12_why_154 : decode cX12_why 154 = .ok (.goto 30, 3) := by decide +kernel
theorem dX12_why_157 : decode cX12_why 157 = .ok (.aload_n 0, 1) := by decide +kernel
theorem dX12_why_158 : decode cX12_why 158 = .ok (.getfield 102, 3) := by decide +kernel
theorem dX12_why_161 : decode cX12_why 161 = .ok (.iload 7, 2) := by decide +kernel
theorem dX12_why_163 : decode cX12_why 163 = .ok (.aload_n 0, 1) := by decide +kernel
theorem dX12_why_164 : decode cX12_why 164 = .ok (.getfield 102, 3) := by decide +kernel
theorem dX12_why_167 : decode cX12_why 167 = .ok (.iload 5, 2) := by decide +kernel
theorem dX12_why_169 : decode cX12_why 169 = .ok (.iaload, 1) := by decide +kernel
theorem dX12_why_170 : decode cX12_why 170 = .ok (.iconst 1, 1) := by decide +kernel
theorem dX12_why_171 : decode cX12_why 171 = .ok (.iadd, 1) := by decide +kernel
theorem dX12_why_172 : decode cX12_why 172 = .ok (.iastore, 1) := by decide +kernel
theorem dX12_why_173 : decode cX12_why 173 = .ok (.aload_n 0, 1) := by decide +kernel
theorem dX12_why_174 : decode cX12_why 174 = .ok (.getfield 105, 3) := by decide +kernel
theorem dX12_why_177 : decode cX12_why 177 = .ok (.iload_n 3, 1) := by decide +kernel
theorem dX12_why_178 : decode cX12_why 178 = .ok (.iload 7, 2) := by decide +kernel
theorem dX12_why_180 : decode cX12_why 180 = .ok (.iastore, 1) := by decide +kernel
theorem dX12_why_181 : decode cX12_why 181 = .ok (.iinc 3 1, 3) := by decide +kernel
theorem dX12_why_184 : decode cX12_why 184 = .ok (.iinc 6 1, 3) := by decide +kernel
theorem dX12_why_187 : decode cX12_why 187 = .ok (.goto (-80), 3) := by decide +kernel
theorem dX12_why_190 : decode cX12_why 190 = .ok (.iinc 4 1, 3) := by decide +kernel
theorem dX12_why_193 : decode cX12_why 193 = .ok (.goto (-121), 3) := by decide +kernel
theorem dX12_why_196 : decode cX12_why 196 = .ok (.iconst (-1), 1) := by decide +kernel
theorem dX12_why_197 : decode cX12_why 197 = .ok (.ireturn, 1) := by decide +kernel
theorem dX12_parting_0 : decode cX12_parting 0 = .ok (.aload_n 0, 1) := by decide +kernel
theorem dX12_parting_1 : decode cX12_parting 1 = .ok (.iload_n 1, 1) := by decide +kernel
theorem dX12_parting_2 : decode cX12_parting 2 = .ok (.invokevirtual 323, 3) := by decide +kernel
theorem dX12_parting_5 : decode cX12_parting 5 = .ok (.iload_n 2, 1) := by decide +kernel
theorem dX12_parting_6 : decode cX12_parting 6 = .ok (.iand, 1) := by decide +kernel
theorem dX12_parting_7 : decode cX12_parting 7 = .ok (.istore_n 3, 1) := by decide +kernel
theorem dX12_parting_8 : decode cX12_parting 8 = .ok (.iconst 0, 1) := by decide +kernel
theorem dX12_parting_9 : decode cX12_parting 9 = .ok (.istore 4, 2) := by decide +kernel
theorem dX12_parting_11 : decode cX12_parting 11 = .ok (.iconst 0, 1) := by decide +kernel
theorem dX12_parting_12 : decode cX12_parting 12 = .ok (.istore 5, 2) := by decide +kernel
theorem dX12_parting_14 : decode cX12_parting 14 = .ok (.iload 5, 2) := by decide +kernel
theorem dX12_parting_16 : decode cX12_parting 16 = .ok (.aload_n 0, 1) := by decide +kernel
theorem dX12_parting_17 : decode cX12_parting 17 = .ok (.getfield 36, 3) := by decide +kernel
theorem dX12_parting_20 : decode cX12_parting 20 = .ok (.iconst 1, 1) := by decide +kernel
theorem dX12_parting_21 : decode cX12_parting 21 = .ok (.iaload, 1) := by decide +kernel
theorem dX12_parting_22 : decode cX12_parting 22 = .ok (.if_icmp .ge 76, 3) := by decide +kernel
theorem dX12_parting_25 : decode cX12_parting 25 = .ok (.aload_n 0, 1) := by decide +kernel
theorem dX12_parting_26 : decode cX12_parting 26 = .ok (.getfield 304, 3) := by decide +kernel
theorem dX12_parting_29 : decode cX12_parting 29 = .ok (.iload 5, 2) := by decide +kernel
theorem dX12_parting_31 : decode cX12_parting 31 = .ok (.invokestatic 263, 3) := by decide +kernel
theorem dX12_parting_34 : decode cX12_parting 34 = .ok (.ifCond .eq 6, 3) := by decide +kernel
theorem dX12_parting_37 : decode cX12_parting 37 = .ok (.goto 55, 3) := by decide +kernel
theorem dX12_parting_40 : decode cX12_parting 40 = .ok (.aload_n 0, 1) := by decide +kernel
theorem dX12_parting_41 : decode cX12_parting 41 = .ok (.dup, 1) := by decide +kernel
theorem dX12_parting_42 : decode cX12_parting 42 = .ok (.getfield 304, 3) := by decide +kernel
theorem dX12_parting_45 : decode cX12_parting 45 = .ok (.iconst 1, 1) := by decide +kernel
theorem dX12_parting_46 : decode cX12_parting 46 = .ok (.iload 5, 2) := by decide +kernel
theorem dX12_parting_48 : decode cX12_parting 48 = .ok (.ishl, 1) := by decide +kernel
theorem dX12_parting_49 : decode cX12_parting 49 = .ok (.ior, 1) := by decide +kernel
theorem dX12_parting_50 : decode cX12_parting 50 = .ok (.putfield 304, 3) := by decide +kernel
theorem dX12_parting_53 : decode cX12_parting 53 = .ok (.iload 4, 2) := by decide +kernel
theorem dX12_parting_55 : decode cX12_parting 55 = .ok (.aload_n 0, 1) := by decide +kernel
theorem dX12_parting_56 : decode cX12_parting 56 = .ok (.iload_n 1, 1) := by decide +kernel
theorem dX12_parting_57 : decode cX12_parting 57 = .ok (.invokevirtual 323, 3) := by decide +kernel
theorem dX12_parting_60 : decode cX12_parting 60 = .ok (.iload_n 2, 1) := by decide +kernel
theorem dX12_parting_61 : decode cX12_parting 61 = .ok (.iand, 1) := by decide +kernel
theorem dX12_parting_62 : decode cX12_parting 62 = .ok (.iload_n 3, 1) := by decide +kernel
theorem dX12_parting_63 : decode cX12_parting 63 = .ok (.if_icmp .eq 10, 3) := by decide +kernel
theorem dX12_parting_66 : decode cX12_parting 66 = .ok (.iconst 1, 1) := by decide +kernel
theorem dX12_parting_67 : decode cX12_parting 67 = .ok (.iload 5, 2) := by decide +kernel
theorem dX12_parting_69 : decode cX12_parting 69 = .ok (.ishl, 1) := by decide +kernel
theorem dX12_parting_70 : decode cX12_parting 70 = .ok (.goto 4, 3) := by decide +kernel
theorem dX12_parting_73 : decode cX12_parting 73 = .ok (.iconst 0, 1) := by decide +kernel
theorem dX12_parting_74 : decode cX12_parting 74 = .ok (.ior, 1) := by decide +kernel
theorem dX12_parting_75 : decode cX12_parting 75 = .ok (.istore 4, 2) := by decide +kernel
theorem dX12_parting_77 : decode cX12_parting 77 = .ok (.aload_n 0, 1) := by decide +kernel
theorem dX12_parting_78 : decode cX12_parting 78 = .ok (.dup, 1) := by decide +kernel
theorem dX12_parting_79 : decode cX12_parting 79 = .ok (.getfield 304, 3) := by decide +kernel
theorem dX12_parting_82 : decode cX12_parting 82 = .ok (.iconst 1, 1) := by decide +kernel
theorem dX12_parting_83 : decode cX12_parting 83 = .ok (.iload 5, 2) := by decide +kernel
theorem dX12_parting_85 : decode cX12_parting 85 = .ok (.ishl, 1) := by decide +kernel
theorem dX12_parting_86 : decode cX12_parting 86 = .ok (.iconst (-1), 1) := by decide +kernel
theorem dX12_parting_87 : decode cX12_parting 87 = .ok (.ixor, 1) := by decide +kernel
theorem dX12_parting_88 : decode cX12_parting 88 = .ok (.iand, 1) := by decide +kernel
theorem dX12_parting_89 : decode cX12_parting 89 = .ok (.putfield 304, 3) := by decide +kernel
theorem dX12_parting_92 : decode cX12_parting 92 = .ok (.iinc 5 1, 3) := by decide +kernel
theorem dX12_parting_95 : decode cX12_parting 95 = .ok (.goto (-81), 3) := by decide +kernel
theorem dX12_parting_98 : decode cX12_parting 98 = .ok (.iload 4, 2) := by decide +kernel
theorem dX12_parting_100 : decode cX12_parting 100 = .ok (.ireturn, 1) := by decide +kernel
theorem dX12_needed_0 : decode cX12_needed 0 = .ok (.aload_n 0, 1) := by decide +kernel
theorem dX12_needed_1 : decode cX12_needed 1 = .ok (.iconst 0, 1) := by decide +kernel
theorem dX12_needed_2 : decode cX12_needed 2 = .ok (.putfield 139, 3) := by decide +kernel
theorem dX12_needed_5 : decode cX12_needed 5 = .ok (.iload_n 2, 1) := by decide +kernel
theorem dX12_needed_6 : decode cX12_needed 6 = .ok (.invokestatic 378, 3) := by decide +kernel
theorem dX12_needed_9 : decode cX12_needed 9 = .ok (.ifCond .ne 9, 3) := by decide +kernel
theorem dX12_needed_12 : decode cX12_needed 12 = .ok (.aload_n 0, 1) := by decide +kernel
theorem dX12_needed_13 : decode cX12_needed 13 = .ok (.iconst 1, 1) := by decide +kernel
theorem dX12_needed_14 : decode cX12_needed 14 = .ok (.invokevirtual 287, 3) := by decide +kernel
theorem dX12_needed_17 : decode cX12_needed 17 = .ok (.ireturn, 1) := by decide +kernel
theorem dX12_needed_18 : decode cX12_needed 18 = .ok (.iload_n 1, 1) := by decide +kernel
theorem dX12_needed_19 : decode cX12_needed 19 = .ok (.invokestatic 412, 3) := by decide +kernel
theorem dX12_needed_22 : decode cX12_needed 22 = .ok (.ifCond .ne 9, 3) := by decide +kernel
theorem dX12_needed_25 : decode cX12_needed 25 = .ok (.aload_n 0, 1) := by decide +kernel
theorem dX12_needed_26 : decode cX12_needed 26 = .ok (.iconst 2, 1) := by decide +kernel
theorem dX12_needed_27 : decode cX12_needed 27 = .ok (.invokevirtual 287, 3) := by decide +kernel
theorem dX12_needed_30 : decode cX12_needed 30 = .ok (.ireturn, 1) := by decide +kernel
theorem dX12_needed_31 : decode cX12_needed 31 = .ok (.aload_n 0, 1) := by decide +kernel
theorem dX12_needed_32 : decode cX12_needed 32 = .ok (.iload_n 1, 1) := by decide +kernel
theorem dX12_needed_33 : decode cX12_needed 33 = .ok (.invokevirtual 323, 3) := by decide +kernel
theorem dX12_needed_36 : decode cX12_needed 36 = .ok (.iload_n 2, 1) := by decide +kernel
theorem dX12_needed_37 : decode cX12_needed 37 = .ok (.invokestatic 263, 3) := by decide +kernel
theorem dX12_needed_40 : decode cX12_needed 40 = .ok (.ifCond .eq 14, 3) := by decide +kernel
theorem dX12_needed_43 : decode cX12_needed 43 = .ok (.aload_n 0, 1) := by decide +kernel
theorem dX12_needed_44 : decode cX12_needed 44 = .ok (.iload_n 1, 1) := by decide +kernel
theorem dX12_needed_45 : decode cX12_needed 45 = .ok (.iconst 1, 1) := by decide +kernel
theorem dX12_needed_46 : decode cX12_needed 46 = .ok (.iload_n 2, 1) := by decide +kernel
theorem dX12_needed_47 : decode cX12_needed 47 = .ok (.ishl, 1) := by decide +kernel
theorem dX12_needed_48 : decode cX12_needed 48 = .ok (.invokevirtual 415, 3) := by decide +kernel
theorem dX12_needed_51 : decode cX12_needed 51 = .ok (.goto 4, 3) := by decide +kernel
theorem dX12_needed_54 : decode cX12_needed 54 = .ok (.iconst 0, 1) := by decide +kernel
theorem dX12_needed_55 : decode cX12_needed 55 = .ok (.ireturn, 1) := by decide +kernel
theorem dX12_fewest_0 : decode cX12_fewest 0 = .ok (.aload_n 0, 1) := by decide +kernel
theorem dX12_fewest_1 : decode cX12_fewest 1 = .ok (.iconst 0, 1) := by decide +kernel
theorem dX12_fewest_2 : decode cX12_fewest 2 = .ok (.putfield 139, 3) := by decide +kernel
theorem dX12_fewest_5 : decode cX12_fewest 5 = .ok (.iload_n 2, 1) := by decide +kernel
theorem dX12_fewest_6 : decode cX12_fewest 6 = .ok (.invokestatic 378, 3) := by decide +kernel
theorem dX12_fewest_9 : decode cX12_fewest 9 = .ok (.ifCond .ne 9, 3) := by decide +kernel
theorem dX12_fewest_12 : decode cX12_fewest 12 = .ok (.aload_n 0, 1) := by decide +kernel
theorem dX12_fewest_13 : decode cX12_fewest 13 = .ok (.iconst 1, 1) := by decide +kernel
theorem dX12_fewest_14 : decode cX12_fewest 14 = .ok (.invokevirtual 287, 3) := by decide +kernel
theorem dX12_fewest_17 : decode cX12_fewest 17 = .ok (.ireturn, 1) := by decide +kernel
theorem dX12_fewest_18 : decode cX12_fewest 18 = .ok (.iload_n 1, 1) := by decide +kernel
theorem dX12_fewest_19 : decode cX12_fewest 19 = .ok (.invokestatic 412, 3) := by decide +kernel
theorem dX12_fewest_22 : decode cX12_fewest 22 = .ok (.ifCond .ne 9, 3) := by decide +kernel
theorem dX12_fewest_25 : decode cX12_fewest 25 = .ok (.aload_n 0, 1) := by decide +kernel
theorem dX12_fewest_26 : decode cX12_fewest 26 = .ok (.iconst 2, 1) := by decide +kernel
theorem dX12_fewest_27 : decode cX12_fewest 27 = .ok (.invokevirtual 287, 3) := by decide +kernel
theorem dX12_fewest_30 : decode cX12_fewest 30 = .ok (.ireturn, 1) := by decide +kernel
theorem dX12_fewest_31 : decode cX12_fewest 31 = .ok (.iconst (-1), 1) := by decide +kernel
theorem dX12_fewest_32 : decode cX12_fewest 32 = .ok (.istore_n 3, 1) := by decide +kernel
theorem dX12_fewest_33 : decode cX12_fewest 33 = .ok (.iconst 0, 1) := by decide +kernel
theorem dX12_fewest_34 : decode cX12_fewest 34 = .ok (.istore 4, 2) := by decide +kernel
theorem dX12_fewest_36 : decode cX12_fewest 36 = .ok (.iload 4, 2) := by decide +kernel
theorem dX12_fewest_38 : decode cX12_fewest 38 = .ok (.sipush 1023, 3) := by decide +kernel
theorem dX12_fewest_41 : decode cX12_fewest 41 = .ok (.if_icmp .gt 63, 3) := by decide +kernel
theorem dX12_fewest_44 : decode cX12_fewest 44 = .ok (.iload 4, 2) := by decide +kernel
theorem dX12_fewest_46 : decode cX12_fewest 46 = .ok (.iload_n 1, 1) := by decide +kernel
theorem dX12_fewest_47 : decode cX12_fewest 47 = .ok (.iand, 1) := by decide +kernel
theorem dX12_fewest_48 : decode cX12_fewest 48 = .ok (.ifCond .ne 50, 3) := by decide +kernel
theorem dX12_fewest_51 : decode cX12_fewest 51 = .ok (.iload 4, 2) := by decide +kernel
theorem dX12_fewest_53 : decode cX12_fewest 53 = .ok (.iload_n 2, 1) := by decide +kernel
theorem dX12_fewest_54 : decode cX12_fewest 54 = .ok (.invokestatic 263, 3) := by decide +kernel
theorem dX12_fewest_57 : decode cX12_fewest 57 = .ok (.ifCond .ne 41, 3) := by decide +kernel
theorem dX12_fewest_60 : decode cX12_fewest 60 = .ok (.iload_n 3, 1) := by decide +kernel
theorem dX12_fewest_61 : decode cX12_fewest 61 = .ok (.iconst (-1), 1) := by decide +kernel
theorem dX12_fewest_62 : decode cX12_fewest 62 = .ok (.if_icmp .eq 18, 3) := by decide +kernel
theorem dX12_fewest_65 : decode cX12_fewest 65 = .ok (.iload 4, 2) := by decide +kernel
theorem dX12_fewest_67 : decode cX12_fewest 67 = .ok (.invokestatic 357, 3) := by decide +kernel
theorem dX12_fewest_70 : decode cX12_fewest 70 = .ok (.iload_n 3, 1) := by decide +kernel
theorem dX12_fewest_71 : decode cX12_fewest 71 = .ok (.invokestatic 357, 3) := by decide +kernel
theorem dX12_fewest_74 : decode cX12_fewest 74 = .ok (.if_icmp .lt 6, 3) := by decide +kernel
theorem dX12_fewest_77 : decode cX12_fewest 77 = .ok (.goto 21, 3) := by decide +kernel
theorem dX12_fewest_80 : decode cX12_fewest 80 = .ok (.aload_n 0, 1) := by decide +kernel
theorem dX12_fewest_81 : decode cX12_fewest 81 = .ok (.iload_n 1, 1) := by decide +kernel
theorem dX12_fewest_82 : decode cX12_fewest 82 = .ok (.iload 4, 2) := by decide +kernel
theorem dX12_fewest_84 : decode cX12_fewest 84 = .ok (.ior, 1) := by decide +kernel
theorem dX12_fewest_85 : decode cX12_fewest 85 = .ok (.invokevirtual 323, 3) := by decide +kernel
theorem dX12_fewest_88 : decode cX12_fewest 88 = .ok (.iload_n 2, 1) := by decide +kernel
theorem dX12_fewest_89 : decode cX12_fewest 89 = .ok (.invokestatic 263, 3) := by decide +kernel
theorem dX12_fewest_92 : decode cX12_fewest 92 = .ok (.ifCond .eq 6, 3) := by decide +kernel
theorem dX12_fewest_95 : decode cX12_fewest 95 = .ok (.iload 4, 2) := by decide +kernel
theorem dX12_fewest_97 : decode cX12_fewest 97 = .ok (.istore_n 3, 1) := by decide +kernel
theorem dX12_fewest_98 : decode cX12_fewest 98 = .ok (.iinc 4 1, 3) := by decide +kernel
theorem dX12_fewest_101 : decode cX12_fewest 101 = .ok (.goto (-65), 3) := by decide +kernel
theorem dX12_fewest_104 : decode cX12_fewest 104 = .ok (.iload_n 3, 1) := by decide +kernel
theorem dX12_fewest_105 : decode cX12_fewest 105 = .ok (.ireturn, 1) := by decide +kernel
theorem dX12_leads_0 : decode cX12_leads 0 = .ok (.aload_n 0, 1) := by decide +kernel
theorem dX12_leads_1 : decode cX12_leads 1 = .ok (.iconst 0, 1) := by decide +kernel
theorem dX12_leads_2 : decode cX12_leads 2 = .ok (.putfield 139, 3) := by decide +kernel
theorem dX12_leads_5 : decode cX12_leads 5 = .ok (.iload_n 1, 1) := by decide +kernel
theorem dX12_leads_6 : decode cX12_leads 6 = .ok (.invokestatic 378, 3) := by decide +kernel
theorem dX12_leads_9 : decode cX12_leads 9 = .ok (.ifCond .eq 10, 3) := by decide +kernel
theorem dX12_leads_12 : decode cX12_leads 12 = .ok (.iload_n 2, 1) := by decide +kernel
theorem dX12_leads_13 : decode cX12_leads 13 = .ok (.invokestatic 378, 3) := by decide +kernel
theorem dX12_leads_16 : decode cX12_leads 16 = .ok (.ifCond .ne 9, 3) := by decide +kernel
theorem dX12_leads_19 : decode cX12_leads 19 = .ok (.aload_n 0, 1) := by decide +kernel
theorem dX12_leads_20 : decode cX12_leads 20 = .ok (.iconst 1, 1) := by decide +kernel
theorem dX12_leads_21 : decode cX12_leads 21 = .ok (.invokevirtual 402, 3) := by decide +kernel
theorem dX12_leads_24 : decode cX12_leads 24 = .ok (.ireturn, 1) := by decide +kernel
theorem dX12_leads_25 : decode cX12_leads 25 = .ok (.aload_n 0, 1) := by decide +kernel
theorem dX12_leads_26 : decode cX12_leads 26 = .ok (.iload_n 1, 1) := by decide +kernel
theorem dX12_leads_27 : decode cX12_leads 27 = .ok (.iload_n 2, 1) := by decide +kernel
theorem dX12_leads_28 : decode cX12_leads 28 = .ok (.invokevirtual 366, 3) := by decide +kernel
theorem dX12_leads_31 : decode cX12_leads 31 = .ok (.iconst (-1), 1) := by decide +kernel
theorem dX12_leads_32 : decode cX12_leads 32 = .ok (.if_icmp .eq 7, 3) := by decide +kernel
theorem dX12_leads_35 : decode cX12_leads 35 = .ok (.iconst 1, 1) := by decide +kernel
theorem dX12_leads_36 : decode cX12_leads 36 = .ok (.goto 4, 3) := by decide +kernel
theorem dX12_leads_39 : decode cX12_leads 39 = .ok (.iconst 0, 1) := by decide +kernel
theorem dX12_leads_40 : decode cX12_leads 40 = .ok (.ireturn, 1) := by decide +kernel
theorem dX12_sources_0 : decode cX12_sources 0 = .ok (.aload_n 0, 1) := by decide +kernel
theorem dX12_sources_1 : decode cX12_sources 1 = .ok (.iconst 0, 1) := by decide +kernel
theorem dX12_sources_2 : decode cX12_sources 2 = .ok (.putfield 139, 3) := by decide +kernel
theorem dX12_sources_5 : decode cX12_sources 5 = .ok (.iload_n 1, 1) := by decide +kernel
theorem dX12_sources_6 : decode cX12_sources 6 = .ok (.invokestatic 378, 3) := by decide +kernel
theorem dX12_sources_9 : decode cX12_sources 9 = .ok (.ifCond .ne 9, 3) := by decide +kernel
theorem dX12_sources_12 : decode cX12_sources 12 = .ok (.aload_n 0, 1) := by decide +kernel
theorem dX12_sources_13 : decode cX12_sources 13 = .ok (.iconst 1, 1) := by decide +kernel
theorem dX12_sources_14 : decode cX12_sources 14 = .ok (.invokevirtual 287, 3) := by decide +kernel
theorem dX12_sources_17 : decode cX12_sources 17 = .ok (.ireturn, 1) := by decide +kernel
theorem dX12_sources_18 : decode cX12_sources 18 = .ok (.iconst 0, 1) := by decide +kernel
theorem dX12_sources_19 : decode cX12_sources 19 = .ok (.istore_n 2, 1) := by decide +kernel
theorem dX12_sources_20 : decode cX12_sources 20 = .ok (.iconst 0, 1) := by decide +kernel
theorem dX12_sources_21 : decode cX12_sources 21 = .ok (.istore_n 3, 1) := by decide +kernel
theorem dX12_sources_22 : decode cX12_sources 22 = .ok (.iload_n 3, 1) := by decide +kernel
theorem dX12_sources_23 : decode cX12_sources 23 = .ok (.bipush 10, 2) := by decide +kernel
theorem dX12_sources_25 : decode cX12_sources 25 = .ok (.if_icmp .ge 29, 3) := by decide +kernel
theorem dX12_sources_28 : decode cX12_sources 28 = .ok (.iload_n 2, 1) := by decide +kernel
theorem dX12_sources_29 : decode cX12_sources 29 = .ok (.aload_n 0, 1) := by decide +kernel
theorem dX12_sources_30 : decode cX12_sources 30 = .ok (.iload_n 3, 1) := by decide +kernel
theorem dX12_sources_31 : decode cX12_sources 31 = .ok (.iload_n 1, 1) := by decide +kernel
theorem dX12_sources_32 : decode cX12_sources 32 = .ok (.invokevirtual 366, 3) := by decide +kernel
theorem dX12_sources_35 : decode cX12_sources 35 = .ok (.iconst (-1), 1) := by decide +kernel
theorem dX12_sources_36 : decode cX12_sources 36 = .ok (.if_icmp .eq 9, 3) := by decide +kernel
theorem dX12_sources_39 : decode cX12_sources 39 = .ok (.iconst 1, 1) := by decide +kernel
theorem dX12_sources_40 : decode cX12_sources 40 = .ok (.iload_n 3, 1) := by decide +kernel
theorem dX12_sources_41 : decode cX12_sources 41 = .ok (.ishl, 1) := by decide +kernel
theorem dX12_sources_42 : decode cX12_sources 42 = .ok (.goto 4, 3) := by decide +kernel
theorem dX12_sources_45 : decode cX12_sources 45 = .ok (.iconst 0, 1) := by decide +kernel
theorem dX12_sources_46 : decode cX12_sources 46 = .ok (.ior, 1) := by decide +kernel
theorem dX12_sources_47 : decode cX12_sources 47 = .ok (.istore_n 2, 1) := by decide +kernel
theorem dX12_sources_48 : decode cX12_sources 48 = .ok (.iinc 3 1, 3) := by decide +kernel
theorem dX12_sources_51 : decode cX12_sources 51 = .ok (.goto (-29), 3) := by decide +kernel
theorem dX12_sources_54 : decode cX12_sources 54 = .ok (.iload_n 2, 1) := by decide +kernel
theorem dX12_sources_55 : decode cX12_sources 55 = .ok (.ireturn, 1) := by decide +kernel
theorem dX12_resting_0 : decode cX12_resting 0 = .ok (.aload_n 0, 1) := by decide +kernel
theorem dX12_resting_1 : decode cX12_resting 1 = .ok (.iconst 0, 1) := by decide +kernel
theorem dX12_resting_2 : decode cX12_resting 2 = .ok (.putfield 139, 3) := by decide +kernel
theorem dX12_resting_5 : decode cX12_resting 5 = .ok (.iconst 0, 1) := by decide +kernel
theorem dX12_resting_6 : decode cX12_resting 6 = .ok (.istore_n 1, 1) := by decide +kernel
theorem dX12_resting_7 : decode cX12_resting 7 = .ok (.iconst 0, 1) := by decide +kernel
theorem dX12_resting_8 : decode cX12_resting 8 = .ok (.istore_n 2, 1) := by decide +kernel
theorem dX12_resting_9 : decode cX12_resting 9 = .ok (.iload_n 2, 1) := by decide +kernel
theorem dX12_resting_10 : decode cX12_resting 10 = .ok (.sipush 1023, 3) := by decide +kernel
theorem dX12_resting_13 : decode cX12_resting 13 = .ok (.if_icmp .gt 26, 3) := by decide +kernel
theorem dX12_resting_16 : decode cX12_resting 16 = .ok (.iload_n 1, 1) := by decide +kernel
theorem dX12_resting_17 : decode cX12_resting 17 = .ok (.aload_n 0, 1) := by decide +kernel
theorem dX12_resting_18 : decode cX12_resting 18 = .ok (.iload_n 2, 1) := by decide +kernel
theorem dX12_resting_19 : decode cX12_resting 19 = .ok (.invokevirtual 320, 3) := by decide +kernel
theorem dX12_resting_22 : decode cX12_resting 22 = .ok (.iconst (-1), 1) := by decide +kernel
theorem dX12_resting_23 : decode cX12_resting 23 = .ok (.if_icmp .ne 7, 3) := by decide +kernel
theorem dX12_resting_26 : decode cX12_resting 26 = .ok (.iconst 1, 1) := by decide +kernel
theorem dX12_resting_27 : decode cX12_resting 27 = .ok (.goto 4, 3) := by decide +kernel
theorem dX12_resting_30 : decode cX12_resting 30 = .ok (.iconst 0, 1) := by decide +kernel
theorem dX12_resting_31 : decode cX12_resting 31 = .ok (.iadd, 1) := by decide +kernel
theorem dX12_resting_32 : decode cX12_resting 32 = .ok (.istore_n 1, 1) := by decide +kernel
theorem dX12_resting_33 : decode cX12_resting 33 = .ok (.iinc 2 1, 3) := by decide +kernel
theorem dX12_resting_36 : decode cX12_resting 36 = .ok (.goto (-27), 3) := by decide +kernel
theorem dX12_resting_39 : decode cX12_resting 39 = .ok (.iload_n 1, 1) := by decide +kernel
theorem dX12_resting_40 : decode cX12_resting 40 = .ok (.ireturn, 1) := by decide +kernel
theorem dX12_sets_0 : decode cX12_sets 0 = .ok (.aload_n 0, 1) := by decide +kernel
theorem dX12_sets_1 : decode cX12_sets 1 = .ok (.iconst 0, 1) := by decide +kernel
theorem dX12_sets_2 : decode cX12_sets 2 = .ok (.putfield 139, 3) := by decide +kernel
theorem dX12_sets_5 : decode cX12_sets 5 = .ok (.iload_n 1, 1) := by decide +kernel
theorem dX12_sets_6 : decode cX12_sets 6 = .ok (.invokestatic 378, 3) := by decide +kernel
theorem dX12_sets_9 : decode cX12_sets 9 = .ok (.ifCond .ne 9, 3) := by decide +kernel
theorem dX12_sets_12 : decode cX12_sets 12 = .ok (.aload_n 0, 1) := by decide +kernel
theorem dX12_sets_13 : decode cX12_sets 13 = .ok (.iconst 1, 1) := by decide +kernel
theorem dX12_sets_14 : decode cX12_sets 14 = .ok (.invokevirtual 287, 3) := by decide +kernel
theorem dX12_sets_17 : decode cX12_sets 17 = .ok (.ireturn, 1) := by decide +kernel
theorem dX12_sets_18 : decode cX12_sets 18 = .ok (.iconst 0, 1) := by decide +kernel
theorem dX12_sets_19 : decode cX12_sets 19 = .ok (.istore_n 2, 1) := by decide +kernel
theorem dX12_sets_20 : decode cX12_sets 20 = .ok (.iconst 0, 1) := by decide +kernel
theorem dX12_sets_21 : decode cX12_sets 21 = .ok (.istore_n 3, 1) := by decide +kernel
theorem dX12_sets_22 : decode cX12_sets 22 = .ok (.iload_n 3, 1) := by decide +kernel
theorem dX12_sets_23 : decode cX12_sets 23 = .ok (.sipush 1023, 3) := by decide +kernel
theorem dX12_sets_26 : decode cX12_sets 26 = .ok (.if_icmp .gt 21, 3) := by decide +kernel
theorem dX12_sets_29 : decode cX12_sets 29 = .ok (.iload_n 2, 1) := by decide +kernel
theorem dX12_sets_30 : decode cX12_sets 30 = .ok (.aload_n 0, 1) := by decide +kernel
theorem dX12_sets_31 : decode cX12_sets 31 = .ok (.iload_n 3, 1) := by decide +kernel
theorem dX12_sets_32 : decode cX12_sets 32 = .ok (.invokevirtual 323, 3) := by decide +kernel
theorem dX12_sets_35 : decode cX12_sets 35 = .ok (.iload_n 1, 1) := by decide +kernel
theorem dX12_sets_36 : decode cX12_sets 36 = .ok (.ishr, 1) := by decide +kernel
theorem dX12_sets_37 : decode cX12_sets 37 = .ok (.iconst 1, 1) := by decide +kernel
theorem dX12_sets_38 : decode cX12_sets 38 = .ok (.iand, 1) := by decide +kernel
theorem dX12_sets_39 : decode cX12_sets 39 = .ok (.iadd, 1) := by decide +kernel
theorem dX12_sets_40 : decode cX12_sets 40 = .ok (.istore_n 2, 1) := by decide +kernel
theorem dX12_sets_41 : decode cX12_sets 41 = .ok (.iinc 3 1, 3) := by decide +kernel
theorem dX12_sets_44 : decode cX12_sets 44 = .ok (.goto (-22), 3) := by decide +kernel
theorem dX12_sets_47 : decode cX12_sets 47 = .ok (.iload_n 2, 1) := by decide +kernel
theorem dX12_sets_48 : decode cX12_sets 48 = .ok (.ireturn, 1) := by decide +kernel
theorem dX12_toDeny_0 : decode cX12_toDeny 0 = .ok (.aload_n 0, 1) := by decide +kernel
theorem dX12_toDeny_1 : decode cX12_toDeny 1 = .ok (.iconst 0, 1) := by decide +kernel
theorem dX12_toDeny_2 : decode cX12_toDeny 2 = .ok (.putfield 139, 3) := by decide +kernel
theorem dX12_toDeny_5 : decode cX12_toDeny 5 = .ok (.iload_n 2, 1) := by decide +kernel
theorem dX12_toDeny_6 : decode cX12_toDeny 6 = .ok (.invokestatic 378, 3) := by decide +kernel
theorem dX12_toDeny_9 : decode cX12_toDeny 9 = .ok (.ifCond .ne 9, 3) := by decide +kernel
theorem dX12_toDeny_12 : decode cX12_toDeny 12 = .ok (.aload_n 0, 1) := by decide +kernel
theorem dX12_toDeny_13 : decode cX12_toDeny 13 = .ok (.iconst 1, 1) := by decide +kernel
theorem dX12_toDeny_14 : decode cX12_toDeny 14 = .ok (.invokevirtual 287, 3) := by decide +kernel
theorem dX12_toDeny_17 : decode cX12_toDeny 17 = .ok (.ireturn, 1) := by decide +kernel
theorem dX12_toDeny_18 : decode cX12_toDeny 18 = .ok (.iload_n 1, 1) := by decide +kernel
theorem dX12_toDeny_19 : decode cX12_toDeny 19 = .ok (.invokestatic 412, 3) := by decide +kernel
theorem dX12_toDeny_22 : decode cX12_toDeny 22 = .ok (.ifCond .ne 9, 3) := by decide +kernel
theorem dX12_toDeny_25 : decode cX12_toDeny 25 = .ok (.aload_n 0, 1) := by decide +kernel
theorem dX12_toDeny_26 : decode cX12_toDeny 26 = .ok (.iconst 2, 1) := by decide +kernel
theorem dX12_toDeny_27 : decode cX12_toDeny 27 = .ok (.invokevirtual 287, 3) := by decide +kernel
theorem dX12_toDeny_30 : decode cX12_toDeny 30 = .ok (.ireturn, 1) := by decide +kernel
theorem dX12_toDeny_31 : decode cX12_toDeny 31 = .ok (.aload_n 0, 1) := by decide +kernel
theorem dX12_toDeny_32 : decode cX12_toDeny 32 = .ok (.getfield 304, 3) := by decide +kernel
theorem dX12_toDeny_35 : decode cX12_toDeny 35 = .ok (.istore_n 3, 1) := by decide +kernel
theorem dX12_toDeny_36 : decode cX12_toDeny 36 = .ok (.iconst (-1), 1) := by decide +kernel
theorem dX12_toDeny_37 : decode cX12_toDeny 37 = .ok (.istore 4, 2) := by decide +kernel
theorem dX12_toDeny_39 : decode cX12_toDeny 39 = .ok (.iconst 0, 1) := by decide +kernel
theorem dX12_toDeny_40 : decode cX12_toDeny 40 = .ok (.istore 5, 2) := by decide +kernel
theorem dX12_toDeny_42 : decode cX12_toDeny 42 = .ok (.iload 5, 2) := by decide +kernel
theorem dX12_toDeny_44 : decode cX12_toDeny 44 = .ok (.iconst 1, 1) := by decide +kernel
theorem dX12_toDeny_45 : decode cX12_toDeny 45 = .ok (.aload_n 0, 1) := by decide +kernel
theorem dX12_toDeny_46 : decode cX12_toDeny 46 = .ok (.getfield 36, 3) := by decide +kernel
theorem dX12_toDeny_49 : decode cX12_toDeny 49 = .ok (.iconst 1, 1) := by decide +kernel
theorem dX12_toDeny_50 : decode cX12_toDeny 50 = .ok (.iaload, 1) := by decide +kernel
theorem dX12_toDeny_51 : decode cX12_toDeny 51 = .ok (.ishl, 1) := by decide +kernel
theorem dX12_toDeny_52 : decode cX12_toDeny 52 = .ok (.if_icmp .ge 70, 3) := by decide +kernel
theorem dX12_toDeny_55 : decode cX12_toDeny 55 = .ok (.iload_n 1, 1) := by decide +kernel
theorem dX12_toDeny_56 : decode cX12_toDeny 56 = .ok (.iload_n 2, 1) := by decide +kernel
theorem dX12_toDeny_57 : decode cX12_toDeny 57 = .ok (.invokestatic 263, 3) := by decide +kernel
theorem dX12_toDeny_60 : decode cX12_toDeny 60 = .ok (.ifCond .ne 62, 3) := by decide +kernel
theorem dX12_toDeny_63 : decode cX12_toDeny 63 = .ok (.iload 5, 2) := by decide +kernel
theorem dX12_toDeny_65 : decode cX12_toDeny 65 = .ok (.iload_n 3, 1) := by decide +kernel
theorem dX12_toDeny_66 : decode cX12_toDeny 66 = .ok (.iand, 1) := by decide +kernel
theorem dX12_toDeny_67 : decode cX12_toDeny 67 = .ok (.ifCond .ne 49, 3) := by decide +kernel
theorem dX12_toDeny_70 : decode cX12_toDeny 70 = .ok (.iload 4, 2) := by decide +kernel
theorem dX12_toDeny_72 : decode cX12_toDeny 72 = .ok (.iconst (-1), 1) := by decide +kernel
theorem dX12_toDeny_73 : decode cX12_toDeny 73 = .ok (.if_icmp .eq 19, 3) := by decide +kernel
theorem dX12_toDeny_76 : decode cX12_toDeny 76 = .ok (.iload 5, 2) := by decide +kernel
theorem dX12_toDeny_78 : decode cX12_toDeny 78 = .ok (.invokestatic 357, 3) := by decide +kernel
theorem dX12_toDeny_81 : decode cX12_toDeny 81 = .ok (.iload 4, 2) := by decide +kernel
theorem dX12_toDeny_83 : decode cX12_toDeny 83 = .ok (.invokestatic 357, 3) := by decide +kernel
theorem dX12_toDeny_86 : decode cX12_toDeny 86 = .ok (.if_icmp .lt 6, 3) := by decide +kernel
theorem dX12_toDeny_89 : decode cX12_toDeny 89 = .ok (.goto 27, 3) := by decide +kernel
theorem dX12_toDeny_92 : decode cX12_toDeny 92 = .ok (.aload_n 0, 1) := by decide +kernel
theorem dX12_toDeny_93 : decode cX12_toDeny 93 = .ok (.iload_n 3, 1) := by decide +kernel
theorem dX12_toDeny_94 : decode cX12_toDeny 94 = .ok (.iload 5, 2) := by decide +kernel
theorem dX12_toDeny_96 : decode cX12_toDeny 96 = .ok (.ior, 1) := by decide +kernel
theorem dX12_toDeny_97 : decode cX12_toDeny 97 = .ok (.putfield 304, 3) := by decide +kernel
theorem dX12_toDeny_100 : decode cX12_toDeny 100 = .ok (.aload_n 0, 1) := by decide +kernel
theorem dX12_toDeny_101 : decode cX12_toDeny 101 = .ok (.iload_n 1, 1) := by decide +kernel
theorem dX12_toDeny_102 : decode cX12_toDeny 102 = .ok (.invokevirtual 323, 3) := by decide +kernel
theorem dX12_toDeny_105 : decode cX12_toDeny 105 = .ok (.iload_n 2, 1) := by decide +kernel
theorem dX12_toDeny_106 : decode cX12_toDeny 106 = .ok (.invokestatic 263, 3) := by decide +kernel
theorem dX12_toDeny_109 : decode cX12_toDeny 109 = .ok (.ifCond .ne 7, 3) := by decide +kernel
theorem dX12_toDeny_112 : decode cX12_toDeny 112 = .ok (.iload 5, 2) := by decide +kernel
theorem dX12_toDeny_114 : decode cX12_toDeny 114 = .ok (.istore 4, 2) := by decide +kernel
theorem dX12_toDeny_116 : decode cX12_toDeny 116 = .ok (.iinc 5 1, 3) := by decide +kernel
theorem dX12_toDeny_119 : decode cX12_toDeny 119 = .ok (.goto (-77), 3) := by decide +kernel
theorem dX12_toDeny_122 : decode cX12_toDeny 122 = .ok (.aload_n 0, 1) := by decide +kernel
theorem dX12_toDeny_123 : decode cX12_toDeny 123 = .ok (.iload_n 3, 1) := by decide +kernel
theorem dX12_toDeny_124 : decode cX12_toDeny 124 = .ok (.putfield 304, 3) := by decide +kernel
theorem dX12_toDeny_127 : decode cX12_toDeny 127 = .ok (.iload 4, 2) := by decide +kernel
theorem dX12_toDeny_129 : decode cX12_toDeny 129 = .ok (.ireturn, 1) := by decide +kernel
theorem dX12_like_0 : decode cX12_like 0 = .ok (.aload_n 0, 1) := by decide +kernel
theorem dX12_like_1 : decode cX12_like 1 = .ok (.iconst 0, 1) := by decide +kernel
theorem dX12_like_2 : decode cX12_like 2 = .ok (.putfield 139, 3) := by decide +kernel
theorem dX12_like_5 : decode cX12_like 5 = .ok (.aload_n 0, 1) := by decide +kernel
theorem dX12_like_6 : decode cX12_like 6 = .ok (.iload_n 1, 1) := by decide +kernel
theorem dX12_like_7 : decode cX12_like 7 = .ok (.invokevirtual 384, 3) := by decide +kernel
theorem dX12_like_10 : decode cX12_like 10 = .ok (.ifCond .eq 12, 3) := by decide +kernel
theorem dX12_like_13 : decode cX12_like 13 = .ok (.iload_n 2, 1) := by decide +kernel
theorem dX12_like_14 : decode cX12_like 14 = .ok (.ifCond .lt 8, 3) := by decide +kernel
theorem dX12_like_17 : decode cX12_like 17 = .ok (.iload_n 2, 1) := by decide +kernel
theorem dX12_like_18 : decode cX12_like 18 = .ok (.iconst 1, 1) := by decide +kernel
theorem dX12_like_19 : decode cX12_like 19 = .ok (.if_icmp .le 9, 3) := by decide +kernel
theorem dX12_like_22 : decode cX12_like 22 = .ok (.aload_n 0, 1) := by decide +kernel
theorem dX12_like_23 : decode cX12_like 23 = .ok (.iconst 1, 1) := by decide +kernel
theorem dX12_like_24 : decode cX12_like 24 = .ok (.invokevirtual 287, 3) := by decide +kernel
theorem dX12_like_27 : decode cX12_like 27 = .ok (.ireturn, 1) := by decide +kernel
theorem dX12_like_28 : decode cX12_like 28 = .ok (.aload_n 0, 1) := by decide +kernel
theorem dX12_like_29 : decode cX12_like 29 = .ok (.iload_n 1, 1) := by decide +kernel
theorem dX12_like_30 : decode cX12_like 30 = .ok (.invokevirtual 333, 3) := by decide +kernel
theorem dX12_like_33 : decode cX12_like 33 = .ok (.istore_n 3, 1) := by decide +kernel
theorem dX12_like_34 : decode cX12_like 34 = .ok (.iconst 0, 1) := by decide +kernel
theorem dX12_like_35 : decode cX12_like 35 = .ok (.istore 4, 2) := by decide +kernel
theorem dX12_like_37 : decode cX12_like 37 = .ok (.iconst 0, 1) := by decide +kernel
theorem dX12_like_38 : decode cX12_like 38 = .ok (.istore 5, 2) := by decide +kernel
theorem dX12_like_40 : decode cX12_like 40 = .ok (.iload 5, 2) := by decide +kernel
theorem dX12_like_42 : decode cX12_like 42 = .ok (.aload_n 0, 1) := by decide +kernel
theorem dX12_like_43 : decode cX12_like 43 = .ok (.getfield 36, 3) := by decide +kernel
theorem dX12_like_46 : decode cX12_like 46 = .ok (.iconst 0, 1) := by decide +kernel
theorem dX12_like_47 : decode cX12_like 47 = .ok (.iaload, 1) := by decide +kernel
theorem dX12_like_48 : decode cX12_like 48 = .ok (.if_icmp .ge 46, 3) := by decide +kernel
theorem dX12_like_51 : decode cX12_like 51 = .ok (.iload 4, 2) := by decide +kernel
theorem dX12_like_53 : decode cX12_like 53 = .ok (.iload_n 2, 1) := by decide +kernel
theorem dX12_like_54 : decode cX12_like 54 = .ok (.ifCond .ne 12, 3) := by decide +kernel
theorem dX12_like_57 : decode cX12_like 57 = .ok (.aload_n 0, 1) := by decide +kernel
theorem dX12_like_58 : decode cX12_like 58 = .ok (.iload 5, 2) := by decide +kernel
theorem dX12_like_60 : decode cX12_like 60 = .ok (.invokevirtual 333, 3) := by decide +kernel
theorem dX12_like_63 : decode cX12_like 63 = .ok (.goto 10, 3) := by decide +kernel
theorem dX12_like_66 : decode cX12_like 66 = .ok (.aload_n 0, 1) := by decide +kernel
theorem dX12_like_67 : decode cX12_like 67 = .ok (.getfield 80, 3) := by decide +kernel
theorem dX12_like_70 : decode cX12_like 70 = .ok (.iload 5, 2) := by decide +kernel
theorem dX12_like_72 : decode cX12_like 72 = .ok (.iaload, 1) := by decide +kernel
theorem dX12_like_73 : decode cX12_like 73 = .ok (.iload_n 3, 1) := by decide +kernel
theorem dX12_like_74 : decode cX12_like 74 = .ok (.if_icmp .ne 10, 3) := by decide +kernel
theorem dX12_like_77 : decode cX12_like 77 = .ok (.iconst 1, 1) := by decide +kernel
theorem dX12_like_78 : decode cX12_like 78 = .ok (.iload 5, 2) := by decide +kernel
theorem dX12_like_80 : decode cX12_like 80 = .ok (.ishl, 1) := by decide +kernel
theorem dX12_like_81 : decode cX12_like 81 = .ok (.goto 4, 3) := by decide +kernel
theorem dX12_like_84 : decode cX12_like 84 = .ok (.iconst 0, 1) := by decide +kernel
theorem dX12_like_85 : decode cX12_like 85 = .ok (.ior, 1) := by decide +kernel
theorem dX12_like_86 : decode cX12_like 86 = .ok (.istore 4, 2) := by decide +kernel
theorem dX12_like_88 : decode cX12_like 88 = .ok (.iinc 5 1, 3) := by decide +kernel
theorem dX12_like_91 : decode cX12_like 91 = .ok (.goto (-51), 3) := by decide +kernel
theorem dX12_like_94 : decode cX12_like 94 = .ok (.iload 4, 2) := by decide +kernel
theorem dX12_like_96 : decode cX12_like 96 = .ok (.ireturn, 1) := by decide +kernel
theorem dX12_toSend_0 : decode cX12_toSend 0 = .ok (.aload_n 0, 1) := by decide +kernel
theorem dX12_toSend_1 : decode cX12_toSend 1 = .ok (.iconst 0, 1) := by decide +kernel
theorem dX12_toSend_2 : decode cX12_toSend 2 = .ok (.putfield 139, 3) := by decide +kernel
theorem dX12_toSend_5 : decode cX12_toSend 5 = .ok (.iload_n 1, 1) := by decide +kernel
theorem dX12_toSend_6 : decode cX12_toSend 6 = .ok (.i2l, 1) := by decide +kernel
theorem dX12_toSend_7 : decode cX12_toSend 7 = .ok (.lconst 0, 1) := by decide +kernel
theorem dX12_toSend_8 : decode cX12_toSend 8 = .ok (.ldc2_w 405, 3) := by decide +kernel
theorem dX12_toSend_11 : decode cX12_toSend 11 = .ok (.invokestatic 142, 3) := by decide +kernel
theorem dX12_toSend_14 : decode cX12_toSend 14 = .ok (.ifCond .ne 9, 3) := by decide +kernel
theorem dX12_toSend_17 : decode cX12_toSend 17 = .ok (.aload_n 0, 1) := by decide +kernel
theorem dX12_toSend_18 : decode cX12_toSend 18 = .ok (.iconst 1, 1) := by decide +kernel
theorem dX12_toSend_19 : decode cX12_toSend 19 = .ok (.invokevirtual 287, 3) := by decide +kernel
theorem dX12_toSend_22 : decode cX12_toSend 22 = .ok (.ireturn, 1) := by decide +kernel
theorem dX12_toSend_23 : decode cX12_toSend 23 = .ok (.iconst (-1), 1) := by decide +kernel
theorem dX12_toSend_24 : decode cX12_toSend 24 = .ok (.istore_n 2, 1) := by decide +kernel
theorem dX12_toSend_25 : decode cX12_toSend 25 = .ok (.iconst (-1), 1) := by decide +kernel
theorem dX12_toSend_26 : decode cX12_toSend 26 = .ok (.istore_n 3, 1) := by decide +kernel
theorem dX12_toSend_27 : decode cX12_toSend 27 = .ok (.iconst 0, 1) := by decide +kernel
theorem dX12_toSend_28 : decode cX12_toSend 28 = .ok (.istore 4, 2) := by decide +kernel
theorem dX12_toSend_30 : decode cX12_toSend 30 = .ok (.iload 4, 2) := by decide +kernel
theorem dX12_toSend_32 : decode cX12_toSend 32 = .ok (.iconst 1, 1) := by decide +kernel
theorem dX12_toSend_33 : decode cX12_toSend 33 = .ok (.aload_n 0, 1) := by decide +kernel
theorem dX12_toSend_34 : decode cX12_toSend 34 = .ok (.getfield 36, 3) := by decide +kernel
theorem dX12_toSend_37 : decode cX12_toSend 37 = .ok (.iconst 0, 1) := by decide +kernel
theorem dX12_toSend_38 : decode cX12_toSend 38 = .ok (.iaload, 1) := by decide +kernel
theorem dX12_toSend_39 : decode cX12_toSend 39 = .ok (.ishl, 1) := by decide +kernel
theorem dX12_toSend_40 : decode cX12_toSend 40 = .ok (.if_icmp .ge 90, 3) := by decide +kernel
theorem dX12_toSend_43 : decode cX12_toSend 43 = .ok (.iload 4, 2) := by decide +kernel
theorem dX12_toSend_45 : decode cX12_toSend 45 = .ok (.invokestatic 357, 3) := by decide +kernel
theorem dX12_toSend_48 : decode cX12_toSend 48 = .ok (.iload_n 1, 1) := by decide +kernel
theorem dX12_toSend_49 : decode cX12_toSend 49 = .ok (.if_icmp .eq 6, 3) := by decide +kernel
theorem dX12_toSend_52 : decode cX12_toSend 52 = .ok (.goto 72, 3) := by decide +kernel
theorem dX12_toSend_55 : decode cX12_toSend 55 = .ok (.iconst 0, 1) := by decide +kernel
theorem dX12_toSend_56 : decode cX12_toSend 56 = .ok (.istore 5, 2) := by decide +kernel
theorem dX12_toSend_58 : decode cX12_toSend 58 = .ok (.iconst 0, 1) := by decide +kernel
theorem dX12_toSend_59 : decode cX12_toSend 59 = .ok (.istore 6, 2) := by decide +kernel
theorem dX12_toSend_61 : decode cX12_toSend 61 = .ok (.iload 6, 2) := by decide +kernel
theorem dX12_toSend_63 : decode cX12_toSend 63 = .ok (.aload_n 0, 1) := by decide +kernel
theorem dX12_toSend_64 : decode cX12_toSend 64 = .ok (.getfield 36, 3) := by decide +kernel
theorem dX12_toSend_67 : decode cX12_toSend 67 = .ok (.iconst 0, 1) := by decide +kernel
theorem dX12_toSend_68 : decode cX12_toSend 68 = .ok (.iaload, 1) := by decide +kernel
theorem dX12_toSend_69 : decode cX12_toSend 69 = .ok (.if_icmp .ge 34, 3) := by decide +kernel
theorem dX12_toSend_72 : decode cX12_toSend 72 = .ok (.iload 5, 2) := by decide +kernel
theorem dX12_toSend_74 : decode cX12_toSend 74 = .ok (.iload 4, 2) := by decide +kernel
theorem dX12_toSend_76 : decode cX12_toSend 76 = .ok (.iload 6, 2) := by decide +kernel
theorem dX12_toSend_78 : decode cX12_toSend 78 = .ok (.invokestatic 263, 3) := by decide +kernel
theorem dX12_toSend_81 : decode cX12_toSend 81 = .ok (.ifCond .eq 12, 3) := by decide +kernel
theorem dX12_toSend_84 : decode cX12_toSend 84 = .ok (.aload_n 0, 1) := by decide +kernel
theorem dX12_toSend_85 : decode cX12_toSend 85 = .ok (.iload 6, 2) := by decide +kernel
theorem dX12_toSend_87 : decode cX12_toSend 87 = .ok (.invokevirtual 333, 3) := by decide +kernel
theorem dX12_toSend_90 : decode cX12_toSend 90 = .ok (.goto 4, 3) := by decide +kernel
theorem dX12_toSend_93 : decode cX12_toSend 93 = .ok (.iconst 0, 1) := by decide +kernel
theorem dX12_toSend_94 : decode cX12_toSend 94 = .ok (.ior, 1) := by decide +kernel
theorem dX12_toSend_95 : decode cX12_toSend 95 = .ok (.istore 5, 2) := by decide +kernel
theorem dX12_toSend_97 : decode cX12_toSend 97 = .ok (.iinc 6 1, 3) := by decide +kernel
theorem dX12_toSend_100 : decode cX12_toSend 100 = .ok (.goto (-39), 3) := by decide +kernel
theorem dX12_toSend_103 : decode cX12_toSend 103 = .ok (.iload 5, 2) := by decide +kernel
theorem dX12_toSend_105 : decode cX12_toSend 105 = .ok (.invokestatic 357, 3) := by decide +kernel
theorem dX12_toSend_108 : decode cX12_toSend 108 = .ok (.iload_n 3, 1) := by decide +kernel
theorem dX12_toSend_109 : decode cX12_toSend 109 = .ok (.if_icmp .gt 6, 3) := by decide +kernel
theorem dX12_toSend_112 : decode cX12_toSend 112 = .ok (.goto 12, 3) := by decide +kernel
theorem dX12_toSend_115 : decode cX12_toSend 115 = .ok (.iload 4, 2) := by decide +kernel
theorem dX12_toSend_117 : decode cX12_toSend 117 = .ok (.istore_n 2, 1) := by decide +kernel
theorem dX12_toSend_118 : decode cX12_toSend 118 = .ok (.iload 5, 2) := by decide +kernel
theorem dX12_toSend_120 : decode cX12_toSend 120 = .ok (.invokestatic 357, 3) := by decide +kernel
theorem dX12_toSend_123 : decode cX12_toSend 123 = .ok (.istore_n 3, 1) := by decide +kernel
theorem dX12_toSend_124 : decode cX12_toSend 124 = .ok (.iinc 4 1, 3) := by decide +kernel
theorem dX12_toSend_127 : decode cX12_toSend 127 = .ok (.goto (-97), 3) := by decide +kernel
theorem dX12_toSend_130 : decode cX12_toSend 130 = .ok (.iload_n 2, 1) := by decide +kernel
theorem dX12_toSend_131 : decode cX12_toSend 131 = .ok (.ireturn, 1) := by decide +kernel
theorem dX12_worthBy_0 : decode cX12_worthBy 0 = .ok (.aload_n 0, 1) := by decide +kernel
theorem dX12_worthBy_1 : decode cX12_worthBy 1 = .ok (.iload_n 2, 1) := by decide +kernel
theorem dX12_worthBy_2 : decode cX12_worthBy 2 = .ok (.ifCond .ne 12, 3) := by decide +kernel
theorem dX12_worthBy_5 : decode cX12_worthBy 5 = .ok (.aload_n 0, 1) := by decide +kernel
theorem dX12_worthBy_6 : decode cX12_worthBy 6 = .ok (.getfield 80, 3) := by decide +kernel
theorem dX12_worthBy_9 : decode cX12_worthBy 9 = .ok (.iload_n 1, 1) := by decide +kernel
theorem dX12_worthBy_10 : decode cX12_worthBy 10 = .ok (.iaload, 1) := by decide +kernel
theorem dX12_worthBy_11 : decode cX12_worthBy 11 = .ok (.goto 21, 3) := by decide +kernel
theorem dX12_worthBy_14 : decode cX12_worthBy 14 = .ok (.iload_n 2, 1) := by decide +kernel
theorem dX12_worthBy_15 : decode cX12_worthBy 15 = .ok (.iconst 1, 1) := by decide +kernel
theorem dX12_worthBy_16 : decode cX12_worthBy 16 = .ok (.if_icmp .ne 11, 3) := by decide +kernel
theorem dX12_worthBy_19 : decode cX12_worthBy 19 = .ok (.aload_n 0, 1) := by decide +kernel
theorem dX12_worthBy_20 : decode cX12_worthBy 20 = .ok (.iload_n 1, 1) := by decide +kernel
theorem dX12_worthBy_21 : decode cX12_worthBy 21 = .ok (.invokevirtual 333, 3) := by decide +kernel
theorem dX12_worthBy_24 : decode cX12_worthBy 24 = .ok (.goto 8, 3) := by decide +kernel
theorem dX12_worthBy_27 : decode cX12_worthBy 27 = .ok (.aload_n 0, 1) := by decide +kernel
theorem dX12_worthBy_28 : decode cX12_worthBy 28 = .ok (.iload_n 1, 1) := by decide +kernel
theorem dX12_worthBy_29 : decode cX12_worthBy 29 = .ok (.invokevirtual 336, 3) := by decide +kernel
theorem dX12_worthBy_32 : decode cX12_worthBy 32 = .ok (.invokevirtual 330, 3) := by decide +kernel
theorem dX12_worthBy_35 : decode cX12_worthBy 35 = .ok (.ireturn, 1) := by decide +kernel
theorem dX12_happiest_0 : decode cX12_happiest 0 = .ok (.aload_n 0, 1) := by decide +kernel
theorem dX12_happiest_1 : decode cX12_happiest 1 = .ok (.iconst 0, 1) := by decide +kernel
theorem dX12_happiest_2 : decode cX12_happiest 2 = .ok (.putfield 139, 3) := by decide +kernel
theorem dX12_happiest_5 : decode cX12_happiest 5 = .ok (.iload_n 1, 1) := by decide +kernel
theorem dX12_happiest_6 : decode cX12_happiest 6 = .ok (.i2l, 1) := by decide +kernel
theorem dX12_happiest_7 : decode cX12_happiest 7 = .ok (.lconst 0, 1) := by decide +kernel
theorem dX12_happiest_8 : decode cX12_happiest 8 = .ok (.ldc2_w 418, 3) := by decide +kernel
theorem dX12_happiest_11 : decode cX12_happiest 11 = .ok (.invokestatic 142, 3) := by decide +kernel
theorem dX12_happiest_14 : decode cX12_happiest 14 = .ok (.ifCond .ne 9, 3) := by decide +kernel
theorem dX12_happiest_17 : decode cX12_happiest 17 = .ok (.aload_n 0, 1) := by decide +kernel
theorem dX12_happiest_18 : decode cX12_happiest 18 = .ok (.iconst 1, 1) := by decide +kernel
theorem dX12_happiest_19 : decode cX12_happiest 19 = .ok (.invokevirtual 287, 3) := by decide +kernel
theorem dX12_happiest_22 : decode cX12_happiest 22 = .ok (.ireturn, 1) := by decide +kernel
theorem dX12_happiest_23 : decode cX12_happiest 23 = .ok (.iconst (-1), 1) := by decide +kernel
theorem dX12_happiest_24 : decode cX12_happiest 24 = .ok (.istore_n 2, 1) := by decide +kernel
theorem dX12_happiest_25 : decode cX12_happiest 25 = .ok (.iconst 0, 1) := by decide +kernel
theorem dX12_happiest_26 : decode cX12_happiest 26 = .ok (.istore_n 3, 1) := by decide +kernel
theorem dX12_happiest_27 : decode cX12_happiest 27 = .ok (.iload_n 3, 1) := by decide +kernel
theorem dX12_happiest_28 : decode cX12_happiest 28 = .ok (.aload_n 0, 1) := by decide +kernel
theorem dX12_happiest_29 : decode cX12_happiest 29 = .ok (.getfield 36, 3) := by decide +kernel
theorem dX12_happiest_32 : decode cX12_happiest 32 = .ok (.iconst 0, 1) := by decide +kernel
theorem dX12_happiest_33 : decode cX12_happiest 33 = .ok (.iaload, 1) := by decide +kernel
theorem dX12_happiest_34 : decode cX12_happiest 34 = .ok (.if_icmp .ge 31, 3) := by decide +kernel
theorem dX12_happiest_37 : decode cX12_happiest 37 = .ok (.iload_n 2, 1) := by decide +kernel
theorem dX12_happiest_38 : decode cX12_happiest 38 = .ok (.iconst (-1), 1) := by decide +kernel
theorem dX12_happiest_39 : decode cX12_happiest 39 = .ok (.if_icmp .eq 18, 3) := by decide +kernel
theorem dX12_happiest_42 : decode cX12_happiest 42 = .ok (.aload_n 0, 1) := by decide +kernel
theorem dX12_happiest_43 : decode cX12_happiest 43 = .ok (.iload_n 3, 1) := by decide +kernel
theorem dX12_happiest_44 : decode cX12_happiest 44 = .ok (.iload_n 1, 1) := by decide +kernel
theorem dX12_happiest_45 : decode cX12_happiest 45 = .ok (.invokevirtual 420, 3) := by decide +kernel
theorem dX12_happiest_48 : decode cX12_happiest 48 = .ok (.aload_n 0, 1) := by decide +kernel
theorem dX12_happiest_49 : decode cX12_happiest 49 = .ok (.iload_n 2, 1) := by decide +kernel
theorem dX12_happiest_50 : decode cX12_happiest 50 = .ok (.iload_n 1, 1) := by decide +kernel
theorem dX12_happiest_51 : decode cX12_happiest 51 = .ok (.invokevirtual 420, 3) := by decide +kernel
theorem dX12_happiest_54 : decode cX12_happiest 54 = .ok (.if_icmp .le 5, 3) := by decide +kernel
theorem dX12_happiest_57 : decode cX12_happiest 57 = .ok (.iload_n 3, 1) := by decide +kernel
theorem dX12_happiest_58 : decode cX12_happiest 58 = .ok (.istore_n 2, 1) := by decide +kernel
theorem dX12_happiest_59 : decode cX12_happiest 59 = .ok (.iinc 3 1, 3) := by decide +kernel
theorem dX12_happiest_62 : decode cX12_happiest 62 = .ok (.goto (-35), 3) := by decide +kernel
theorem dX12_happiest_65 : decode cX12_happiest 65 = .ok (.iload_n 2, 1) := by decide +kernel
theorem dX12_happiest_66 : decode cX12_happiest 66 = .ok (.ireturn, 1) := by decide +kernel
theorem dX12_critical_0 : decode cX12_critical 0 = .ok (.aload_n 0, 1) := by decide +kernel
theorem dX12_critical_1 : decode cX12_critical 1 = .ok (.iconst 0, 1) := by decide +kernel
theorem dX12_critical_2 : decode cX12_critical 2 = .ok (.putfield 139, 3) := by decide +kernel
theorem dX12_critical_5 : decode cX12_critical 5 = .ok (.aload_n 0, 1) := by decide +kernel
theorem dX12_critical_6 : decode cX12_critical 6 = .ok (.iload_n 1, 1) := by decide +kernel
theorem dX12_critical_7 : decode cX12_critical 7 = .ok (.invokevirtual 384, 3) := by decide +kernel
theorem dX12_critical_10 : decode cX12_critical 10 = .ok (.ifCond .eq 28, 3) := by decide +kernel
theorem dX12_critical_13 : decode cX12_critical 13 = .ok (.aload_n 0, 1) := by decide +kernel
theorem dX12_critical_14 : decode cX12_critical 14 = .ok (.aload_n 0, 1) := by decide +kernel
theorem dX12_critical_15 : decode cX12_critical 15 = .ok (.getfield 80, 3) := by decide +kernel
theorem dX12_critical_18 : decode cX12_critical 18 = .ok (.iload_n 1, 1) := by decide +kernel
theorem dX12_critical_19 : decode cX12_critical 19 = .ok (.iaload, 1) := by decide +kernel
theorem dX12_critical_20 : decode cX12_critical 20 = .ok (.iconst 1, 1) := by decide +kernel
theorem dX12_critical_21 : decode cX12_critical 21 = .ok (.aload_n 0, 1) := by decide +kernel
theorem dX12_critical_22 : decode cX12_critical 22 = .ok (.getfield 83, 3) := by decide +kernel
theorem dX12_critical_25 : decode cX12_critical 25 = .ok (.iload_n 1, 1) := by decide +kernel
theorem dX12_critical_26 : decode cX12_critical 26 = .ok (.iaload, 1) := by decide +kernel
theorem dX12_critical_27 : decode cX12_critical 27 = .ok (.ishl, 1) := by decide +kernel
theorem dX12_critical_28 : decode cX12_critical 28 = .ok (.ior, 1) := by decide +kernel
theorem dX12_critical_29 : decode cX12_critical 29 = .ok (.sipush 1023, 3) := by decide +kernel
theorem dX12_critical_32 : decode cX12_critical 32 = .ok (.invokevirtual 415, 3) := by decide +kernel
theorem dX12_critical_35 : decode cX12_critical 35 = .ok (.goto 8, 3) := by decide +kernel
theorem dX12_critical_38 : decode cX12_critical 38 = .ok (.aload_n 0, 1) := by decide +kernel
theorem dX12_critical_39 : decode cX12_critical 39 = .ok (.iconst 1, 1) := by decide +kernel
theorem dX12_critical_40 : decode cX12_critical 40 = .ok (.invokevirtual 287, 3) := by decide +kernel
theorem dX12_critical_43 : decode cX12_critical 43 = .ok (.ireturn, 1) := by decide +kernel
theorem dX12_bestMissed_0 : decode cX12_bestMissed 0 = .ok (.aload_n 0, 1) := by decide +kernel
theorem dX12_bestMissed_1 : decode cX12_bestMissed 1 = .ok (.iconst 0, 1) := by decide +kernel
theorem dX12_bestMissed_2 : decode cX12_bestMissed 2 = .ok (.putfield 139, 3) := by decide +kernel
theorem dX12_bestMissed_5 : decode cX12_bestMissed 5 = .ok (.aload_n 0, 1) := by decide +kernel
theorem dX12_bestMissed_6 : decode cX12_bestMissed 6 = .ok (.iload_n 1, 1) := by decide +kernel
theorem dX12_bestMissed_7 : decode cX12_bestMissed 7 = .ok (.invokevirtual 384, 3) := by decide +kernel
theorem dX12_bestMissed_10 : decode cX12_bestMissed 10 = .ok (.ifCond .ne 9, 3) := by decide +kernel
theorem dX12_bestMissed_13 : decode cX12_bestMissed 13 = .ok (.aload_n 0, 1) := by decide +kernel
theorem dX12_bestMissed_14 : decode cX12_bestMissed 14 = .ok (.iconst 1, 1) := by decide +kernel
theorem dX12_bestMissed_15 : decode cX12_bestMissed 15 = .ok (.invokevirtual 287, 3) := by decide +kernel
theorem dX12_bestMissed_18 : decode cX12_bestMissed 18 = .ok (.ireturn, 1) := by decide +kernel
theorem dX12_bestMissed_19 : decode cX12_bestMissed 19 = .ok (.iconst 0, 1) := by decide +kernel
theorem dX12_bestMissed_20 : decode cX12_bestMissed 20 = .ok (.istore_n 2, 1) := by decide +kernel
theorem dX12_bestMissed_21 : decode cX12_bestMissed 21 = .ok (.iconst 1, 1) := by decide +kernel
theorem dX12_bestMissed_22 : decode cX12_bestMissed 22 = .ok (.istore_n 3, 1) := by decide +kernel
theorem dX12_bestMissed_23 : decode cX12_bestMissed 23 = .ok (.iload_n 3, 1) := by decide +kernel
theorem dX12_bestMissed_24 : decode cX12_bestMissed 24 = .ok (.bipush 10, 2) := by decide +kernel
theorem dX12_bestMissed_26 : decode cX12_bestMissed 26 = .ok (.if_icmp .ge 50, 3) := by decide +kernel
theorem dX12_bestMissed_29 : decode cX12_bestMissed 29 = .ok (.aload_n 0, 1) := by decide +kernel
theorem dX12_bestMissed_30 : decode cX12_bestMissed 30 = .ok (.aload_n 0, 1) := by decide +kernel
theorem dX12_bestMissed_31 : decode cX12_bestMissed 31 = .ok (.aload_n 0, 1) := by decide +kernel
theorem dX12_bestMissed_32 : decode cX12_bestMissed 32 = .ok (.getfield 80, 3) := by decide +kernel
theorem dX12_bestMissed_35 : decode cX12_bestMissed 35 = .ok (.iload_n 1, 1) := by decide +kernel
theorem dX12_bestMissed_36 : decode cX12_bestMissed 36 = .ok (.iaload, 1) := by decide +kernel
theorem dX12_bestMissed_37 : decode cX12_bestMissed 37 = .ok (.iconst 1, 1) := by decide +kernel
theorem dX12_bestMissed_38 : decode cX12_bestMissed 38 = .ok (.iload_n 3, 1) := by decide +kernel
theorem dX12_bestMissed_39 : decode cX12_bestMissed 39 = .ok (.ishl, 1) := by decide +kernel
theorem dX12_bestMissed_40 : decode cX12_bestMissed 40 = .ok (.ior, 1) := by decide +kernel
theorem dX12_bestMissed_41 : decode cX12_bestMissed 41 = .ok (.invokevirtual 323, 3) := by decide +kernel
theorem dX12_bestMissed_44 : decode cX12_bestMissed 44 = .ok (.invokevirtual 330, 3) := by decide +kernel
theorem dX12_bestMissed_47 : decode cX12_bestMissed 47 = .ok (.aload_n 0, 1) := by decide +kernel
theorem dX12_bestMissed_48 : decode cX12_bestMissed 48 = .ok (.aload_n 0, 1) := by decide +kernel
theorem dX12_bestMissed_49 : decode cX12_bestMissed 49 = .ok (.aload_n 0, 1) := by decide +kernel
theorem dX12_bestMissed_50 : decode cX12_bestMissed 50 = .ok (.getfield 80, 3) := by decide +kernel
theorem dX12_bestMissed_53 : decode cX12_bestMissed 53 = .ok (.iload_n 1, 1) := by decide +kernel
theorem dX12_bestMissed_54 : decode cX12_bestMissed 54 = .ok (.iaload, 1) := by decide +kernel
theorem dX12_bestMissed_55 : decode cX12_bestMissed 55 = .ok (.iconst 1, 1) := by decide +kernel
theorem dX12_bestMissed_56 : decode cX12_bestMissed 56 = .ok (.iload_n 2, 1) := by decide +kernel
theorem dX12_bestMissed_57 : decode cX12_bestMissed 57 = .ok (.ishl, 1) := by decide +kernel
theorem dX12_bestMissed_58 : decode cX12_bestMissed 58 = .ok (.ior, 1) := by decide +kernel
theorem dX12_bestMissed_59 : decode cX12_bestMissed 59 = .ok (.invokevirtual 323, 3) := by decide +kernel
theorem dX12_bestMissed_62 : decode cX12_bestMissed 62 = .ok (.invokevirtual 330, 3) := by decide +kernel
theorem dX12_bestMissed_65 : decode cX12_bestMissed 65 = .ok (.if_icmp .le 5, 3) := by decide +kernel
theorem dX12_bestMissed_68 : decode cX12_bestMissed 68 = .ok (.iload_n 3, 1) := by decide +kernel
theorem dX12_bestMissed_69 : decode cX12_bestMissed 69 = .ok (.istore_n 2, 1) := by decide +kernel
theorem dX12_bestMissed_70 : decode cX12_bestMissed 70 = .ok (.iinc 3 1, 3) := by decide +kernel
theorem dX12_bestMissed_73 : decode cX12_bestMissed 73 = .ok (.goto (-50), 3) := by decide +kernel
theorem dX12_bestMissed_76 : decode cX12_bestMissed 76 = .ok (.iload_n 2, 1) := by decide +kernel
theorem dX12_bestMissed_77 : decode cX12_bestMissed 77 = .ok (.ireturn, 1) := by decide +kernel
theorem dX12_common_0 : decode cX12_common 0 = .ok (.aload_n 0, 1) := by decide +kernel
theorem dX12_common_1 : decode cX12_common 1 = .ok (.iconst 0, 1) := by decide +kernel
theorem dX12_common_2 : decode cX12_common 2 = .ok (.putfield 139, 3) := by decide +kernel
theorem dX12_common_5 : decode cX12_common 5 = .ok (.aload_n 0, 1) := by decide +kernel
theorem dX12_common_6 : decode cX12_common 6 = .ok (.iload_n 1, 1) := by decide +kernel
theorem dX12_common_7 : decode cX12_common 7 = .ok (.invokevirtual 384, 3) := by decide +kernel
theorem dX12_common_10 : decode cX12_common 10 = .ok (.ifCond .eq 25, 3) := by decide +kernel
theorem dX12_common_13 : decode cX12_common 13 = .ok (.aload_n 0, 1) := by decide +kernel
theorem dX12_common_14 : decode cX12_common 14 = .ok (.iload_n 2, 1) := by decide +kernel
theorem dX12_common_15 : decode cX12_common 15 = .ok (.invokevirtual 384, 3) := by decide +kernel
theorem dX12_common_18 : decode cX12_common 18 = .ok (.ifCond .eq 17, 3) := by decide +kernel
theorem dX12_common_21 : decode cX12_common 21 = .ok (.aload_n 0, 1) := by decide +kernel
theorem dX12_common_22 : decode cX12_common 22 = .ok (.iload_n 1, 1) := by decide +kernel
theorem dX12_common_23 : decode cX12_common 23 = .ok (.invokevirtual 333, 3) := by decide +kernel
theorem dX12_common_26 : decode cX12_common 26 = .ok (.aload_n 0, 1) := by decide +kernel
theorem dX12_common_27 : decode cX12_common 27 = .ok (.iload_n 2, 1) := by decide +kernel
theorem dX12_common_28 : decode cX12_common 28 = .ok (.invokevirtual 333, 3) := by decide +kernel
theorem dX12_common_31 : decode cX12_common 31 = .ok (.iand, 1) := by decide +kernel
theorem dX12_common_32 : decode cX12_common 32 = .ok (.goto 8, 3) := by decide +kernel
theorem dX12_common_35 : decode cX12_common 35 = .ok (.aload_n 0, 1) := by decide +kernel
theorem dX12_common_36 : decode cX12_common 36 = .ok (.iconst 1, 1) := by decide +kernel
theorem dX12_common_37 : decode cX12_common 37 = .ok (.invokevirtual 287, 3) := by decide +kernel
theorem dX12_common_40 : decode cX12_common 40 = .ok (.ireturn, 1) := by decide +kernel
theorem dX12_apart_0 : decode cX12_apart 0 = .ok (.aload_n 0, 1) := by decide +kernel
theorem dX12_apart_1 : decode cX12_apart 1 = .ok (.iconst 0, 1) := by decide +kernel
theorem dX12_apart_2 : decode cX12_apart 2 = .ok (.putfield 139, 3) := by decide +kernel
theorem dX12_apart_5 : decode cX12_apart 5 = .ok (.aload_n 0, 1) := by decide +kernel
theorem dX12_apart_6 : decode cX12_apart 6 = .ok (.iload_n 1, 1) := by decide +kernel
theorem dX12_apart_7 : decode cX12_apart 7 = .ok (.invokevirtual 384, 3) := by decide +kernel
theorem dX12_apart_10 : decode cX12_apart 10 = .ok (.ifCond .eq 28, 3) := by decide +kernel
theorem dX12_apart_13 : decode cX12_apart 13 = .ok (.aload_n 0, 1) := by decide +kernel
theorem dX12_apart_14 : decode cX12_apart 14 = .ok (.iload_n 2, 1) := by decide +kernel
theorem dX12_apart_15 : decode cX12_apart 15 = .ok (.invokevirtual 384, 3) := by decide +kernel
theorem dX12_apart_18 : decode cX12_apart 18 = .ok (.ifCond .eq 20, 3) := by decide +kernel
theorem dX12_apart_21 : decode cX12_apart 21 = .ok (.aload_n 0, 1) := by decide +kernel
theorem dX12_apart_22 : decode cX12_apart 22 = .ok (.iload_n 1, 1) := by decide +kernel
theorem dX12_apart_23 : decode cX12_apart 23 = .ok (.invokevirtual 333, 3) := by decide +kernel
theorem dX12_apart_26 : decode cX12_apart 26 = .ok (.aload_n 0, 1) := by decide +kernel
theorem dX12_apart_27 : decode cX12_apart 27 = .ok (.iload_n 2, 1) := by decide +kernel
theorem dX12_apart_28 : decode cX12_apart 28 = .ok (.invokevirtual 333, 3) := by decide +kernel
theorem dX12_apart_31 : decode cX12_apart 31 = .ok (.ixor, 1) := by decide +kernel
theorem dX12_apart_32 : decode cX12_apart 32 = .ok (.invokestatic 357, 3) := by decide +kernel
theorem dX12_apart_35 : decode cX12_apart 35 = .ok (.goto 8, 3) := by decide +kernel
theorem dX12_apart_38 : decode cX12_apart 38 = .ok (.aload_n 0, 1) := by decide +kernel
theorem dX12_apart_39 : decode cX12_apart 39 = .ok (.iconst 1, 1) := by decide +kernel
theorem dX12_apart_40 : decode cX12_apart 40 = .ok (.invokevirtual 287, 3) := by decide +kernel
theorem dX12_apart_43 : decode cX12_apart 43 = .ok (.ireturn, 1) := by decide +kernel
theorem dX12_unhad_0 : decode cX12_unhad 0 = .ok (.aload_n 0, 1) := by decide +kernel
theorem dX12_unhad_1 : decode cX12_unhad 1 = .ok (.iconst 0, 1) := by decide +kernel
theorem dX12_unhad_2 : decode cX12_unhad 2 = .ok (.putfield 139, 3) := by decide +kernel
theorem dX12_unhad_5 : decode cX12_unhad 5 = .ok (.sipush 1023, 3) := by decide +kernel
theorem dX12_unhad_8 : decode cX12_unhad 8 = .ok (.istore_n 1, 1) := by decide +kernel
theorem dX12_unhad_9 : decode cX12_unhad 9 = .ok (.iconst 0, 1) := by decide +kernel
theorem dX12_unhad_10 : decode cX12_unhad 10 = .ok (.istore_n 2, 1) := by decide +kernel
theorem dX12_unhad_11 : decode cX12_unhad 11 = .ok (.iload_n 2, 1) := by decide +kernel
theorem dX12_unhad_12 : decode cX12_unhad 12 = .ok (.aload_n 0, 1) := by decide +kernel
theorem dX12_unhad_13 : decode cX12_unhad 13 = .ok (.getfield 36, 3) := by decide +kernel
theorem dX12_unhad_16 : decode cX12_unhad 16 = .ok (.iconst 0, 1) := by decide +kernel
theorem dX12_unhad_17 : decode cX12_unhad 17 = .ok (.iaload, 1) := by decide +kernel
theorem dX12_unhad_18 : decode cX12_unhad 18 = .ok (.if_icmp .ge 19, 3) := by decide +kernel
theorem dX12_unhad_21 : decode cX12_unhad 21 = .ok (.iload_n 1, 1) := by decide +kernel
theorem dX12_unhad_22 : decode cX12_unhad 22 = .ok (.aload_n 0, 1) := by decide +kernel
theorem dX12_unhad_23 : decode cX12_unhad 23 = .ok (.iload_n 2, 1) := by decide +kernel
theorem dX12_unhad_24 : decode cX12_unhad 24 = .ok (.invokevirtual 333, 3) := by decide +kernel
theorem dX12_unhad_27 : decode cX12_unhad 27 = .ok (.iconst (-1), 1) := by decide +kernel
theorem dX12_unhad_28 : decode cX12_unhad 28 = .ok (.ixor, 1) := by decide +kernel
theorem dX12_unhad_29 : decode cX12_unhad 29 = .ok (.iand, 1) := by decide +kernel
theorem dX12_unhad_30 : decode cX12_unhad 30 = .ok (.istore_n 1, 1) := by decide +kernel
theorem dX12_unhad_31 : decode cX12_unhad 31 = .ok (.iinc 2 1, 3) := by decide +kernel
theorem dX12_unhad_34 : decode cX12_unhad 34 = .ok (.goto (-23), 3) := by decide +kernel
theorem dX12_unhad_37 : decode cX12_unhad 37 = .ok (.iload_n 1, 1) := by decide +kernel
theorem dX12_unhad_38 : decode cX12_unhad 38 = .ok (.ireturn, 1) := by decide +kernel
theorem dX12_see_0 : decode cX12_see 0 = .ok (.aload_n 0, 1) := by decide +kernel
theorem dX12_see_1 : decode cX12_see 1 = .ok (.iconst 0, 1) := by decide +kernel
theorem dX12_see_2 : decode cX12_see 2 = .ok (.putfield 139, 3) := by decide +kernel
