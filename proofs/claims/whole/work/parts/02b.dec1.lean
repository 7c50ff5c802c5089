theorem dX0_init_0 : decode cX0_init 0 = .ok (.aload_n 0, 1) := by decide +kernel
theorem dX0_init_1 : decode cX0_init 1 = .ok (.invokespecial 3, 3) := by decide +kernel
theorem dX0_init_4 : decode cX0_init 4 = .ok (.aload_n 0, 1) := by decide +kernel
theorem dX0_init_5 : decode cX0_init 5 = .ok (.sipush 1440, 3) := by decide +kernel
theorem dX0_init_8 : decode cX0_init 8 = .ok (.newarray .int, 2) := by decide +kernel
theorem dX0_init_10 : decode cX0_init 10 = .ok (.putfield 11, 3) := by decide +kernel
theorem dX0_init_13 : decode cX0_init 13 = .ok (.aload_n 0, 1) := by decide +kernel
theorem dX0_init_14 : decode cX0_init 14 = .ok (.iconst 0, 1) := by decide +kernel
theorem dX0_init_15 : decode cX0_init 15 = .ok (.putfield 17, 3) := by decide +kernel
theorem dX0_init_18 : decode cX0_init 18 = .ok (.aload_n 0, 1) := by decide +kernel
theorem dX0_init_19 : decode cX0_init 19 = .ok (.iconst 0, 1) := by decide +kernel
theorem dX0_init_20 : decode cX0_init 20 = .ok (.putfield 21, 3) := by decide +kernel
theorem dX0_init_23 : decode cX0_init 23 = .ok (.return_, 1) := by decide +kernel
theorem dX0_clear_0 : decode cX0_clear 0 = .ok (.aload_n 0, 1) := by decide +kernel
theorem dX0_clear_1 : decode cX0_clear 1 = .ok (.iconst 0, 1) := by decide +kernel
theorem dX0_clear_2 : decode cX0_clear 2 = .ok (.putfield 21, 3) := by decide +kernel
theorem dX0_clear_5 : decode cX0_clear 5 = .ok (.return_, 1) := by decide +kernel
theorem dX0_keep_0 : decode cX0_keep 0 = .ok (.aload_n 1, 1) := by decide +kernel
theorem dX0_keep_1 : decode cX0_keep 1 = .ok (.aload_n 0, 1) := by decide +kernel
theorem dX0_keep_2 : decode cX0_keep 2 = .ok (.getfield 11, 3) := by decide +kernel
theorem dX0_keep_5 : decode cX0_keep 5 = .ok (.aload_n 0, 1) := by decide +kernel
theorem dX0_keep_6 : decode cX0_keep 6 = .ok (.getfield 17, 3) := by decide +kernel
theorem dX0_keep_9 : decode cX0_keep 9 = .ok (.aload_n 0, 1) := by decide +kernel
theorem dX0_keep_10 : decode cX0_keep 10 = .ok (.getfield 21, 3) := by decide +kernel
theorem dX0_keep_13 : decode cX0_keep 13 = .ok (.iadd, 1) := by decide +kernel
theorem dX0_keep_14 : decode cX0_keep 14 = .ok (.bipush 40, 2) := by decide +kernel
theorem dX0_keep_16 : decode cX0_keep 16 = .ok (.irem, 1) := by decide +kernel
theorem dX0_keep_17 : decode cX0_keep 17 = .ok (.bipush 36, 2) := by decide +kernel
theorem dX0_keep_19 : decode cX0_keep 19 = .ok (.imul, 1) := by decide +kernel
theorem dX0_keep_20 : decode cX0_keep 20 = .ok (.invokevirtual 24, 3) := by decide +kernel
theorem dX0_keep_23 : decode cX0_keep 23 = .ok (.aload_n 0, 1) := by decide +kernel
theorem dX0_keep_24 : decode cX0_keep 24 = .ok (.getfield 21, 3) := by decide +kernel
theorem dX0_keep_27 : decode cX0_keep 27 = .ok (.bipush 40, 2) := by decide +kernel
theorem dX0_keep_29 : decode cX0_keep 29 = .ok (.if_icmp .ge 16, 3) := by decide +kernel
theorem dX0_keep_32 : decode cX0_keep 32 = .ok (.aload_n 0, 1) := by decide +kernel
theorem dX0_keep_33 : decode cX0_keep 33 = .ok (.dup, 1) := by decide +kernel
theorem dX0_keep_34 : decode cX0_keep 34 = .ok (.getfield 21, 3) := by decide +kernel
theorem dX0_keep_37 : decode cX0_keep 37 = .ok (.iconst 1, 1) := by decide +kernel
theorem dX0_keep_38 : decode cX0_keep 38 = .ok (.iadd, 1) := by decide +kernel
theorem dX0_keep_39 : decode cX0_keep 39 = .ok (.putfield 21, 3) := by decide +kernel
theorem dX0_keep_42 : decode cX0_keep 42 = .ok (.goto 16, 3) := by decide +kernel
theorem dX0_keep_45 : decode cX0_keep 45 = .ok (.aload_n 0, 1) := by decide +kernel
theorem dX0_keep_46 : decode cX0_keep 46 = .ok (.aload_n 0, 1) := by decide +kernel
theorem dX0_keep_47 : decode cX0_keep 47 = .ok (.getfield 17, 3) := by decide +kernel
theorem dX0_keep_50 : decode cX0_keep 50 = .ok (.iconst 1, 1) := by decide +kernel
theorem dX0_keep_51 : decode cX0_keep 51 = .ok (.iadd, 1) := by decide +kernel
theorem dX0_keep_52 : decode cX0_keep 52 = .ok (.bipush 40, 2) := by decide +kernel
theorem dX0_keep_54 : decode cX0_keep 54 = .ok (.irem, 1) := by decide +kernel
theorem dX0_keep_55 : decode cX0_keep 55 = .ok (.putfield 17, 3) := by decide +kernel
theorem dX0_keep_58 : decode cX0_keep 58 = .ok (.return_, 1) := by decide +kernel
theorem dX0_takeBack_0 : decode cX0_takeBack 0 = .ok (.aload_n 0, 1) := by decide +kernel
theorem dX0_takeBack_1 : decode cX0_takeBack 1 = .ok (.getfield 21, 3) := by decide +kernel
theorem dX0_takeBack_4 : decode cX0_takeBack 4 = .ok (.ifCond .ne 5, 3) := by decide +kernel
theorem dX0_takeBack_7 : decode cX0_takeBack 7 = .ok (.iconst 0, 1) := by decide +kernel
theorem dX0_takeBack_8 : decode cX0_takeBack 8 = .ok (.ireturn, 1) := by decide +kernel
theorem dX0_takeBack_9 : decode cX0_takeBack 9 = .ok (.aload_n 0, 1) := by decide +kernel
theorem dX0_takeBack_10 : decode cX0_takeBack 10 = .ok (.dup, 1) := by decide +kernel
theorem dX0_takeBack_11 : decode cX0_takeBack 11 = .ok (.getfield 21, 3) := by decide +kernel
theorem dX0_takeBack_14 : decode cX0_takeBack 14 = .ok (.iconst 1, 1) := by decide +kernel
theorem dX0_takeBack_15 : decode cX0_takeBack 15 = .ok (.isub, 1) := by decide +kernel
theorem dX0_takeBack_16 : decode cX0_takeBack 16 = .ok (.putfield 21, 3) := by decide +kernel
theorem dX0_takeBack_19 : decode cX0_takeBack 19 = .ok (.aload_n 1, 1) := by decide +kernel
theorem dX0_takeBack_20 : decode cX0_takeBack 20 = .ok (.aload_n 0, 1) := by decide +kernel
theorem dX0_takeBack_21 : decode cX0_takeBack 21 = .ok (.getfield 11, 3) := by decide +kernel
theorem dX0_takeBack_24 : decode cX0_takeBack 24 = .ok (.aload_n 0, 1) := by decide +kernel
theorem dX0_takeBack_25 : decode cX0_takeBack 25 = .ok (.getfield 17, 3) := by decide +kernel
theorem dX0_takeBack_28 : decode cX0_takeBack 28 = .ok (.aload_n 0, 1) := by decide +kernel
theorem dX0_takeBack_29 : decode cX0_takeBack 29 = .ok (.getfield 21, 3) := by decide +kernel
theorem dX0_takeBack_32 : decode cX0_takeBack 32 = .ok (.iadd, 1) := by decide +kernel
theorem dX0_takeBack_33 : decode cX0_takeBack 33 = .ok (.bipush 40, 2) := by decide +kernel
theorem dX0_takeBack_35 : decode cX0_takeBack 35 = .ok (.irem, 1) := by decide +kernel
theorem dX0_takeBack_36 : decode cX0_takeBack 36 = .ok (.bipush 36, 2) := by decide +kernel
theorem dX0_takeBack_38 : decode cX0_takeBack 38 = .ok (.imul, 1) := by decide +kernel
theorem dX0_takeBack_39 : decode cX0_takeBack 39 = .ok (.invokevirtual 28, 3) := by decide +kernel
theorem dX0_takeBack_42 : decode cX0_takeBack 42 = .ok (.iconst 1, 1) := by decide +kernel
theorem dX0_takeBack_43 : decode cX0_takeBack 43 = .ok (.ireturn, 1) := by decide +kernel
theorem dX0_copyFrom_0 : decode cX0_copyFrom 0 = .ok (.aload_n 1, 1) := by decide +kernel
theorem dX0_copyFrom_1 : decode cX0_copyFrom 1 = .ok (.getfield 11, 3) := by decide +kernel
theorem dX0_copyFrom_4 : decode cX0_copyFrom 4 = .ok (.iconst 0, 1) := by decide +kernel
theorem dX0_copyFrom_5 : decode cX0_copyFrom 5 = .ok (.aload_n 0, 1) := by decide +kernel
theorem dX0_copyFrom_6 : decode cX0_copyFrom 6 = .ok (.getfield 11, 3) := by decide +kernel
theorem dX0_copyFrom_9 : decode cX0_copyFrom 9 = .ok (.iconst 0, 1) := by decide +kernel
theorem dX0_copyFrom_10 : decode cX0_copyFrom 10 = .ok (.aload_n 0, 1) := by decide +kernel
theorem dX0_copyFrom_11 : decode cX0_copyFrom 11 = .ok (.getfield 11, 3) := by decide +kernel
theorem dX0_copyFrom_14 : decode cX0_copyFrom 14 = .ok (.arraylength, 1) := by decide +kernel
theorem dX0_copyFrom_15 : decode cX0_copyFrom 15 = .ok (.invokestatic 31, 3) := by decide +kernel
theorem dX0_copyFrom_18 : decode cX0_copyFrom 18 = .ok (.aload_n 0, 1) := by decide +kernel
theorem dX0_copyFrom_19 : decode cX0_copyFrom 19 = .ok (.aload_n 1, 1) := by decide +kernel
theorem dX0_copyFrom_20 : decode cX0_copyFrom 20 = .ok (.getfield 17, 3) := by decide +kernel
theorem dX0_copyFrom_23 : decode cX0_copyFrom 23 = .ok (.putfield 17, 3) := by decide +kernel
theorem dX0_copyFrom_26 : decode cX0_copyFrom 26 = .ok (.aload_n 0, 1) := by decide +kernel
theorem dX0_copyFrom_27 : decode cX0_copyFrom 27 = .ok (.aload_n 1, 1) := by decide +kernel
theorem dX0_copyFrom_28 : decode cX0_copyFrom 28 = .ok (.getfield 21, 3) := by decide +kernel
theorem dX0_copyFrom_31 : decode cX0_copyFrom 31 = .ok (.putfield 21, 3) := by decide +kernel
theorem dX0_copyFrom_34 : decode cX0_copyFrom 34 = .ok (.return_, 1) := by decide +kernel
theorem dX1_init_0 : decode cX1_init 0 = .ok (.aload_n 0, 1) := by decide +kernel
theorem dX1_init_1 : decode cX1_init 1 = .ok (.invokespecial 3, 3) := by decide +kernel
theorem dX1_init_4 : decode cX1_init 4 = .ok (.aload_n 0, 1) := by decide +kernel
theorem dX1_init_5 : decode cX1_init 5 = .ok (.bipush 12, 2) := by decide +kernel
theorem dX1_init_7 : decode cX1_init 7 = .ok (.newarray .int, 2) := by decide +kernel
theorem dX1_init_9 : decode cX1_init 9 = .ok (.putfield 9, 3) := by decide +kernel
theorem dX1_init_12 : decode cX1_init 12 = .ok (.aload_n 0, 1) := by decide +kernel
theorem dX1_init_13 : decode cX1_init 13 = .ok (.bipush 12, 2) := by decide +kernel
theorem dX1_init_15 : decode cX1_init 15 = .ok (.newarray .int, 2) := by decide +kernel
theorem dX1_init_17 : decode cX1_init 17 = .ok (.putfield 15, 3) := by decide +kernel
theorem dX1_init_20 : decode cX1_init 20 = .ok (.aload_n 0, 1) := by decide +kernel
theorem dX1_init_21 : decode cX1_init 21 = .ok (.bipush 12, 2) := by decide +kernel
theorem dX1_init_23 : decode cX1_init 23 = .ok (.newarray .int, 2) := by decide +kernel
theorem dX1_init_25 : decode cX1_init 25 = .ok (.putfield 18, 3) := by decide +kernel
theorem dX1_init_28 : decode cX1_init 28 = .ok (.aload_n 0, 1) := by decide +kernel
theorem dX1_init_29 : decode cX1_init 29 = .ok (.iconst 0, 1) := by decide +kernel
theorem dX1_init_30 : decode cX1_init 30 = .ok (.putfield 21, 3) := by decide +kernel
theorem dX1_init_33 : decode cX1_init 33 = .ok (.aload_n 0, 1) := by decide +kernel
theorem dX1_init_34 : decode cX1_init 34 = .ok (.iconst 0, 1) := by decide +kernel
theorem dX1_init_35 : decode cX1_init 35 = .ok (.putfield 25, 3) := by decide +kernel
theorem dX1_init_38 : decode cX1_init 38 = .ok (.return_, 1) := by decide +kernel
theorem dX1_clear_0 : decode cX1_clear 0 = .ok (.aload_n 0, 1) := by decide +kernel
theorem dX1_clear_1 : decode cX1_clear 1 = .ok (.iconst 0, 1) := by decide +kernel
theorem dX1_clear_2 : decode cX1_clear 2 = .ok (.putfield 21, 3) := by decide +kernel
theorem dX1_clear_5 : decode cX1_clear 5 = .ok (.aload_n 0, 1) := by decide +kernel
theorem dX1_clear_6 : decode cX1_clear 6 = .ok (.iconst 0, 1) := by decide +kernel
theorem dX1_clear_7 : decode cX1_clear 7 = .ok (.putfield 25, 3) := by decide +kernel
theorem dX1_clear_10 : decode cX1_clear 10 = .ok (.return_, 1) := by decide +kernel
theorem dX1_add_0 : decode cX1_add 0 = .ok (.aload_n 0, 1) := by decide +kernel
theorem dX1_add_1 : decode cX1_add 1 = .ok (.getfield 25, 3) := by decide +kernel
theorem dX1_add_4 : decode cX1_add 4 = .ok (.bipush 12, 2) := by decide +kernel
theorem dX1_add_6 : decode cX1_add 6 = .ok (.if_icmp .lt 4, 3) := by decide +kernel
theorem dX1_add_9 : decode cX1_add 9 = .ok (.return_, 1) := by decide +kernel
theorem dX1_add_10 : decode cX1_add 10 = .ok (.aload_n 0, 1) := by decide +kernel
theorem dX1_add_11 : decode cX1_add 11 = .ok (.getfield 9, 3) := by decide +kernel
theorem dX1_add_14 : decode cX1_add 14 = .ok (.aload_n 0, 1) := by decide +kernel
theorem dX1_add_15 : decode cX1_add 15 = .ok (.getfield 25, 3) := by decide +kernel
theorem dX1_add_18 : decode cX1_add 18 = .ok (.iload_n 1, 1) := by decide +kernel
theorem dX1_add_19 : decode cX1_add 19 = .ok (.iastore, 1) := by decide +kernel
theorem dX1_add_20 : decode cX1_add 20 = .ok (.aload_n 0, 1) := by decide +kernel
theorem dX1_add_21 : decode cX1_add 21 = .ok (.getfield 15, 3) := by decide +kernel
theorem dX1_add_24 : decode cX1_add 24 = .ok (.aload_n 0, 1) := by decide +kernel
theorem dX1_add_25 : decode cX1_add 25 = .ok (.getfield 25, 3) := by decide +kernel
theorem dX1_add_28 : decode cX1_add 28 = .ok (.iload_n 2, 1) := by decide +kernel
theorem dX1_add_29 : decode cX1_add 29 = .ok (.iastore, 1) := by decide +kernel
theorem dX1_add_30 : decode cX1_add 30 = .ok (.aload_n 0, 1) := by decide +kernel
theorem dX1_add_31 : decode cX1_add 31 = .ok (.getfield 18, 3) := by decide +kernel
theorem dX1_add_34 : decode cX1_add 34 = .ok (.aload_n 0, 1) := by decide +kernel
theorem dX1_add_35 : decode cX1_add 35 = .ok (.getfield 25, 3) := by decide +kernel
theorem dX1_add_38 : decode cX1_add 38 = .ok (.iload_n 3, 1) := by decide +kernel
theorem dX1_add_39 : decode cX1_add 39 = .ok (.iastore, 1) := by decide +kernel
theorem dX1_add_40 : decode cX1_add 40 = .ok (.aload_n 0, 1) := by decide +kernel
theorem dX1_add_41 : decode cX1_add 41 = .ok (.dup, 1) := by decide +kernel
theorem dX1_add_42 : decode cX1_add 42 = .ok (.getfield 21, 3) := by decide +kernel
theorem dX1_add_45 : decode cX1_add 45 = .ok (.iload 4, 2) := by decide +kernel
theorem dX1_add_47 : decode cX1_add 47 = .ok (.ifCond .eq 12, 3) := by decide +kernel
theorem dX1_add_50 : decode cX1_add 50 = .ok (.iconst 1, 1) := by decide +kernel
theorem dX1_add_51 : decode cX1_add 51 = .ok (.aload_n 0, 1) := by decide +kernel
theorem dX1_add_52 : decode cX1_add 52 = .ok (.getfield 25, 3) := by decide +kernel
theorem dX1_add_55 : decode cX1_add 55 = .ok (.ishl, 1) := by decide +kernel
theorem dX1_add_56 : decode cX1_add 56 = .ok (.goto 4, 3) := by decide +kernel
theorem dX1_add_59 : decode cX1_add 59 = .ok (.iconst 0, 1) := by decide +kernel
theorem dX1_add_60 : decode cX1_add 60 = .ok (.ior, 1) := by decide +kernel
theorem dX1_add_61 : decode cX1_add 61 = .ok (.putfield 21, 3) := by decide +kernel
theorem dX1_add_64 : decode cX1_add 64 = .ok (.aload_n 0, 1) := by decide +kernel
theorem dX1_add_65 : decode cX1_add 65 = .ok (.dup, 1) := by decide +kernel
theorem dX1_add_66 : decode cX1_add 66 = .ok (.getfield 25, 3) := by decide +kernel
theorem dX1_add_69 : decode cX1_add 69 = .ok (.iconst 1, 1) := by decide +kernel
theorem dX1_add_70 : decode cX1_add 70 = .ok (.iadd, 1) := by decide +kernel
theorem dX1_add_71 : decode cX1_add 71 = .ok (.putfield 25, 3) := by decide +kernel
theorem dX1_add_74 : decode cX1_add 74 = .ok (.return_, 1) := by decide +kernel
theorem dX1_firstBringing_0 : decode cX1_firstBringing 0 = .ok (.iload_n 3, 1) := by decide +kernel
theorem dX1_firstBringing_1 : decode cX1_firstBringing 1 = .ok (.istore 4, 2) := by decide +kernel
theorem dX1_firstBringing_3 : decode cX1_firstBringing 3 = .ok (.iload 4, 2) := by decide +kernel
theorem dX1_firstBringing_5 : decode cX1_firstBringing 5 = .ok (.aload_n 0, 1) := by decide +kernel
theorem dX1_firstBringing_6 : decode cX1_firstBringing 6 = .ok (.getfield 25, 3) := by decide +kernel
theorem dX1_firstBringing_9 : decode cX1_firstBringing 9 = .ok (.if_icmp .ge 87, 3) := by decide +kernel
theorem dX1_firstBringing_12 : decode cX1_firstBringing 12 = .ok (.iload_n 1, 1) := by decide +kernel
theorem dX1_firstBringing_13 : decode cX1_firstBringing 13 = .ok (.aload_n 0, 1) := by decide +kernel
theorem dX1_firstBringing_14 : decode cX1_firstBringing 14 = .ok (.getfield 9, 3) := by decide +kernel
theorem dX1_firstBringing_17 : decode cX1_firstBringing 17 = .ok (.iload 4, 2) := by decide +kernel
theorem dX1_firstBringing_19 : decode cX1_firstBringing 19 = .ok (.iaload, 1) := by decide +kernel
theorem dX1_firstBringing_20 : decode cX1_firstBringing 20 = .ok (.iand, 1) := by decide +kernel
theorem dX1_firstBringing_21 : decode cX1_firstBringing 21 = .ok (.aload_n 0, 1) := by decide +kernel
theorem dX1_firstBringing_22 : decode cX1_firstBringing 22 = .ok (.getfield 9, 3) := by decide +kernel
theorem dX1_firstBringing_25 : decode cX1_firstBringing 25 = .ok (.iload 4, 2) := by decide +kernel
theorem dX1_firstBringing_27 : decode cX1_firstBringing 27 = .ok (.iaload, 1) := by decide +kernel
theorem dX1_firstBringing_28 : decode cX1_firstBringing 28 = .ok (.if_icmp .ne 7, 3) := by decide +kernel
theorem dX1_firstBringing_31 : decode cX1_firstBringing 31 = .ok (.iconst 1, 1) := by decide +kernel
theorem dX1_firstBringing_32 : decode cX1_firstBringing 32 = .ok (.goto 4, 3) := by decide +kernel
theorem dX1_firstBringing_35 : decode cX1_firstBringing 35 = .ok (.iconst 0, 1) := by decide +kernel
theorem dX1_firstBringing_36 : decode cX1_firstBringing 36 = .ok (.istore 5, 2) := by decide +kernel
theorem dX1_firstBringing_38 : decode cX1_firstBringing 38 = .ok (.iload 5, 2) := by decide +kernel
theorem dX1_firstBringing_40 : decode cX1_firstBringing 40 = .ok (.iload 4, 2) := by decide +kernel
theorem dX1_firstBringing_42 : decode cX1_firstBringing 42 = .ok (.aload_n 0, 1) := by decide +kernel
theorem dX1_firstBringing_43 : decode cX1_firstBringing 43 = .ok (.getfield 21, 3) := by decide +kernel
theorem dX1_firstBringing_46 : decode cX1_firstBringing 46 = .ok (.invokestatic 28, 3) := by decide +kernel
theorem dX1_firstBringing_49 : decode cX1_firstBringing 49 = .ok (.if_icmp .eq 41, 3) := by decide +kernel
theorem dX1_firstBringing_52 : decode cX1_firstBringing 52 = .ok (.iload_n 1, 1) := by decide +kernel
theorem dX1_firstBringing_53 : decode cX1_firstBringing 53 = .ok (.aload_n 0, 1) := by decide +kernel
theorem dX1_firstBringing_54 : decode cX1_firstBringing 54 = .ok (.getfield 15, 3) := by decide +kernel
theorem dX1_firstBringing_57 : decode cX1_firstBringing 57 = .ok (.iload 4, 2) := by decide +kernel
theorem dX1_firstBringing_59 : decode cX1_firstBringing 59 = .ok (.iaload, 1) := by decide +kernel
theorem dX1_firstBringing_60 : decode cX1_firstBringing 60 = .ok (.iand, 1) := by decide +kernel
theorem dX1_firstBringing_61 : decode cX1_firstBringing 61 = .ok (.ifCond .ne 29, 3) := by decide +kernel
theorem dX1_firstBringing_64 : decode cX1_firstBringing 64 = .ok (.aload_n 0, 1) := by decide +kernel
theorem dX1_firstBringing_65 : decode cX1_firstBringing 65 = .ok (.getfield 18, 3) := by decide +kernel
theorem dX1_firstBringing_68 : decode cX1_firstBringing 68 = .ok (.iload 4, 2) := by decide +kernel
theorem dX1_firstBringing_70 : decode cX1_firstBringing 70 = .ok (.iaload, 1) := by decide +kernel
theorem dX1_firstBringing_71 : decode cX1_firstBringing 71 = .ok (.iload_n 1, 1) := by decide +kernel
theorem dX1_firstBringing_72 : decode cX1_firstBringing 72 = .ok (.invokestatic 28, 3) := by decide +kernel
theorem dX1_firstBringing_75 : decode cX1_firstBringing 75 = .ok (.ifCond .ne 15, 3) := by decide +kernel
theorem dX1_firstBringing_78 : decode cX1_firstBringing 78 = .ok (.iload 4, 2) := by decide +kernel
theorem dX1_firstBringing_80 : decode cX1_firstBringing 80 = .ok (.iload_n 2, 1) := by decide +kernel
theorem dX1_firstBringing_81 : decode cX1_firstBringing 81 = .ok (.invokestatic 28, 3) := by decide +kernel
theorem dX1_firstBringing_84 : decode cX1_firstBringing 84 = .ok (.ifCond .ne 6, 3) := by decide +kernel
theorem dX1_firstBringing_87 : decode cX1_firstBringing 87 = .ok (.iload 4, 2) := by decide +kernel
theorem dX1_firstBringing_89 : decode cX1_firstBringing 89 = .ok (.ireturn, 1) := by decide +kernel
theorem dX1_firstBringing_90 : decode cX1_firstBringing 90 = .ok (.iinc 4 1, 3) := by decide +kernel
theorem dX1_firstBringing_93 : decode cX1_firstBringing 93 = .ok (.goto (-90), 3) := by decide +kernel
theorem dX1_firstBringing_96 : decode cX1_firstBringing 96 = .ok (.iconst (-1), 1) := by decide +kernel
theorem dX1_firstBringing_97 : decode cX1_firstBringing 97 = .ok (.ireturn, 1) := by decide +kernel
theorem dX1_allFrom_0 : decode cX1_allFrom 0 = .ok (.iload_n 1, 1) := by decide +kernel
theorem dX1_allFrom_1 : decode cX1_allFrom 1 = .ok (.istore_n 3, 1) := by decide +kernel
theorem dX1_allFrom_2 : decode cX1_allFrom 2 = .ok (.iconst 0, 1) := by decide +kernel
theorem dX1_allFrom_3 : decode cX1_allFrom 3 = .ok (.istore 4, 2) := by decide +kernel
theorem dX1_allFrom_5 : decode cX1_allFrom 5 = .ok (.iload 4, 2) := by decide +kernel
theorem dX1_allFrom_7 : decode cX1_allFrom 7 = .ok (.bipush 10, 2) := by decide +kernel
theorem dX1_allFrom_9 : decode cX1_allFrom 9 = .ok (.if_icmp .ge 39, 3) := by decide +kernel
theorem dX1_allFrom_12 : decode cX1_allFrom 12 = .ok (.aload_n 0, 1) := by decide +kernel
theorem dX1_allFrom_13 : decode cX1_allFrom 13 = .ok (.iload_n 3, 1) := by decide +kernel
theorem dX1_allFrom_14 : decode cX1_allFrom 14 = .ok (.iload_n 2, 1) := by decide +kernel
theorem dX1_allFrom_15 : decode cX1_allFrom 15 = .ok (.iconst 0, 1) := by decide +kernel
theorem dX1_allFrom_16 : decode cX1_allFrom 16 = .ok (.invokevirtual 32, 3) := by decide +kernel
theorem dX1_allFrom_19 : decode cX1_allFrom 19 = .ok (.istore 5, 2) := by decide +kernel
theorem dX1_allFrom_21 : decode cX1_allFrom 21 = .ok (.iload 5, 2) := by decide +kernel
theorem dX1_allFrom_23 : decode cX1_allFrom 23 = .ok (.iconst (-1), 1) := by decide +kernel
theorem dX1_allFrom_24 : decode cX1_allFrom 24 = .ok (.if_icmp .ne 6, 3) := by decide +kernel
theorem dX1_allFrom_27 : decode cX1_allFrom 27 = .ok (.goto 21, 3) := by decide +kernel
theorem dX1_allFrom_30 : decode cX1_allFrom 30 = .ok (.iload_n 3, 1) := by decide +kernel
theorem dX1_allFrom_31 : decode cX1_allFrom 31 = .ok (.iconst 1, 1) := by decide +kernel
theorem dX1_allFrom_32 : decode cX1_allFrom 32 = .ok (.aload_n 0, 1) := by decide +kernel
theorem dX1_allFrom_33 : decode cX1_allFrom 33 = .ok (.getfield 18, 3) := by decide +kernel
theorem dX1_allFrom_36 : decode cX1_allFrom 36 = .ok (.iload 5, 2) := by decide +kernel
theorem dX1_allFrom_38 : decode cX1_allFrom 38 = .ok (.iaload, 1) := by decide +kernel
theorem dX1_allFrom_39 : decode cX1_allFrom 39 = .ok (.ishl, 1) := by decide +kernel
theorem dX1_allFrom_40 : decode cX1_allFrom 40 = .ok (.ior, 1) := by decide +kernel
theorem dX1_allFrom_41 : decode cX1_allFrom 41 = .ok (.istore_n 3, 1) := by decide +kernel
theorem dX1_allFrom_42 : decode cX1_allFrom 42 = .ok (.iinc 4 1, 3) := by decide +kernel
theorem dX1_allFrom_45 : decode cX1_allFrom 45 = .ok (.goto (-40), 3) := by decide +kernel
theorem dX1_allFrom_48 : decode cX1_allFrom 48 = .ok (.iload_n 3, 1) := by decide +kernel
theorem dX1_allFrom_49 : decode cX1_allFrom 49 = .ok (.ireturn, 1) := by decide +kernel
theorem dX1_ledFrom_0 : decode cX1_ledFrom 0 = .ok (.iconst 0, 1) := by decide +kernel
theorem dX1_ledFrom_1 : decode cX1_ledFrom 1 = .ok (.istore_n 3, 1) := by decide +kernel
theorem dX1_ledFrom_2 : decode cX1_ledFrom 2 = .ok (.iconst 0, 1) := by decide +kernel
theorem dX1_ledFrom_3 : decode cX1_ledFrom 3 = .ok (.istore 4, 2) := by decide +kernel
theorem dX1_ledFrom_5 : decode cX1_ledFrom 5 = .ok (.iload 4, 2) := by decide +kernel
theorem dX1_ledFrom_7 : decode cX1_ledFrom 7 = .ok (.aload_n 0, 1) := by decide +kernel
theorem dX1_ledFrom_8 : decode cX1_ledFrom 8 = .ok (.getfield 25, 3) := by decide +kernel
theorem dX1_ledFrom_11 : decode cX1_ledFrom 11 = .ok (.if_icmp .ge 42, 3) := by decide +kernel
theorem dX1_ledFrom_14 : decode cX1_ledFrom 14 = .ok (.iload 4, 2) := by decide +kernel
theorem dX1_ledFrom_16 : decode cX1_ledFrom 16 = .ok (.iload_n 2, 1) := by decide +kernel
theorem dX1_ledFrom_17 : decode cX1_ledFrom 17 = .ok (.invokestatic 28, 3) := by decide +kernel
theorem dX1_ledFrom_20 : decode cX1_ledFrom 20 = .ok (.ifCond .ne 27, 3) := by decide +kernel
theorem dX1_ledFrom_23 : decode cX1_ledFrom 23 = .ok (.aload_n 0, 1) := by decide +kernel
theorem dX1_ledFrom_24 : decode cX1_ledFrom 24 = .ok (.getfield 9, 3) := by decide +kernel
theorem dX1_ledFrom_27 : decode cX1_ledFrom 27 = .ok (.iload 4, 2) := by decide +kernel
theorem dX1_ledFrom_29 : decode cX1_ledFrom 29 = .ok (.iaload, 1) := by decide +kernel
theorem dX1_ledFrom_30 : decode cX1_ledFrom 30 = .ok (.iload_n 1, 1) := by decide +kernel
theorem dX1_ledFrom_31 : decode cX1_ledFrom 31 = .ok (.iand, 1) := by decide +kernel
theorem dX1_ledFrom_32 : decode cX1_ledFrom 32 = .ok (.ifCond .eq 15, 3) := by decide +kernel
theorem dX1_ledFrom_35 : decode cX1_ledFrom 35 = .ok (.iload_n 3, 1) := by decide +kernel
theorem dX1_ledFrom_36 : decode cX1_ledFrom 36 = .ok (.iconst 1, 1) := by decide +kernel
theorem dX1_ledFrom_37 : decode cX1_ledFrom 37 = .ok (.aload_n 0, 1) := by decide +kernel
theorem dX1_ledFrom_38 : decode cX1_ledFrom 38 = .ok (.getfield 18, 3) := by decide +kernel
theorem dX1_ledFrom_41 : decode cX1_ledFrom 41 = .ok (.iload 4, 2) := by decide +kernel
theorem dX1_ledFrom_43 : decode cX1_ledFrom 43 = .ok (.iaload, 1) := by decide +kernel
theorem dX1_ledFrom_44 : decode cX1_ledFrom 44 = .ok (.ishl, 1) := by decide +kernel
theorem dX1_ledFrom_45 : decode cX1_ledFrom 45 = .ok (.ior, 1) := by decide +kernel
theorem dX1_ledFrom_46 : decode cX1_ledFrom 46 = .ok (.istore_n 3, 1) := by decide +kernel
theorem dX1_ledFrom_47 : decode cX1_ledFrom 47 = .ok (.iinc 4 1, 3) := by decide +kernel
theorem dX1_ledFrom_50 : decode cX1_ledFrom 50 = .ok (.goto (-45), 3) := by decide +kernel
theorem dX1_ledFrom_53 : decode cX1_ledFrom 53 = .ok (.iload_n 3, 1) := by decide +kernel
theorem dX1_ledFrom_54 : decode cX1_ledFrom 54 = .ok (.ireturn, 1) := by decide +kernel
theorem dX1_stepsTo_0 : decode cX1_stepsTo 0 = .ok (.iconst 1, 1) := by decide +kernel
theorem dX1_stepsTo_1 : decode cX1_stepsTo 1 = .ok (.iload_n 1, 1) := by decide +kernel
theorem dX1_stepsTo_2 : decode cX1_stepsTo 2 = .ok (.ishl, 1) := by decide +kernel
theorem dX1_stepsTo_3 : decode cX1_stepsTo 3 = .ok (.istore 4, 2) := by decide +kernel
theorem dX1_stepsTo_5 : decode cX1_stepsTo 5 = .ok (.iconst 1, 1) := by decide +kernel
theorem dX1_stepsTo_6 : decode cX1_stepsTo 6 = .ok (.istore 5, 2) := by decide +kernel
theorem dX1_stepsTo_8 : decode cX1_stepsTo 8 = .ok (.iload 5, 2) := by decide +kernel
theorem dX1_stepsTo_10 : decode cX1_stepsTo 10 = .ok (.bipush 10, 2) := by decide +kernel
theorem dX1_stepsTo_12 : decode cX1_stepsTo 12 = .ok (.if_icmp .gt 30, 3) := by decide +kernel
theorem dX1_stepsTo_15 : decode cX1_stepsTo 15 = .ok (.aload_n 0, 1) := by decide +kernel
theorem dX1_stepsTo_16 : decode cX1_stepsTo 16 = .ok (.iload 4, 2) := by decide +kernel
theorem dX1_stepsTo_18 : decode cX1_stepsTo 18 = .ok (.iload_n 3, 1) := by decide +kernel
theorem dX1_stepsTo_19 : decode cX1_stepsTo 19 = .ok (.invokevirtual 36, 3) := by decide +kernel
theorem dX1_stepsTo_22 : decode cX1_stepsTo 22 = .ok (.istore 4, 2) := by decide +kernel
theorem dX1_stepsTo_24 : decode cX1_stepsTo 24 = .ok (.iload_n 2, 1) := by decide +kernel
theorem dX1_stepsTo_25 : decode cX1_stepsTo 25 = .ok (.iload 4, 2) := by decide +kernel
theorem dX1_stepsTo_27 : decode cX1_stepsTo 27 = .ok (.invokestatic 28, 3) := by decide +kernel
theorem dX1_stepsTo_30 : decode cX1_stepsTo 30 = .ok (.ifCond .eq 6, 3) := by decide +kernel
theorem dX1_stepsTo_33 : decode cX1_stepsTo 33 = .ok (.iload 5, 2) := by decide +kernel
theorem dX1_stepsTo_35 : decode cX1_stepsTo 35 = .ok (.ireturn, 1) := by decide +kernel
theorem dX1_stepsTo_36 : decode cX1_stepsTo 36 = .ok (.iinc 5 1, 3) := by decide +kernel
theorem dX1_stepsTo_39 : decode cX1_stepsTo 39 = .ok (.goto (-31), 3) := by decide +kernel
theorem dX1_stepsTo_42 : decode cX1_stepsTo 42 = .ok (.iconst (-1), 1) := by decide +kernel
theorem dX1_stepsTo_43 : decode cX1_stepsTo 43 = .ok (.ireturn, 1) := by decide +kernel
theorem dX1_shortestRing_0 : decode cX1_shortestRing 0 = .ok (.iconst (-1), 1) := by decide +kernel
theorem dX1_shortestRing_1 : decode cX1_shortestRing 1 = .ok (.istore_n 2, 1) := by decide +kernel
theorem dX1_shortestRing_2 : decode cX1_shortestRing 2 = .ok (.iconst 0, 1) := by decide +kernel
theorem dX1_shortestRing_3 : decode cX1_shortestRing 3 = .ok (.istore_n 3, 1) := by decide +kernel
theorem dX1_shortestRing_4 : decode cX1_shortestRing 4 = .ok (.iload_n 3, 1) := by decide +kernel
theorem dX1_shortestRing_5 : decode cX1_shortestRing 5 = .ok (.bipush 10, 2) := by decide +kernel
theorem dX1_shortestRing_7 : decode cX1_shortestRing 7 = .ok (.if_icmp .ge 38, 3) := by decide +kernel
theorem dX1_shortestRing_10 : decode cX1_shortestRing 10 = .ok (.aload_n 0, 1) := by decide +kernel
theorem dX1_shortestRing_11 : decode cX1_shortestRing 11 = .ok (.iload_n 3, 1) := by decide +kernel
theorem dX1_shortestRing_12 : decode cX1_shortestRing 12 = .ok (.iload_n 3, 1) := by decide +kernel
theorem dX1_shortestRing_13 : decode cX1_shortestRing 13 = .ok (.iload_n 1, 1) := by decide +kernel
theorem dX1_shortestRing_14 : decode cX1_shortestRing 14 = .ok (.invokevirtual 40, 3) := by decide +kernel
theorem dX1_shortestRing_17 : decode cX1_shortestRing 17 = .ok (.istore 4, 2) := by decide +kernel
theorem dX1_shortestRing_19 : decode cX1_shortestRing 19 = .ok (.iload 4, 2) := by decide +kernel
theorem dX1_shortestRing_21 : decode cX1_shortestRing 21 = .ok (.iconst (-1), 1) := by decide +kernel
theorem dX1_shortestRing_22 : decode cX1_shortestRing 22 = .ok (.if_icmp .eq 17, 3) := by decide +kernel
theorem dX1_shortestRing_25 : decode cX1_shortestRing 25 = .ok (.iload_n 2, 1) := by decide +kernel
theorem dX1_shortestRing_26 : decode cX1_shortestRing 26 = .ok (.iconst (-1), 1) := by decide +kernel
theorem dX1_shortestRing_27 : decode cX1_shortestRing 27 = .ok (.if_icmp .eq 9, 3) := by decide +kernel
theorem dX1_shortestRing_30 : decode cX1_shortestRing 30 = .ok (.iload 4, 2) := by decide +kernel
theorem dX1_shortestRing_32 : decode cX1_shortestRing 32 = .ok (.iload_n 2, 1) := by decide +kernel
theorem dX1_shortestRing_33 : decode cX1_shortestRing 33 = .ok (.if_icmp .ge 6, 3) := by decide +kernel
theorem dX1_shortestRing_36 : decode cX1_shortestRing 36 = .ok (.iload 4, 2) := by decide +kernel
theorem dX1_shortestRing_38 : decode cX1_shortestRing 38 = .ok (.istore_n 2, 1) := by decide +kernel
theorem dX1_shortestRing_39 : decode cX1_shortestRing 39 = .ok (.iinc 3 1, 3) := by decide +kernel
theorem dX1_shortestRing_42 : decode cX1_shortestRing 42 = .ok (.goto (-38), 3) := by decide +kernel
theorem dX1_shortestRing_45 : decode cX1_shortestRing 45 = .ok (.iload_n 2, 1) := by decide +kernel
theorem dX1_shortestRing_46 : decode cX1_shortestRing 46 = .ok (.ireturn, 1) := by decide +kernel
theorem dX1_endsOf_0 : decode cX1_endsOf 0 = .ok (.iconst 0, 1) := by decide +kernel
theorem dX1_endsOf_1 : decode cX1_endsOf 1 = .ok (.istore_n 2, 1) := by decide +kernel
theorem dX1_endsOf_2 : decode cX1_endsOf 2 = .ok (.iconst 0, 1) := by decide +kernel
theorem dX1_endsOf_3 : decode cX1_endsOf 3 = .ok (.istore_n 3, 1) := by decide +kernel
theorem dX1_endsOf_4 : decode cX1_endsOf 4 = .ok (.iconst 0, 1) := by decide +kernel
theorem dX1_endsOf_5 : decode cX1_endsOf 5 = .ok (.istore 4, 2) := by decide +kernel
theorem dX1_endsOf_7 : decode cX1_endsOf 7 = .ok (.iload 4, 2) := by decide +kernel
theorem dX1_endsOf_9 : decode cX1_endsOf 9 = .ok (.aload_n 0, 1) := by decide +kernel
theorem dX1_endsOf_10 : decode cX1_endsOf 10 = .ok (.getfield 25, 3) := by decide +kernel
theorem dX1_endsOf_13 : decode cX1_endsOf 13 = .ok (.if_icmp .ge 40, 3) := by decide +kernel
theorem dX1_endsOf_16 : decode cX1_endsOf 16 = .ok (.iload 4, 2) := by decide +kernel
theorem dX1_endsOf_18 : decode cX1_endsOf 18 = .ok (.iload_n 1, 1) := by decide +kernel
theorem dX1_endsOf_19 : decode cX1_endsOf 19 = .ok (.invokestatic 28, 3) := by decide +kernel
theorem dX1_endsOf_22 : decode cX1_endsOf 22 = .ok (.ifCond .ne 25, 3) := by decide +kernel
theorem dX1_endsOf_25 : decode cX1_endsOf 25 = .ok (.iload_n 2, 1) := by decide +kernel
theorem dX1_endsOf_26 : decode cX1_endsOf 26 = .ok (.aload_n 0, 1) := by decide +kernel
theorem dX1_endsOf_27 : decode cX1_endsOf 27 = .ok (.getfield 9, 3) := by decide +kernel
theorem dX1_endsOf_30 : decode cX1_endsOf 30 = .ok (.iload 4, 2) := by decide +kernel
theorem dX1_endsOf_32 : decode cX1_endsOf 32 = .ok (.iaload, 1) := by decide +kernel
theorem dX1_endsOf_33 : decode cX1_endsOf 33 = .ok (.ior, 1) := by decide +kernel
theorem dX1_endsOf_34 : decode cX1_endsOf 34 = .ok (.istore_n 2, 1) := by decide +kernel
theorem dX1_endsOf_35 : decode cX1_endsOf 35 = .ok (.iload_n 3, 1) := by decide +kernel
theorem dX1_endsOf_36 : decode cX1_endsOf 36 = .ok (.iconst 1, 1) := by decide +kernel
theorem dX1_endsOf_37 : decode cX1_endsOf 37 = .ok (.aload_n 0, 1) := by decide +kernel
theorem dX1_endsOf_38 : decode cX1_endsOf 38 = .ok (.getfield 18, 3) := by decide +kernel
theorem dX1_endsOf_41 : decode cX1_endsOf 41 = .ok (.iload 4, 2) := by decide +kernel
theorem dX1_endsOf_43 : decode cX1_endsOf 43 = .ok (.iaload, 1) := by decide +kernel
theorem dX1_endsOf_44 : decode cX1_endsOf 44 = .ok (.ishl, 1) := by decide +kernel
theorem dX1_endsOf_45 : decode cX1_endsOf 45 = .ok (.ior, 1) := by decide +kernel
theorem dX1_endsOf_46 : decode cX1_endsOf 46 = .ok (.istore_n 3, 1) := by decide +kernel
theorem dX1_endsOf_47 : decode cX1_endsOf 47 = .ok (.iinc 4 1, 3) := by decide +kernel
theorem dX1_endsOf_50 : decode cX1_endsOf 50 = .ok (.goto (-43), 3) := by decide +kernel
theorem dX1_endsOf_53 : decode cX1_endsOf 53 = .ok (.iload_n 2, 1) := by decide +kernel
theorem dX1_endsOf_54 : decode cX1_endsOf 54 = .ok (.iload_n 3, 1) := by decide +kernel
theorem dX1_endsOf_55 : decode cX1_endsOf 55 = .ok (.iconst (-1), 1) := by decide +kernel
theorem dX1_endsOf_56 : decode cX1_endsOf 56 = .ok (.ixor, 1) := by decide +kernel
theorem dX1_endsOf_57 : decode cX1_endsOf 57 = .ok (.iand, 1) := by decide +kernel
theorem dX1_endsOf_58 : decode cX1_endsOf 58 = .ok (.ireturn, 1) := by decide +kernel
theorem dX2_init_0 : decode cX2_init 0 = .ok (.aload_n 0, 1) := by decide +kernel
theorem dX2_init_1 : decode cX2_init 1 = .ok (.invokespecial 3, 3) := by decide +kernel
theorem dX2_init_4 : decode cX2_init 4 = .ok (.aload_n 0, 1) := by decide +kernel
theorem dX2_init_5 : decode cX2_init 5 = .ok (.new 9, 3) := by decide +kernel
theorem dX2_init_8 : decode cX2_init 8 = .ok (.dup, 1) := by decide +kernel
theorem dX2_init_9 : decode cX2_init 9 = .ok (.invokespecial 11, 3) := by decide +kernel
theorem dX2_init_12 : decode cX2_init 12 = .ok (.putfield 12, 3) := by decide +kernel
theorem dX2_init_15 : decode cX2_init 15 = .ok (.aload_n 0, 1) := by decide +kernel
theorem dX2_init_16 : decode cX2_init 16 = .ok (.new 18, 3) := by decide +kernel
theorem dX2_init_19 : decode cX2_init 19 = .ok (.dup, 1) := by decide +kernel
theorem dX2_init_20 : decode cX2_init 20 = .ok (.invokespecial 20, 3) := by decide +kernel
theorem dX2_init_23 : decode cX2_init 23 = .ok (.putfield 21, 3) := by decide +kernel
theorem dX2_init_26 : decode cX2_init 26 = .ok (.aload_n 0, 1) := by decide +kernel
theorem dX2_init_27 : decode cX2_init 27 = .ok (.new 25, 3) := by decide +kernel
theorem dX2_init_30 : decode cX2_init 30 = .ok (.dup, 1) := by decide +kernel
theorem dX2_init_31 : decode cX2_init 31 = .ok (.invokespecial 27, 3) := by decide +kernel
theorem dX2_init_34 : decode cX2_init 34 = .ok (.putfield 28, 3) := by decide +kernel
theorem dX2_init_37 : decode cX2_init 37 = .ok (.aload_n 0, 1) := by decide +kernel
theorem dX2_init_38 : decode cX2_init 38 = .ok (.iconst 3, 1) := by decide +kernel
theorem dX2_init_39 : decode cX2_init 39 = .ok (.newarray .int, 2) := by decide +kernel
theorem dX2_init_41 : decode cX2_init 41 = .ok (.putfield 32, 3) := by decide +kernel
theorem dX2_init_44 : decode cX2_init 44 = .ok (.aload_n 0, 1) := by decide +kernel
theorem dX2_init_45 : decode cX2_init 45 = .ok (.iconst 0, 1) := by decide +kernel
theorem dX2_init_46 : decode cX2_init 46 = .ok (.putfield 36, 3) := by decide +kernel
theorem dX2_init_49 : decode cX2_init 49 = .ok (.return_, 1) := by decide +kernel
theorem dX3_init_0 : decode cX3_init 0 = .ok (.aload_n 0, 1) := by decide +kernel
theorem dX3_init_1 : decode cX3_init 1 = .ok (.invokespecial 3, 3) := by decide +kernel
theorem dX3_init_4 : decode cX3_init 4 = .ok (.aload_n 0, 1) := by decide +kernel
theorem dX3_init_5 : decode cX3_init 5 = .ok (.new 9, 3) := by decide +kernel
theorem dX3_init_8 : decode cX3_init 8 = .ok (.dup, 1) := by decide +kernel
theorem dX3_init_9 : decode cX3_init 9 = .ok (.invokespecial 11, 3) := by decide +kernel
theorem dX3_init_12 : decode cX3_init 12 = .ok (.putfield 12, 3) := by decide +kernel
theorem dX3_init_15 : decode cX3_init 15 = .ok (.aload_n 0, 1) := by decide +kernel
theorem dX3_init_16 : decode cX3_init 16 = .ok (.new 18, 3) := by decide +kernel
theorem dX3_init_19 : decode cX3_init 19 = .ok (.dup, 1) := by decide +kernel
theorem dX3_init_20 : decode cX3_init 20 = .ok (.invokespecial 20, 3) := by decide +kernel
theorem dX3_init_23 : decode cX3_init 23 = .ok (.putfield 21, 3) := by decide +kernel
theorem dX3_init_26 : decode cX3_init 26 = .ok (.aload_n 0, 1) := by decide +kernel
theorem dX3_init_27 : decode cX3_init 27 = .ok (.iconst 0, 1) := by decide +kernel
theorem dX3_init_28 : decode cX3_init 28 = .ok (.putfield 25, 3) := by decide +kernel
theorem dX3_init_31 : decode cX3_init 31 = .ok (.aload_n 0, 1) := by decide +kernel
theorem dX3_init_32 : decode cX3_init 32 = .ok (.iconst (-1), 1) := by decide +kernel
theorem dX3_init_33 : decode cX3_init 33 = .ok (.putfield 29, 3) := by decide +kernel
theorem dX3_init_36 : decode cX3_init 36 = .ok (.return_, 1) := by decide +kernel
theorem dX3_exchange_0 : decode cX3_exchange 0 = .ok (.aload_n 0, 1) := by decide +kernel
theorem dX3_exchange_1 : decode cX3_exchange 1 = .ok (.getfield 21, 3) := by decide +kernel
theorem dX3_exchange_4 : decode cX3_exchange 4 = .ok (.astore_n 2, 1) := by decide +kernel
theorem dX3_exchange_5 : decode cX3_exchange 5 = .ok (.aload_n 0, 1) := by decide +kernel
theorem dX3_exchange_6 : decode cX3_exchange 6 = .ok (.aload_n 1, 1) := by decide +kernel
theorem dX3_exchange_7 : decode cX3_exchange 7 = .ok (.putfield 21, 3) := by decide +kernel
theorem dX3_exchange_10 : decode cX3_exchange 10 = .ok (.aload_n 2, 1) := by decide +kernel
theorem dX3_exchange_11 : decode cX3_exchange 11 = .ok (.areturn, 1) := by decide +kernel
theorem dX3_read_0 : decode cX3_read 0 = .ok (.aload_n 0, 1) := by decide +kernel
theorem dX3_read_1 : decode cX3_read 1 = .ok (.iconst 0, 1) := by decide +kernel
theorem dX3_read_2 : decode cX3_read 2 = .ok (.putfield 25, 3) := by decide +kernel
theorem dX3_read_5 : decode cX3_read 5 = .ok (.aload_n 0, 1) := by decide +kernel
theorem dX3_read_6 : decode cX3_read 6 = .ok (.iconst (-1), 1) := by decide +kernel
theorem dX3_read_7 : decode cX3_read 7 = .ok (.putfield 29, 3) := by decide +kernel
theorem dX3_read_10 : decode cX3_read 10 = .ok (.aload_n 0, 1) := by decide +kernel
theorem dX3_read_11 : decode cX3_read 11 = .ok (.getfield 21, 3) := by decide +kernel
theorem dX3_read_14 : decode cX3_read 14 = .ok (.invokevirtual 32, 3) := by decide +kernel
theorem dX3_read_17 : decode cX3_read 17 = .ok (.aload_n 0, 1) := by decide +kernel
theorem dX3_read_18 : decode cX3_read 18 = .ok (.getfield 12, 3) := by decide +kernel
theorem dX3_read_21 : decode cX3_read 21 = .ok (.iload_n 1, 1) := by decide +kernel
theorem dX3_read_22 : decode cX3_read 22 = .ok (.invokevirtual 35, 3) := by decide +kernel
theorem dX3_read_25 : decode cX3_read 25 = .ok (.iconst 0, 1) := by decide +kernel
theorem dX3_read_26 : decode cX3_read 26 = .ok (.istore_n 2, 1) := by decide +kernel
theorem dX3_read_27 : decode cX3_read 27 = .ok (.iload_n 2, 1) := by decide +kernel
theorem dX3_read_28 : decode cX3_read 28 = .ok (.iload_n 1, 1) := by decide +kernel
theorem dX3_read_29 : decode cX3_read 29 = .ok (.if_icmp .gt 31, 3) := by decide +kernel
theorem dX3_read_32 : decode cX3_read 32 = .ok (.aload_n 0, 1) := by decide +kernel
theorem dX3_read_33 : decode cX3_read 33 = .ok (.getfield 12, 3) := by decide +kernel
theorem dX3_read_36 : decode cX3_read 36 = .ok (.getfield 39, 3) := by decide +kernel
theorem dX3_read_39 : decode cX3_read 39 = .ok (.ifCond .eq 21, 3) := by decide +kernel
theorem dX3_read_42 : decode cX3_read 42 = .ok (.aload_n 0, 1) := by decide +kernel
theorem dX3_read_43 : decode cX3_read 43 = .ok (.invokevirtual 42, 3) := by decide +kernel
theorem dX3_read_46 : decode cX3_read 46 = .ok (.ifCond .ne 8, 3) := by decide +kernel
theorem dX3_read_49 : decode cX3_read 49 = .ok (.aload_n 0, 1) := by decide +kernel
theorem dX3_read_50 : decode cX3_read 50 = .ok (.getfield 25, 3) := by decide +kernel
theorem dX3_read_53 : decode cX3_read 53 = .ok (.ireturn, 1) := by decide +kernel
theorem dX3_read_54 : decode cX3_read 54 = .ok (.iinc 2 1, 3) := by decide +kernel
theorem dX3_read_57 : decode cX3_read 57 = .ok (.goto (-30), 3) := by decide +kernel
theorem dX3_read_60 : decode cX3_read 60 = .ok (.iconst 0, 1) := by decide +kernel
theorem dX3_read_61 : decode cX3_read 61 = .ok (.ireturn, 1) := by decide +kernel
theorem dX3_refuse_0 : decode cX3_refuse 0 = .ok (.aload_n 0, 1) := by decide +kernel
theorem dX3_refuse_1 : decode cX3_refuse 1 = .ok (.iload_n 1, 1) := by decide +kernel
theorem dX3_refuse_2 : decode cX3_refuse 2 = .ok (.putfield 25, 3) := by decide +kernel
theorem dX3_refuse_5 : decode cX3_refuse 5 = .ok (.aload_n 0, 1) := by decide +kernel
theorem dX3_refuse_6 : decode cX3_refuse 6 = .ok (.aload_n 0, 1) := by decide +kernel
theorem dX3_refuse_7 : decode cX3_refuse 7 = .ok (.getfield 12, 3) := by decide +kernel
theorem dX3_refuse_10 : decode cX3_refuse 10 = .ok (.getfield 46, 3) := by decide +kernel
theorem dX3_refuse_13 : decode cX3_refuse 13 = .ok (.putfield 29, 3) := by decide +kernel
theorem dX3_refuse_16 : decode cX3_refuse 16 = .ok (.iconst 0, 1) := by decide +kernel
theorem dX3_refuse_17 : decode cX3_refuse 17 = .ok (.ireturn, 1) := by decide +kernel
theorem dX3_readLine_0 : decode cX3_readLine 0 = .ok (.aload_n 0, 1) := by decide +kernel
theorem dX3_readLine_1 : decode cX3_readLine 1 = .ok (.getfield 12, 3) := by decide +kernel
theorem dX3_readLine_4 : decode cX3_readLine 4 = .ok (.ldc 47, 2) := by decide +kernel
theorem dX3_readLine_6 : decode cX3_readLine 6 = .ok (.invokevirtual 49, 3) := by decide +kernel
theorem dX3_readLine_9 : decode cX3_readLine 9 = .ok (.ifCond .eq 8, 3) := by decide +kernel
theorem dX3_readLine_12 : decode cX3_readLine 12 = .ok (.aload_n 0, 1) := by decide +kernel
theorem dX3_readLine_13 : decode cX3_readLine 13 = .ok (.invokevirtual 53, 3) := by decide +kernel
theorem dX3_readLine_16 : decode cX3_readLine 16 = .ok (.ireturn, 1) := by decide +kernel
theorem dX3_readLine_17 : decode cX3_readLine 17 = .ok (.aload_n 0, 1) := by decide +kernel
theorem dX3_readLine_18 : decode cX3_readLine 18 = .ok (.getfield 12, 3) := by decide +kernel
theorem dX3_readLine_21 : decode cX3_readLine 21 = .ok (.ldc 56, 2) := by decide +kernel
theorem dX3_readLine_23 : decode cX3_readLine 23 = .ok (.invokevirtual 49, 3) := by decide +kernel
theorem dX3_readLine_26 : decode cX3_readLine 26 = .ok (.ifCond .eq 8, 3) := by decide +kernel
theorem dX3_readLine_29 : decode cX3_readLine 29 = .ok (.aload_n 0, 1) := by decide +kernel
theorem dX3_readLine_30 : decode cX3_readLine 30 = .ok (.invokevirtual 58, 3) := by decide +kernel
theorem dX3_readLine_33 : decode cX3_readLine 33 = .ok (.ireturn, 1) := by decide +kernel
theorem dX3_readLine_34 : decode cX3_readLine 34 = .ok (.aload_n 0, 1) := by decide +kernel
theorem dX3_readLine_35 : decode cX3_readLine 35 = .ok (.getfield 12, 3) := by decide +kernel
theorem dX3_readLine_38 : decode cX3_readLine 38 = .ok (.ldc 61, 2) := by decide +kernel
theorem dX3_readLine_40 : decode cX3_readLine 40 = .ok (.invokevirtual 49, 3) := by decide +kernel
theorem dX3_readLine_43 : decode cX3_readLine 43 = .ok (.ifCond .eq 9, 3) := by decide +kernel
theorem dX3_readLine_46 : decode cX3_readLine 46 = .ok (.aload_n 0, 1) := by decide +kernel
theorem dX3_readLine_47 : decode cX3_readLine 47 = .ok (.iconst 0, 1) := by decide +kernel
theorem dX3_readLine_48 : decode cX3_readLine 48 = .ok (.invokevirtual 63, 3) := by decide +kernel
theorem dX3_readLine_51 : decode cX3_readLine 51 = .ok (.ireturn, 1) := by decide +kernel
theorem dX3_readLine_52 : decode cX3_readLine 52 = .ok (.aload_n 0, 1) := by decide +kernel
theorem dX3_readLine_53 : decode cX3_readLine 53 = .ok (.getfield 12, 3) := by decide +kernel
theorem dX3_readLine_56 : decode cX3_readLine 56 = .ok (.ldc 67, 2) := by decide +kernel
theorem dX3_readLine_58 : decode cX3_readLine 58 = .ok (.invokevirtual 49, 3) := by decide +kernel
theorem dX3_readLine_61 : decode cX3_readLine 61 = .ok (.ifCond .eq 9, 3) := by decide +kernel
theorem dX3_readLine_64 : decode cX3_readLine 64 = .ok (.aload_n 0, 1) := by decide +kernel
theorem dX3_readLine_65 : decode cX3_readLine 65 = .ok (.iconst 1, 1) := by decide +kernel
theorem dX3_readLine_66 : decode cX3_readLine 66 = .ok (.invokevirtual 63, 3) := by decide +kernel
theorem dX3_readLine_69 : decode cX3_readLine 69 = .ok (.ireturn, 1) := by decide +kernel
theorem dX3_readLine_70 : decode cX3_readLine 70 = .ok (.aload_n 0, 1) := by decide +kernel
theorem dX3_readLine_71 : decode cX3_readLine 71 = .ok (.getfield 12, 3) := by decide +kernel
theorem dX3_readLine_74 : decode cX3_readLine 74 = .ok (.ldc 69, 2) := by decide +kernel
theorem dX3_readLine_76 : decode cX3_readLine 76 = .ok (.invokevirtual 49, 3) := by decide +kernel
theorem dX3_readLine_79 : decode cX3_readLine 79 = .ok (.ifCond .eq 8, 3) := by decide +kernel
theorem dX3_readLine_82 : decode cX3_readLine 82 = .ok (.aload_n 0, 1) := by decide +kernel
theorem dX3_readLine_83 : decode cX3_readLine 83 = .ok (.invokevirtual 71, 3) := by decide +kernel
theorem dX3_readLine_86 : decode cX3_readLine 86 = .ok (.ireturn, 1) := by decide +kernel
theorem dX3_readLine_87 : decode cX3_readLine 87 = .ok (.aload_n 0, 1) := by decide +kernel
theorem dX3_readLine_88 : decode cX3_readLine 88 = .ok (.getfield 12, 3) := by decide +kernel
theorem dX3_readLine_91 : decode cX3_readLine 91 = .ok (.ldc 74, 2) := by decide +kernel
theorem dX3_readLine_93 : decode cX3_readLine 93 = .ok (.invokevirtual 49, 3) := by decide +kernel
theorem dX3_readLine_96 : decode cX3_readLine 96 = .ok (.ifCond .eq 10, 3) := by decide +kernel
theorem dX3_readLine_99 : decode cX3_readLine 99 = .ok (.aload_n 0, 1) := by decide +kernel
theorem dX3_readLine_100 : decode cX3_readLine 100 = .ok (.invokevirtual 76, 3) := by decide +kernel
theorem dX3_readLine_103 : decode cX3_readLine 103 = .ok (.goto 8, 3) := by decide +kernel
theorem dX3_readLine_106 : decode cX3_readLine 106 = .ok (.aload_n 0, 1) := by decide +kernel
theorem dX3_readLine_107 : decode cX3_readLine 107 = .ok (.iconst 1, 1) := by decide +kernel
theorem dX3_readLine_108 : decode cX3_readLine 108 = .ok (.invokevirtual 79, 3) := by decide +kernel
theorem dX3_readLine_111 : decode cX3_readLine 111 = .ok (.ireturn, 1) := by decide +kernel
theorem dX3_readWorth_0 : decode cX3_readWorth 0 = .ok (.aload_n 0, 1) := by decide +kernel
theorem dX3_readWorth_1 : decode cX3_readWorth 1 = .ok (.getfield 12, 3) := by decide +kernel
theorem dX3_readWorth_4 : decode cX3_readWorth 4 = .ok (.invokevirtual 83, 3) := by decide +kernel
theorem dX3_readWorth_7 : decode cX3_readWorth 7 = .ok (.aload_n 0, 1) := by decide +kernel
theorem dX3_readWorth_8 : decode cX3_readWorth 8 = .ok (.iconst 0, 1) := by decide +kernel
theorem dX3_readWorth_9 : decode cX3_readWorth 9 = .ok (.bipush 9, 2) := by decide +kernel
theorem dX3_readWorth_11 : decode cX3_readWorth 11 = .ok (.invokevirtual 86, 3) := by decide +kernel
theorem dX3_readWorth_14 : decode cX3_readWorth 14 = .ok (.istore_n 1, 1) := by decide +kernel
theorem dX3_readWorth_15 : decode cX3_readWorth 15 = .ok (.iload_n 1, 1) := by decide +kernel
theorem dX3_readWorth_16 : decode cX3_readWorth 16 = .ok (.iconst (-1), 1) := by decide +kernel
theorem dX3_readWorth_17 : decode cX3_readWorth 17 = .ok (.if_icmp .ne 5, 3) := by decide +kernel
theorem dX3_readWorth_20 : decode cX3_readWorth 20 = .ok (.iconst 0, 1) := by decide +kernel
theorem dX3_readWorth_21 : decode cX3_readWorth 21 = .ok (.ireturn, 1) := by decide +kernel
theorem dX3_readWorth_22 : decode cX3_readWorth 22 = .ok (.iload_n 1, 1) := by decide +kernel
theorem dX3_readWorth_23 : decode cX3_readWorth 23 = .ok (.aload_n 0, 1) := by decide +kernel
theorem dX3_readWorth_24 : decode cX3_readWorth 24 = .ok (.getfield 21, 3) := by decide +kernel
theorem dX3_readWorth_27 : decode cX3_readWorth 27 = .ok (.getfield 90, 3) := by decide +kernel
theorem dX3_readWorth_30 : decode cX3_readWorth 30 = .ok (.invokestatic 93, 3) := by decide +kernel
theorem dX3_readWorth_33 : decode cX3_readWorth 33 = .ok (.ifCond .eq 9, 3) := by decide +kernel
theorem dX3_readWorth_36 : decode cX3_readWorth 36 = .ok (.aload_n 0, 1) := by decide +kernel
theorem dX3_readWorth_37 : decode cX3_readWorth 37 = .ok (.iconst 4, 1) := by decide +kernel
theorem dX3_readWorth_38 : decode cX3_readWorth 38 = .ok (.invokevirtual 79, 3) := by decide +kernel
theorem dX3_readWorth_41 : decode cX3_readWorth 41 = .ok (.ireturn, 1) := by decide +kernel
theorem dX3_readWorth_42 : decode cX3_readWorth 42 = .ok (.aload_n 0, 1) := by decide +kernel
theorem dX3_readWorth_43 : decode cX3_readWorth 43 = .ok (.getfield 12, 3) := by decide +kernel
theorem dX3_readWorth_46 : decode cX3_readWorth 46 = .ok (.invokevirtual 83, 3) := by decide +kernel
theorem dX3_readWorth_49 : decode cX3_readWorth 49 = .ok (.aload_n 0, 1) := by decide +kernel
theorem dX3_readWorth_50 : decode cX3_readWorth 50 = .ok (.getfield 12, 3) := by decide +kernel
theorem dX3_readWorth_53 : decode cX3_readWorth 53 = .ok (.bipush 45, 2) := by decide +kernel
theorem dX3_readWorth_55 : decode cX3_readWorth 55 = .ok (.invokevirtual 97, 3) := by decide +kernel
theorem dX3_readWorth_58 : decode cX3_readWorth 58 = .ok (.istore_n 2, 1) := by decide +kernel
theorem dX3_readWorth_59 : decode cX3_readWorth 59 = .ok (.iload_n 2, 1) := by decide +kernel
theorem dX3_readWorth_60 : decode cX3_readWorth 60 = .ok (.ifCond .eq 10, 3) := by decide +kernel
theorem dX3_readWorth_63 : decode cX3_readWorth 63 = .ok (.aload_n 0, 1) := by decide +kernel
theorem dX3_readWorth_64 : decode cX3_readWorth 64 = .ok (.getfield 12, 3) := by decide +kernel
theorem dX3_readWorth_67 : decode cX3_readWorth 67 = .ok (.invokevirtual 83, 3) := by decide +kernel
theorem dX3_readWorth_70 : decode cX3_readWorth 70 = .ok (.aload_n 0, 1) := by decide +kernel
theorem dX3_readWorth_71 : decode cX3_readWorth 71 = .ok (.iconst 0, 1) := by decide +kernel
theorem dX3_readWorth_72 : decode cX3_readWorth 72 = .ok (.bipush 9, 2) := by decide +kernel
theorem dX3_readWorth_74 : decode cX3_readWorth 74 = .ok (.invokevirtual 101, 3) := by decide +kernel
theorem dX3_readWorth_77 : decode cX3_readWorth 77 = .ok (.istore_n 3, 1) := by decide +kernel
theorem dX3_readWorth_78 : decode cX3_readWorth 78 = .ok (.iload_n 3, 1) := by decide +kernel
theorem dX3_readWorth_79 : decode cX3_readWorth 79 = .ok (.iconst (-1), 1) := by decide +kernel
theorem dX3_readWorth_80 : decode cX3_readWorth 80 = .ok (.if_icmp .ne 5, 3) := by decide +kernel
theorem dX3_readWorth_83 : decode cX3_readWorth 83 = .ok (.iconst 0, 1) := by decide +kernel
theorem dX3_readWorth_84 : decode cX3_readWorth 84 = .ok (.ireturn, 1) := by decide +kernel
theorem dX3_readWorth_85 : decode cX3_readWorth 85 = .ok (.aload_n 0, 1) := by decide +kernel
theorem dX3_readWorth_86 : decode cX3_readWorth 86 = .ok (.getfield 21, 3) := by decide +kernel
theorem dX3_readWorth_89 : decode cX3_readWorth 89 = .ok (.iload_n 1, 1) := by decide +kernel
theorem dX3_readWorth_90 : decode cX3_readWorth 90 = .ok (.iload_n 2, 1) := by decide +kernel
theorem dX3_readWorth_91 : decode cX3_readWorth 91 = .ok (.ifCond .eq 8, 3) := by decide +kernel
theorem dX3_readWorth_94 : decode cX3_readWorth 94 = .ok (.iload_n 3, 1) := by decide +kernel
theorem dX3_readWorth_95 : decode cX3_readWorth 95 = .ok (.ineg, 1) := by decide +kernel
theorem dX3_readWorth_96 : decode cX3_readWorth 96 = .ok (.goto 4, 3) := by decide +kernel
theorem dX3_readWorth_99 : decode cX3_readWorth 99 = .ok (.iload_n 3, 1) := by decide +kernel
theorem dX3_readWorth_100 : decode cX3_readWorth 100 = .ok (.invokevirtual 104, 3) := by decide +kernel
theorem dX3_readWorth_103 : decode cX3_readWorth 103 = .ok (.aload_n 0, 1) := by decide +kernel
theorem dX3_readWorth_104 : decode cX3_readWorth 104 = .ok (.bipush 59, 2) := by decide +kernel
theorem dX3_readWorth_106 : decode cX3_readWorth 106 = .ok (.invokevirtual 108, 3) := by decide +kernel
theorem dX3_readWorth_109 : decode cX3_readWorth 109 = .ok (.ireturn, 1) := by decide +kernel
theorem dX3_readPerson_0 : decode cX3_readPerson 0 = .ok (.aload_n 0, 1) := by decide +kernel
theorem dX3_readPerson_1 : decode cX3_readPerson 1 = .ok (.getfield 21, 3) := by decide +kernel
theorem dX3_readPerson_4 : decode cX3_readPerson 4 = .ok (.getfield 111, 3) := by decide +kernel
theorem dX3_readPerson_7 : decode cX3_readPerson 7 = .ok (.bipush 8, 2) := by decide +kernel
theorem dX3_readPerson_9 : decode cX3_readPerson 9 = .ok (.if_icmp .lt 9, 3) := by decide +kernel
theorem dX3_readPerson_12 : decode cX3_readPerson 12 = .ok (.aload_n 0, 1) := by decide +kernel
theorem dX3_readPerson_13 : decode cX3_readPerson 13 = .ok (.iconst 2, 1) := by decide +kernel
theorem dX3_readPerson_14 : decode cX3_readPerson 14 = .ok (.invokevirtual 79, 3) := by decide +kernel
theorem dX3_readPerson_17 : decode cX3_readPerson 17 = .ok (.ireturn, 1) := by decide +kernel
theorem dX3_readPerson_18 : decode cX3_readPerson 18 = .ok (.aload_n 0, 1) := by decide +kernel
theorem dX3_readPerson_19 : decode cX3_readPerson 19 = .ok (.getfield 12, 3) := by decide +kernel
theorem dX3_readPerson_22 : decode cX3_readPerson 22 = .ok (.invokevirtual 83, 3) := by decide +kernel
theorem dX3_readPerson_25 : decode cX3_readPerson 25 = .ok (.aload_n 0, 1) := by decide +kernel
theorem dX3_readPerson_26 : decode cX3_readPerson 26 = .ok (.iconst 0, 1) := by decide +kernel
theorem dX3_readPerson_27 : decode cX3_readPerson 27 = .ok (.sipush 1023, 3) := by decide +kernel
theorem dX3_readPerson_30 : decode cX3_readPerson 30 = .ok (.invokevirtual 101, 3) := by decide +kernel
theorem dX3_readPerson_33 : decode cX3_readPerson 33 = .ok (.istore_n 1, 1) := by decide +kernel
theorem dX3_readPerson_34 : decode cX3_readPerson 34 = .ok (.iload_n 1, 1) := by decide +kernel
theorem dX3_readPerson_35 : decode cX3_readPerson 35 = .ok (.iconst (-1), 1) := by decide +kernel
theorem dX3_readPerson_36 : decode cX3_readPerson 36 = .ok (.if_icmp .ne 7, 3) := by decide +kernel
theorem dX3_readPerson_39 : decode cX3_readPerson 39 = .ok (.iconst (-1), 1) := by decide +kernel
theorem dX3_readPerson_40 : decode cX3_readPerson 40 = .ok (.goto 10, 3) := by decide +kernel
theorem dX3_readPerson_43 : decode cX3_readPerson 43 = .ok (.aload_n 0, 1) := by decide +kernel
theorem dX3_readPerson_44 : decode cX3_readPerson 44 = .ok (.iconst 0, 1) := by decide +kernel
theorem dX3_readPerson_45 : decode cX3_readPerson 45 = .ok (.bipush 9, 2) := by decide +kernel
theorem dX3_readPerson_47 : decode cX3_readPerson 47 = .ok (.invokevirtual 101, 3) := by decide +kernel
theorem dX3_readPerson_50 : decode cX3_readPerson 50 = .ok (.istore_n 2, 1) := by decide +kernel
theorem dX3_readPerson_51 : decode cX3_readPerson 51 = .ok (.iload_n 2, 1) := by decide +kernel
theorem dX3_readPerson_52 : decode cX3_readPerson 52 = .ok (.iconst (-1), 1) := by decide +kernel
theorem dX3_readPerson_53 : decode cX3_readPerson 53 = .ok (.if_icmp .ne 7, 3) := by decide +kernel
theorem dX3_readPerson_56 : decode cX3_readPerson 56 = .ok (.iconst (-1), 1) := by decide +kernel
theorem dX3_readPerson_57 : decode cX3_readPerson 57 = .ok (.goto 10, 3) := by decide +kernel
theorem dX3_readPerson_60 : decode cX3_readPerson 60 = .ok (.aload_n 0, 1) := by decide +kernel
theorem dX3_readPerson_61 : decode cX3_readPerson 61 = .ok (.iconst 0, 1) := by decide +kernel
theorem dX3_readPerson_62 : decode cX3_readPerson 62 = .ok (.bipush 9, 2) := by decide +kernel
theorem dX3_readPerson_64 : decode cX3_readPerson 64 = .ok (.invokevirtual 101, 3) := by decide +kernel
theorem dX3_readPerson_67 : decode cX3_readPerson 67 = .ok (.istore_n 3, 1) := by decide +kernel
theorem dX3_readPerson_68 : decode cX3_readPerson 68 = .ok (.iload_n 3, 1) := by decide +kernel
theorem dX3_readPerson_69 : decode cX3_readPerson 69 = .ok (.iconst (-1), 1) := by decide +kernel
theorem dX3_readPerson_70 : decode cX3_readPerson 70 = .ok (.if_icmp .ne 7, 3) := by decide +kernel
theorem dX3_readPerson_73 : decode cX3_readPerson 73 = .ok (.iconst (-1), 1) := by decide +kernel
theorem dX3_readPerson_74 : decode cX3_readPerson 74 = .ok (.goto 10, 3) := by decide +kernel
theorem dX3_readPerson_77 : decode cX3_readPerson 77 = .ok (.aload_n 0, 1) := by decide +kernel
theorem dX3_readPerson_78 : decode cX3_readPerson 78 = .ok (.iconst 0, 1) := by decide +kernel
theorem dX3_readPerson_79 : decode cX3_readPerson 79 = .ok (.bipush 99, 2) := by decide +kernel
theorem dX3_readPerson_81 : decode cX3_readPerson 81 = .ok (.invokevirtual 101, 3) := by decide +kernel
theorem dX3_readPerson_84 : decode cX3_readPerson 84 = .ok (.istore 4, 2) := by decide +kernel
theorem dX3_readPerson_86 : decode cX3_readPerson 86 = .ok (.iload 4, 2) := by decide +kernel
theorem dX3_readPerson_88 : decode cX3_readPerson 88 = .ok (.iconst (-1), 1) := by decide +kernel
theorem dX3_readPerson_89 : decode cX3_readPerson 89 = .ok (.if_icmp .ne 5, 3) := by decide +kernel
theorem dX3_readPerson_92 : decode cX3_readPerson 92 = .ok (.iconst 0, 1) := by decide +kernel
theorem dX3_readPerson_93 : decode cX3_readPerson 93 = .ok (.ireturn, 1) := by decide +kernel
theorem dX3_readPerson_94 : decode cX3_readPerson 94 = .ok (.aload_n 0, 1) := by decide +kernel
theorem dX3_readPerson_95 : decode cX3_readPerson 95 = .ok (.getfield 21, 3) := by decide +kernel
theorem dX3_readPerson_98 : decode cX3_readPerson 98 = .ok (.iload_n 1, 1) := by decide +kernel
theorem dX3_readPerson_99 : decode cX3_readPerson 99 = .ok (.iload_n 2, 1) := by decide +kernel
theorem dX3_readPerson_100 : decode cX3_readPerson 100 = .ok (.iload_n 3, 1) := by decide +kernel
theorem dX3_readPerson_101 : decode cX3_readPerson 101 = .ok (.iload 4, 2) := by decide +kernel
theorem dX3_readPerson_103 : decode cX3_readPerson 103 = .ok (.invokevirtual 114, 3) := by decide +kernel
theorem dX3_readPerson_106 : decode cX3_readPerson 106 = .ok (.aload_n 0, 1) := by decide +kernel
theorem dX3_readPerson_107 : decode cX3_readPerson 107 = .ok (.bipush 59, 2) := by decide +kernel
theorem dX3_readPerson_109 : decode cX3_readPerson 109 = .ok (.invokevirtual 108, 3) := by decide +kernel
theorem dX3_readPerson_112 : decode cX3_readPerson 112 = .ok (.ireturn, 1) := by decide +kernel
theorem dX3_readIf_0 : decode cX3_readIf 0 = .ok (.aload_n 0, 1) := by decide +kernel
theorem dX3_readIf_1 : decode cX3_readIf 1 = .ok (.getfield 21, 3) := by decide +kernel
theorem dX3_readIf_4 : decode cX3_readIf 4 = .ok (.getfield 118, 3) := by decide +kernel
theorem dX3_readIf_7 : decode cX3_readIf 7 = .ok (.getfield 122, 3) := by decide +kernel
theorem dX3_readIf_10 : decode cX3_readIf 10 = .ok (.bipush 12, 2) := by decide +kernel
theorem dX3_readIf_12 : decode cX3_readIf 12 = .ok (.if_icmp .lt 9, 3) := by decide +kernel
theorem dX3_readIf_15 : decode cX3_readIf 15 = .ok (.aload_n 0, 1) := by decide +kernel
theorem dX3_readIf_16 : decode cX3_readIf 16 = .ok (.iconst 2, 1) := by decide +kernel
theorem dX3_readIf_17 : decode cX3_readIf 17 = .ok (.invokevirtual 79, 3) := by decide +kernel
theorem dX3_readIf_20 : decode cX3_readIf 20 = .ok (.ireturn, 1) := by decide +kernel
theorem dX3_readIf_21 : decode cX3_readIf 21 = .ok (.aload_n 0, 1) := by decide +kernel
theorem dX3_readIf_22 : decode cX3_readIf 22 = .ok (.getfield 12, 3) := by decide +kernel
theorem dX3_readIf_25 : decode cX3_readIf 25 = .ok (.invokevirtual 83, 3) := by decide +kernel
theorem dX3_readIf_28 : decode cX3_readIf 28 = .ok (.aload_n 0, 1) := by decide +kernel
theorem dX3_readIf_29 : decode cX3_readIf 29 = .ok (.iconst 0, 1) := by decide +kernel
theorem dX3_readIf_30 : decode cX3_readIf 30 = .ok (.sipush 1023, 3) := by decide +kernel
theorem dX3_readIf_33 : decode cX3_readIf 33 = .ok (.invokevirtual 101, 3) := by decide +kernel
theorem dX3_readIf_36 : decode cX3_readIf 36 = .ok (.istore_n 2, 1) := by decide +kernel
theorem dX3_readIf_37 : decode cX3_readIf 37 = .ok (.iload_n 2, 1) := by decide +kernel
theorem dX3_readIf_38 : decode cX3_readIf 38 = .ok (.iconst (-1), 1) := by decide +kernel
theorem dX3_readIf_39 : decode cX3_readIf 39 = .ok (.if_icmp .ne 7, 3) := by decide +kernel
theorem dX3_readIf_42 : decode cX3_readIf 42 = .ok (.iconst (-1), 1) := by decide +kernel
theorem dX3_readIf_43 : decode cX3_readIf 43 = .ok (.goto 11, 3) := by decide +kernel
theorem dX3_readIf_46 : decode cX3_readIf 46 = .ok (.aload_n 0, 1) := by decide +kernel
theorem dX3_readIf_47 : decode cX3_readIf 47 = .ok (.iconst 0, 1) := by decide +kernel
theorem dX3_readIf_48 : decode cX3_readIf 48 = .ok (.sipush 1023, 3) := by decide +kernel
theorem dX3_readIf_51 : decode cX3_readIf 51 = .ok (.invokevirtual 101, 3) := by decide +kernel
theorem dX3_readIf_54 : decode cX3_readIf 54 = .ok (.istore_n 3, 1) := by decide +kernel
theorem dX3_readIf_55 : decode cX3_readIf 55 = .ok (.iload_n 3, 1) := by decide +kernel
theorem dX3_readIf_56 : decode cX3_readIf 56 = .ok (.iconst (-1), 1) := by decide +kernel
theorem dX3_readIf_57 : decode cX3_readIf 57 = .ok (.if_icmp .ne 7, 3) := by decide +kernel
theorem dX3_readIf_60 : decode cX3_readIf 60 = .ok (.iconst (-1), 1) := by decide +kernel
theorem dX3_readIf_61 : decode cX3_readIf 61 = .ok (.goto 10, 3) := by decide +kernel
theorem dX3_readIf_64 : decode cX3_readIf 64 = .ok (.aload_n 0, 1) := by decide +kernel
theorem dX3_readIf_65 : decode cX3_readIf 65 = .ok (.iconst 0, 1) := by decide +kernel
theorem dX3_readIf_66 : decode cX3_readIf 66 = .ok (.bipush 9, 2) := by decide +kernel
theorem dX3_readIf_68 : decode cX3_readIf 68 = .ok (.invokevirtual 101, 3) := by decide +kernel
theorem dX3_readIf_71 : decode cX3_readIf 71 = .ok (.istore 4, 2) := by decide +kernel
theorem dX3_readIf_73 : decode cX3_readIf 73 = .ok (.iload 4, 2) := by decide +kernel
theorem dX3_readIf_75 : decode cX3_readIf 75 = .ok (.iconst (-1), 1) := by decide +kernel
theorem dX3_readIf_76 : decode cX3_readIf 76 = .ok (.if_icmp .ne 5, 3) := by decide +kernel
theorem dX3_readIf_79 : decode cX3_readIf 79 = .ok (.iconst 0, 1) := by decide +kernel
theorem dX3_readIf_80 : decode cX3_readIf 80 = .ok (.ireturn, 1) := by decide +kernel
theorem dX3_readIf_81 : decode cX3_readIf 81 = .ok (.aload_n 0, 1) := by decide +kernel
theorem dX3_readIf_82 : decode cX3_readIf 82 = .ok (.getfield 21, 3) := by decide +kernel
theorem dX3_readIf_85 : decode cX3_readIf 85 = .ok (.getfield 118, 3) := by decide +kernel
theorem dX3_readIf_88 : decode cX3_readIf 88 = .ok (.iload_n 2, 1) := by decide +kernel
theorem dX3_readIf_89 : decode cX3_readIf 89 = .ok (.iload_n 3, 1) := by decide +kernel
theorem dX3_readIf_90 : decode cX3_readIf 90 = .ok (.iload 4, 2) := by decide +kernel
theorem dX3_readIf_92 : decode cX3_readIf 92 = .ok (.iload_n 1, 1) := by decide +kernel
theorem dX3_readIf_93 : decode cX3_readIf 93 = .ok (.invokevirtual 127, 3) := by decide +kernel
theorem dX3_readIf_96 : decode cX3_readIf 96 = .ok (.aload_n 0, 1) := by decide +kernel
theorem dX3_readIf_97 : decode cX3_readIf 97 = .ok (.bipush 59, 2) := by decide +kernel
theorem dX3_readIf_99 : decode cX3_readIf 99 = .ok (.invokevirtual 108, 3) := by decide +kernel
theorem dX3_readIf_102 : decode cX3_readIf 102 = .ok (.ireturn, 1) := by decide +kernel
theorem dX3_readBridge_0 : decode cX3_readBridge 0 = .ok (.aload_n 0, 1) := by decide +kernel
theorem dX3_readBridge_1 : decode cX3_readBridge 1 = .ok (.getfield 21, 3) := by decide +kernel
theorem dX3_readBridge_4 : decode cX3_readBridge 4 = .ok (.getfield 131, 3) := by decide +kernel
theorem dX3_readBridge_7 : decode cX3_readBridge 7 = .ok (.ifCond .eq 9, 3) := by decide +kernel
theorem dX3_readBridge_10 : decode cX3_readBridge 10 = .ok (.aload_n 0, 1) := by decide +kernel
theorem dX3_readBridge_11 : decode cX3_readBridge 11 = .ok (.iconst 5, 1) := by decide +kernel
theorem dX3_readBridge_12 : decode cX3_readBridge 12 = .ok (.invokevirtual 79, 3) := by decide +kernel
theorem dX3_readBridge_15 : decode cX3_readBridge 15 = .ok (.ireturn, 1) := by decide +kernel
theorem dX3_readBridge_16 : decode cX3_readBridge 16 = .ok (.aload_n 0, 1) := by decide +kernel
theorem dX3_readBridge_17 : decode cX3_readBridge 17 = .ok (.getfield 12, 3) := by decide +kernel
theorem dX3_readBridge_20 : decode cX3_readBridge 20 = .ok (.invokevirtual 83, 3) := by decide +kernel
theorem dX3_readBridge_23 : decode cX3_readBridge 23 = .ok (.aload_n 0, 1) := by decide +kernel
theorem dX3_readBridge_24 : decode cX3_readBridge 24 = .ok (.iconst 1, 1) := by decide +kernel
theorem dX3_readBridge_25 : decode cX3_readBridge 25 = .ok (.bipush 8, 2) := by decide +kernel
theorem dX3_readBridge_27 : decode cX3_readBridge 27 = .ok (.invokevirtual 101, 3) := by decide +kernel
theorem dX3_readBridge_30 : decode cX3_readBridge 30 = .ok (.istore_n 1, 1) := by decide +kernel
theorem dX3_readBridge_31 : decode cX3_readBridge 31 = .ok (.iload_n 1, 1) := by decide +kernel
theorem dX3_readBridge_32 : decode cX3_readBridge 32 = .ok (.iconst (-1), 1) := by decide +kernel
theorem dX3_readBridge_33 : decode cX3_readBridge 33 = .ok (.if_icmp .ne 5, 3) := by decide +kernel
theorem dX3_readBridge_36 : decode cX3_readBridge 36 = .ok (.iconst 0, 1) := by decide +kernel
theorem dX3_readBridge_37 : decode cX3_readBridge 37 = .ok (.ireturn, 1) := by decide +kernel
theorem dX3_readBridge_38 : decode cX3_readBridge 38 = .ok (.aload_n 0, 1) := by decide +kernel
theorem dX3_readBridge_39 : decode cX3_readBridge 39 = .ok (.getfield 21, 3) := by decide +kernel
theorem dX3_readBridge_42 : decode cX3_readBridge 42 = .ok (.iload_n 1, 1) := by decide +kernel
theorem dX3_readBridge_43 : decode cX3_readBridge 43 = .ok (.putfield 135, 3) := by decide +kernel
theorem dX3_readBridge_46 : decode cX3_readBridge 46 = .ok (.aload_n 0, 1) := by decide +kernel
theorem dX3_readBridge_47 : decode cX3_readBridge 47 = .ok (.getfield 21, 3) := by decide +kernel
theorem dX3_readBridge_50 : decode cX3_readBridge 50 = .ok (.iconst 1, 1) := by decide +kernel
theorem dX3_readBridge_51 : decode cX3_readBridge 51 = .ok (.putfield 131, 3) := by decide +kernel
theorem dX3_readBridge_54 : decode cX3_readBridge 54 = .ok (.aload_n 0, 1) := by decide +kernel
theorem dX3_readBridge_55 : decode cX3_readBridge 55 = .ok (.bipush 59, 2) := by decide +kernel
theorem dX3_readBridge_57 : decode cX3_readBridge 57 = .ok (.invokevirtual 108, 3) := by decide +kernel
theorem dX3_readBridge_60 : decode cX3_readBridge 60 = .ok (.ireturn, 1) := by decide +kernel
theorem dX3_readCrosses_0 : decode cX3_readCrosses 0 = .ok (.aload_n 0, 1) := by decide +kernel
theorem dX3_readCrosses_1 : decode cX3_readCrosses 1 = .ok (.getfield 21, 3) := by decide +kernel
theorem dX3_readCrosses_4 : decode cX3_readCrosses 4 = .ok (.getfield 138, 3) := by decide +kernel
theorem dX3_readCrosses_7 : decode cX3_readCrosses 7 = .ok (.invokevirtual 142, 3) := by decide +kernel
theorem dX3_readCrosses_10 : decode cX3_readCrosses 10 = .ok (.ifCond .eq 9, 3) := by decide +kernel
theorem dX3_readCrosses_13 : decode cX3_readCrosses 13 = .ok (.aload_n 0, 1) := by decide +kernel
theorem dX3_readCrosses_14 : decode cX3_readCrosses 14 = .ok (.iconst 5, 1) := by decide +kernel
theorem dX3_readCrosses_15 : decode cX3_readCrosses 15 = .ok (.invokevirtual 79, 3) := by decide +kernel
theorem dX3_readCrosses_18 : decode cX3_readCrosses 18 = .ok (.ireturn, 1) := by decide +kernel
theorem dX3_readCrosses_19 : decode cX3_readCrosses 19 = .ok (.aload_n 0, 1) := by decide +kernel
theorem dX3_readCrosses_20 : decode cX3_readCrosses 20 = .ok (.getfield 12, 3) := by decide +kernel
theorem dX3_readCrosses_23 : decode cX3_readCrosses 23 = .ok (.invokevirtual 83, 3) := by decide +kernel
theorem dX3_readCrosses_26 : decode cX3_readCrosses 26 = .ok (.aload_n 0, 1) := by decide +kernel
theorem dX3_readCrosses_27 : decode cX3_readCrosses 27 = .ok (.iconst 0, 1) := by decide +kernel
theorem dX3_readCrosses_28 : decode cX3_readCrosses 28 = .ok (.invokevirtual 147, 3) := by decide +kernel
theorem dX3_readCrosses_31 : decode cX3_readCrosses 31 = .ok (.ifCond .eq 16, 3) := by decide +kernel
theorem dX3_readCrosses_34 : decode cX3_readCrosses 34 = .ok (.aload_n 0, 1) := by decide +kernel
theorem dX3_readCrosses_35 : decode cX3_readCrosses 35 = .ok (.bipush 59, 2) := by decide +kernel
theorem dX3_readCrosses_37 : decode cX3_readCrosses 37 = .ok (.invokevirtual 108, 3) := by decide +kernel
theorem dX3_readCrosses_40 : decode cX3_readCrosses 40 = .ok (.ifCond .eq 7, 3) := by decide +kernel
theorem dX3_readCrosses_43 : decode cX3_readCrosses 43 = .ok (.iconst 1, 1) := by decide +kernel
theorem dX3_readCrosses_44 : decode cX3_readCrosses 44 = .ok (.goto 4, 3) := by decide +kernel
theorem dX3_readCrosses_47 : decode cX3_readCrosses 47 = .ok (.iconst 0, 1) := by decide +kernel
theorem dX3_readCrosses_48 : decode cX3_readCrosses 48 = .ok (.ireturn, 1) := by decide +kernel
theorem dX3_takeSign_0 : decode cX3_takeSign 0 = .ok (.aload_n 0, 1) := by decide +kernel
theorem dX3_takeSign_1 : decode cX3_takeSign 1 = .ok (.getfield 12, 3) := by decide +kernel
theorem dX3_takeSign_4 : decode cX3_takeSign 4 = .ok (.iload_n 1, 1) := by decide +kernel
theorem dX3_takeSign_5 : decode cX3_takeSign 5 = .ok (.invokevirtual 97, 3) := by decide +kernel
theorem dX3_takeSign_8 : decode cX3_takeSign 8 = .ok (.ifCond .ne 9, 3) := by decide +kernel
theorem dX3_takeSign_11 : decode cX3_takeSign 11 = .ok (.aload_n 0, 1) := by decide +kernel
theorem dX3_takeSign_12 : decode cX3_takeSign 12 = .ok (.iconst 1, 1) := by decide +kernel
theorem dX3_takeSign_13 : decode cX3_takeSign 13 = .ok (.invokevirtual 79, 3) := by decide +kernel
theorem dX3_takeSign_16 : decode cX3_takeSign 16 = .ok (.ireturn, 1) := by decide +kernel
theorem dX3_takeSign_17 : decode cX3_takeSign 17 = .ok (.aload_n 0, 1) := by decide +kernel
theorem dX3_takeSign_18 : decode cX3_takeSign 18 = .ok (.getfield 12, 3) := by decide +kernel
theorem dX3_takeSign_21 : decode cX3_takeSign 21 = .ok (.invokevirtual 83, 3) := by decide +kernel
theorem dX3_takeSign_24 : decode cX3_takeSign 24 = .ok (.iconst 1, 1) := by decide +kernel
theorem dX3_takeSign_25 : decode cX3_takeSign 25 = .ok (.ireturn, 1) := by decide +kernel
theorem dX3_numberWithin_0 : decode cX3_numberWithin 0 = .ok (.aload_n 0, 1) := by decide +kernel
theorem dX3_numberWithin_1 : decode cX3_numberWithin 1 = .ok (.getfield 12, 3) := by decide +kernel
theorem dX3_numberWithin_4 : decode cX3_numberWithin 4 = .ok (.getfield 39, 3) := by decide +kernel
theorem dX3_numberWithin_7 : decode cX3_numberWithin 7 = .ok (.iconst 2, 1) := by decide +kernel
theorem dX3_numberWithin_8 : decode cX3_numberWithin 8 = .ok (.if_icmp .eq 11, 3) := by decide +kernel
theorem dX3_numberWithin_11 : decode cX3_numberWithin 11 = .ok (.aload_n 0, 1) := by decide +kernel
theorem dX3_numberWithin_12 : decode cX3_numberWithin 12 = .ok (.iconst 1, 1) := by decide +kernel
theorem dX3_numberWithin_13 : decode cX3_numberWithin 13 = .ok (.invokevirtual 79, 3) := by decide +kernel
theorem dX3_numberWithin_16 : decode cX3_numberWithin 16 = .ok (.pop, 1) := by decide +kernel
theorem dX3_numberWithin_17 : decode cX3_numberWithin 17 = .ok (.iconst (-1), 1) := by decide +kernel
theorem dX3_numberWithin_18 : decode cX3_numberWithin 18 = .ok (.ireturn, 1) := by decide +kernel
theorem dX3_numberWithin_19 : decode cX3_numberWithin 19 = .ok (.aload_n 0, 1) := by decide +kernel
theorem dX3_numberWithin_20 : decode cX3_numberWithin 20 = .ok (.getfield 12, 3) := by decide +kernel
theorem dX3_numberWithin_23 : decode cX3_numberWithin 23 = .ok (.invokevirtual 150, 3) := by decide +kernel
theorem dX3_numberWithin_26 : decode cX3_numberWithin 26 = .ok (.istore_n 3, 1) := by decide +kernel
theorem dX3_numberWithin_27 : decode cX3_numberWithin 27 = .ok (.iload_n 3, 1) := by decide +kernel
theorem dX3_numberWithin_28 : decode cX3_numberWithin 28 = .ok (.iload_n 1, 1) := by decide +kernel
theorem dX3_numberWithin_29 : decode cX3_numberWithin 29 = .ok (.if_icmp .lt 8, 3) := by decide +kernel
theorem dX3_numberWithin_32 : decode cX3_numberWithin 32 = .ok (.iload_n 3, 1) := by decide +kernel
theorem dX3_numberWithin_33 : decode cX3_numberWithin 33 = .ok (.iload_n 2, 1) := by decide +kernel
theorem dX3_numberWithin_34 : decode cX3_numberWithin 34 = .ok (.if_icmp .le 11, 3) := by decide +kernel
theorem dX3_numberWithin_37 : decode cX3_numberWithin 37 = .ok (.aload_n 0, 1) := by decide +kernel
theorem dX3_numberWithin_38 : decode cX3_numberWithin 38 = .ok (.iconst 2, 1) := by decide +kernel
theorem dX3_numberWithin_39 : decode cX3_numberWithin 39 = .ok (.invokevirtual 79, 3) := by decide +kernel
theorem dX3_numberWithin_42 : decode cX3_numberWithin 42 = .ok (.pop, 1) := by decide +kernel
theorem dX3_numberWithin_43 : decode cX3_numberWithin 43 = .ok (.iconst (-1), 1) := by decide +kernel
theorem dX3_numberWithin_44 : decode cX3_numberWithin 44 = .ok (.ireturn, 1) := by decide +kernel
theorem dX3_numberWithin_45 : decode cX3_numberWithin 45 = .ok (.iload_n 3, 1) := by decide +kernel
theorem dX3_numberWithin_46 : decode cX3_numberWithin 46 = .ok (.ireturn, 1) := by decide +kernel
theorem dX3_takeWithin_0 : decode cX3_takeWithin 0 = .ok (.aload_n 0, 1) := by decide +kernel
theorem dX3_takeWithin_1 : decode cX3_takeWithin 1 = .ok (.iload_n 1, 1) := by decide +kernel
theorem dX3_takeWithin_2 : decode cX3_takeWithin 2 = .ok (.iload_n 2, 1) := by decide +kernel
theorem dX3_takeWithin_3 : decode cX3_takeWithin 3 = .ok (.invokevirtual 86, 3) := by decide +kernel
theorem dX3_takeWithin_6 : decode cX3_takeWithin 6 = .ok (.istore_n 3, 1) := by decide +kernel
theorem dX3_takeWithin_7 : decode cX3_takeWithin 7 = .ok (.iload_n 3, 1) := by decide +kernel
theorem dX3_takeWithin_8 : decode cX3_takeWithin 8 = .ok (.iconst (-1), 1) := by decide +kernel
theorem dX3_takeWithin_9 : decode cX3_takeWithin 9 = .ok (.if_icmp .eq 10, 3) := by decide +kernel
theorem dX3_takeWithin_12 : decode cX3_takeWithin 12 = .ok (.aload_n 0, 1) := by decide +kernel
theorem dX3_takeWithin_13 : decode cX3_takeWithin 13 = .ok (.getfield 12, 3) := by decide +kernel
theorem dX3_takeWithin_16 : decode cX3_takeWithin 16 = .ok (.invokevirtual 83, 3) := by decide +kernel
theorem dX3_takeWithin_19 : decode cX3_takeWithin 19 = .ok (.iload_n 3, 1) := by decide +kernel
theorem dX3_takeWithin_20 : decode cX3_takeWithin 20 = .ok (.ireturn, 1) := by decide +kernel
theorem dX3_readExpr_0 : decode cX3_readExpr 0 = .ok (.iload_n 1, 1) := by decide +kernel
theorem dX3_readExpr_1 : decode cX3_readExpr 1 = .ok (.bipush 6, 2) := by decide +kernel
theorem dX3_readExpr_3 : decode cX3_readExpr 3 = .ok (.if_icmp .lt 16, 3) := by decide +kernel
theorem dX3_readExpr_6 : decode cX3_readExpr 6 = .ok (.aload_n 0, 1) := by decide +kernel
theorem dX3_readExpr_7 : decode cX3_readExpr 7 = .ok (.invokevirtual 154, 3) := by decide +kernel
theorem dX3_readExpr_10 : decode cX3_readExpr 10 = .ok (.ifCond .eq 9, 3) := by decide +kernel
theorem dX3_readExpr_13 : decode cX3_readExpr 13 = .ok (.aload_n 0, 1) := by decide +kernel
theorem dX3_readExpr_14 : decode cX3_readExpr 14 = .ok (.iconst 2, 1) := by decide +kernel
theorem dX3_readExpr_15 : decode cX3_readExpr 15 = .ok (.invokevirtual 79, 3) := by decide +kernel
theorem dX3_readExpr_18 : decode cX3_readExpr 18 = .ok (.ireturn, 1) := by decide +kernel
theorem dX3_readExpr_19 : decode cX3_readExpr 19 = .ok (.aload_n 0, 1) := by decide +kernel
theorem dX3_readExpr_20 : decode cX3_readExpr 20 = .ok (.iconst 0, 1) := by decide +kernel
theorem dX3_readExpr_21 : decode cX3_readExpr 21 = .ok (.iload_n 1, 1) := by decide +kernel
theorem dX3_readExpr_22 : decode cX3_readExpr 22 = .ok (.invokevirtual 157, 3) := by decide +kernel
theorem dX3_readExpr_25 : decode cX3_readExpr 25 = .ok (.ireturn, 1) := by decide +kernel
theorem dX3_startsSomething_0 : decode cX3_startsSomething 0 = .ok (.aload_n 0, 1) := by decide +kernel
theorem dX3_startsSomething_1 : decode cX3_startsSomething 1 = .ok (.getfield 12, 3) := by decide +kernel
theorem dX3_startsSomething_4 : decode cX3_startsSomething 4 = .ok (.getfield 39, 3) := by decide +kernel
theorem dX3_startsSomething_7 : decode cX3_startsSomething 7 = .ok (.iconst 2, 1) := by decide +kernel
theorem dX3_startsSomething_8 : decode cX3_startsSomething 8 = .ok (.if_icmp .eq 26, 3) := by decide +kernel
theorem dX3_startsSomething_11 : decode cX3_startsSomething 11 = .ok (.aload_n 0, 1) := by decide +kernel
theorem dX3_startsSomething_12 : decode cX3_startsSomething 12 = .ok (.getfield 12, 3) := by decide +kernel
theorem dX3_startsSomething_15 : decode cX3_startsSomething 15 = .ok (.getfield 39, 3) := by decide +kernel
theorem dX3_startsSomething_18 : decode cX3_startsSomething 18 = .ok (.iconst 1, 1) := by decide +kernel
theorem dX3_startsSomething_19 : decode cX3_startsSomething 19 = .ok (.if_icmp .eq 15, 3) := by decide +kernel
theorem dX3_startsSomething_22 : decode cX3_startsSomething 22 = .ok (.aload_n 0, 1) := by decide +kernel
theorem dX3_startsSomething_23 : decode cX3_startsSomething 23 = .ok (.getfield 12, 3) := by decide +kernel
theorem dX3_startsSomething_26 : decode cX3_startsSomething 26 = .ok (.bipush 40, 2) := by decide +kernel
theorem dX3_startsSomething_28 : decode cX3_startsSomething 28 = .ok (.invokevirtual 97, 3) := by decide +kernel
theorem dX3_startsSomething_31 : decode cX3_startsSomething 31 = .ok (.ifCond .eq 7, 3) := by decide +kernel
theorem dX3_startsSomething_34 : decode cX3_startsSomething 34 = .ok (.iconst 1, 1) := by decide +kernel
theorem dX3_startsSomething_35 : decode cX3_startsSomething 35 = .ok (.goto 4, 3) := by decide +kernel
theorem dX3_startsSomething_38 : decode cX3_startsSomething 38 = .ok (.iconst 0, 1) := by decide +kernel
theorem dX3_startsSomething_39 : decode cX3_startsSomething 39 = .ok (.ireturn, 1) := by decide +kernel
theorem dX3_readRow_0 : decode cX3_readRow 0 = .ok (.iload_n 1, 1) := by decide +kernel
theorem dX3_readRow_1 : decode cX3_readRow 1 = .ok (.iconst 4, 1) := by decide +kernel
theorem dX3_readRow_2 : decode cX3_readRow 2 = .ok (.if_icmp .le 9, 3) := by decide +kernel
theorem dX3_readRow_5 : decode cX3_readRow 5 = .ok (.aload_n 0, 1) := by decide +kernel
theorem dX3_readRow_6 : decode cX3_readRow 6 = .ok (.iload_n 2, 1) := by decide +kernel
theorem dX3_readRow_7 : decode cX3_readRow 7 = .ok (.invokevirtual 160, 3) := by decide +kernel
theorem dX3_readRow_10 : decode cX3_readRow 10 = .ok (.ireturn, 1) := by decide +kernel
theorem dX3_readRow_11 : decode cX3_readRow 11 = .ok (.iload_n 1, 1) := by decide +kernel
theorem dX3_readRow_12 : decode cX3_readRow 12 = .ok (.iconst 2, 1) := by decide +kernel
theorem dX3_readRow_13 : decode cX3_readRow 13 = .ok (.if_icmp .ne 10, 3) := by decide +kernel
theorem dX3_readRow_16 : decode cX3_readRow 16 = .ok (.aload_n 0, 1) := by decide +kernel
theorem dX3_readRow_17 : decode cX3_readRow 17 = .ok (.invokevirtual 163, 3) := by decide +kernel
theorem dX3_readRow_20 : decode cX3_readRow 20 = .ok (.goto 4, 3) := by decide +kernel
theorem dX3_readRow_23 : decode cX3_readRow 23 = .ok (.iconst 0, 1) := by decide +kernel
theorem dX3_readRow_24 : decode cX3_readRow 24 = .ok (.istore_n 3, 1) := by decide +kernel
theorem dX3_readRow_25 : decode cX3_readRow 25 = .ok (.iload_n 3, 1) := by decide +kernel
theorem dX3_readRow_26 : decode cX3_readRow 26 = .ok (.iconst (-1), 1) := by decide +kernel
theorem dX3_readRow_27 : decode cX3_readRow 27 = .ok (.if_icmp .eq 14, 3) := by decide +kernel
theorem dX3_readRow_30 : decode cX3_readRow 30 = .ok (.aload_n 0, 1) := by decide +kernel
theorem dX3_readRow_31 : decode cX3_readRow 31 = .ok (.iload_n 1, 1) := by decide +kernel
theorem dX3_readRow_32 : decode cX3_readRow 32 = .ok (.iconst 1, 1) := by decide +kernel
theorem dX3_readRow_33 : decode cX3_readRow 33 = .ok (.iadd, 1) := by decide +kernel
theorem dX3_readRow_34 : decode cX3_readRow 34 = .ok (.iload_n 2, 1) := by decide +kernel
theorem dX3_readRow_35 : decode cX3_readRow 35 = .ok (.invokevirtual 157, 3) := by decide +kernel
theorem dX3_readRow_38 : decode cX3_readRow 38 = .ok (.ifCond .ne 5, 3) := by decide +kernel
theorem dX3_readRow_41 : decode cX3_readRow 41 = .ok (.iconst 0, 1) := by decide +kernel
theorem dX3_readRow_42 : decode cX3_readRow 42 = .ok (.ireturn, 1) := by decide +kernel
theorem dX3_readRow_43 : decode cX3_readRow 43 = .ok (.iload_n 1, 1) := by decide +kernel
theorem dX3_readRow_44 : decode cX3_readRow 44 = .ok (.iconst 2, 1) := by decide +kernel
theorem dX3_readRow_45 : decode cX3_readRow 45 = .ok (.if_icmp .ne 7, 3) := by decide +kernel
theorem dX3_readRow_48 : decode cX3_readRow 48 = .ok (.iconst 1, 1) := by decide +kernel
theorem dX3_readRow_49 : decode cX3_readRow 49 = .ok (.goto 6, 3) := by decide +kernel
theorem dX3_readRow_52 : decode cX3_readRow 52 = .ok (.sipush 700, 3) := by decide +kernel
theorem dX3_readRow_55 : decode cX3_readRow 55 = .ok (.istore 4, 2) := by decide +kernel
theorem dX3_readRow_57 : decode cX3_readRow 57 = .ok (.iconst 0, 1) := by decide +kernel
theorem dX3_readRow_58 : decode cX3_readRow 58 = .ok (.istore 5, 2) := by decide +kernel
theorem dX3_readRow_60 : decode cX3_readRow 60 = .ok (.iload 5, 2) := by decide +kernel
theorem dX3_readRow_62 : decode cX3_readRow 62 = .ok (.iload 4, 2) := by decide +kernel
theorem dX3_readRow_64 : decode cX3_readRow 64 = .ok (.if_icmp .ge 57, 3) := by decide +kernel
theorem dX3_readRow_67 : decode cX3_readRow 67 = .ok (.aload_n 0, 1) := by decide +kernel
theorem dX3_readRow_68 : decode cX3_readRow 68 = .ok (.iload_n 1, 1) := by decide +kernel
theorem dX3_readRow_69 : decode cX3_readRow 69 = .ok (.invokevirtual 166, 3) := by decide +kernel
theorem dX3_readRow_72 : decode cX3_readRow 72 = .ok (.istore 6, 2) := by decide +kernel
theorem dX3_readRow_74 : decode cX3_readRow 74 = .ok (.iload 6, 2) := by decide +kernel
theorem dX3_readRow_76 : decode cX3_readRow 76 = .ok (.iconst (-1), 1) := by decide +kernel
theorem dX3_readRow_77 : decode cX3_readRow 77 = .ok (.if_icmp .ne 6, 3) := by decide +kernel
theorem dX3_readRow_80 : decode cX3_readRow 80 = .ok (.goto 41, 3) := by decide +kernel
theorem dX3_readRow_83 : decode cX3_readRow 83 = .ok (.aload_n 0, 1) := by decide +kernel
theorem dX3_readRow_84 : decode cX3_readRow 84 = .ok (.getfield 12, 3) := by decide +kernel
theorem dX3_readRow_87 : decode cX3_readRow 87 = .ok (.invokevirtual 83, 3) := by decide +kernel
theorem dX3_readRow_90 : decode cX3_readRow 90 = .ok (.aload_n 0, 1) := by decide +kernel
theorem dX3_readRow_91 : decode cX3_readRow 91 = .ok (.iload_n 1, 1) := by decide +kernel
theorem dX3_readRow_92 : decode cX3_readRow 92 = .ok (.iconst 1, 1) := by decide +kernel
theorem dX3_readRow_93 : decode cX3_readRow 93 = .ok (.iadd, 1) := by decide +kernel
theorem dX3_readRow_94 : decode cX3_readRow 94 = .ok (.iload_n 2, 1) := by decide +kernel
theorem dX3_readRow_95 : decode cX3_readRow 95 = .ok (.invokevirtual 157, 3) := by decide +kernel
theorem dX3_readRow_98 : decode cX3_readRow 98 = .ok (.ifCond .ne 5, 3) := by decide +kernel
theorem dX3_readRow_101 : decode cX3_readRow 101 = .ok (.iconst 0, 1) := by decide +kernel
theorem dX3_readRow_102 : decode cX3_readRow 102 = .ok (.ireturn, 1) := by decide +kernel
theorem dX3_readRow_103 : decode cX3_readRow 103 = .ok (.aload_n 0, 1) := by decide +kernel
theorem dX3_readRow_104 : decode cX3_readRow 104 = .ok (.getfield 21, 3) := by decide +kernel
theorem dX3_readRow_107 : decode cX3_readRow 107 = .ok (.getfield 138, 3) := by decide +kernel
theorem dX3_readRow_110 : decode cX3_readRow 110 = .ok (.iload 6, 2) := by decide +kernel
theorem dX3_readRow_112 : decode cX3_readRow 112 = .ok (.invokevirtual 170, 3) := by decide +kernel
theorem dX3_readRow_115 : decode cX3_readRow 115 = .ok (.iinc 5 1, 3) := by decide +kernel
theorem dX3_readRow_118 : decode cX3_readRow 118 = .ok (.goto (-58), 3) := by decide +kernel
theorem dX3_readRow_121 : decode cX3_readRow 121 = .ok (.iconst 0, 1) := by decide +kernel
theorem dX3_readRow_122 : decode cX3_readRow 122 = .ok (.istore 5, 2) := by decide +kernel
theorem dX3_readRow_124 : decode cX3_readRow 124 = .ok (.iload 5, 2) := by decide +kernel
theorem dX3_readRow_126 : decode cX3_readRow 126 = .ok (.iload_n 3, 1) := by decide +kernel
theorem dX3_readRow_127 : decode cX3_readRow 127 = .ok (.if_icmp .ge 22, 3) := by decide +kernel
theorem dX3_readRow_130 : decode cX3_readRow 130 = .ok (.aload_n 0, 1) := by decide +kernel
theorem dX3_readRow_131 : decode cX3_readRow 131 = .ok (.getfield 21, 3) := by decide +kernel
theorem dX3_readRow_134 : decode cX3_readRow 134 = .ok (.getfield 138, 3) := by decide +kernel
theorem dX3_readRow_137 : decode cX3_readRow 137 = .ok (.sipush 10007, 3) := by decide +kernel
theorem dX3_readRow_140 : decode cX3_readRow 140 = .ok (.invokevirtual 170, 3) := by decide +kernel
theorem dX3_readRow_143 : decode cX3_readRow 143 = .ok (.iinc 5 1, 3) := by decide +kernel
theorem dX3_readRow_146 : decode cX3_readRow 146 = .ok (.goto (-22), 3) := by decide +kernel
theorem dX3_readRow_149 : decode cX3_readRow 149 = .ok (.iconst 1, 1) := by decide +kernel
theorem dX3_readRow_150 : decode cX3_readRow 150 = .ok (.ireturn, 1) := by decide +kernel
theorem dX3_takeNots_0 : decode cX3_takeNots 0 = .ok (.iconst 0, 1) := by decide +kernel
theorem dX3_takeNots_1 : decode cX3_takeNots 1 = .ok (.istore_n 1, 1) := by decide +kernel
theorem dX3_takeNots_2 : decode cX3_takeNots 2 = .ok (.iload_n 1, 1) := by decide +kernel
theorem dX3_takeNots_3 : decode cX3_takeNots 3 = .ok (.bipush 6, 2) := by decide +kernel
theorem dX3_takeNots_5 : decode cX3_takeNots 5 = .ok (.if_icmp .ge 28, 3) := by decide +kernel
theorem dX3_takeNots_8 : decode cX3_takeNots 8 = .ok (.aload_n 0, 1) := by decide +kernel
theorem dX3_takeNots_9 : decode cX3_takeNots 9 = .ok (.getfield 12, 3) := by decide +kernel
theorem dX3_takeNots_12 : decode cX3_takeNots 12 = .ok (.ldc 172, 2) := by decide +kernel
theorem dX3_takeNots_14 : decode cX3_takeNots 14 = .ok (.invokevirtual 49, 3) := by decide +kernel
theorem dX3_takeNots_17 : decode cX3_takeNots 17 = .ok (.ifCond .eq 16, 3) := by decide +kernel
theorem dX3_takeNots_20 : decode cX3_takeNots 20 = .ok (.iinc 1 1, 3) := by decide +kernel
theorem dX3_takeNots_23 : decode cX3_takeNots 23 = .ok (.aload_n 0, 1) := by decide +kernel
theorem dX3_takeNots_24 : decode cX3_takeNots 24 = .ok (.getfield 12, 3) := by decide +kernel
theorem dX3_takeNots_27 : decode cX3_takeNots 27 = .ok (.invokevirtual 83, 3) := by decide +kernel
theorem dX3_takeNots_30 : decode cX3_takeNots 30 = .ok (.goto (-28), 3) := by decide +kernel
theorem dX3_takeNots_33 : decode cX3_takeNots 33 = .ok (.aload_n 0, 1) := by decide +kernel
theorem dX3_takeNots_34 : decode cX3_takeNots 34 = .ok (.getfield 12, 3) := by decide +kernel
theorem dX3_takeNots_37 : decode cX3_takeNots 37 = .ok (.ldc 172, 2) := by decide +kernel
theorem dX3_takeNots_39 : decode cX3_takeNots 39 = .ok (.invokevirtual 49, 3) := by decide +kernel
theorem dX3_takeNots_42 : decode cX3_takeNots 42 = .ok (.ifCond .eq 11, 3) := by decide +kernel
theorem dX3_takeNots_45 : decode cX3_takeNots 45 = .ok (.aload_n 0, 1) := by decide +kernel
theorem dX3_takeNots_46 : decode cX3_takeNots 46 = .ok (.iconst 2, 1) := by decide +kernel
theorem dX3_takeNots_47 : decode cX3_takeNots 47 = .ok (.invokevirtual 79, 3) := by decide +kernel
theorem dX3_takeNots_50 : decode cX3_takeNots 50 = .ok (.pop, 1) := by decide +kernel
theorem dX3_takeNots_51 : decode cX3_takeNots 51 = .ok (.iconst (-1), 1) := by decide +kernel
theorem dX3_takeNots_52 : decode cX3_takeNots 52 = .ok (.ireturn, 1) := by decide +kernel
theorem dX3_takeNots_53 : decode cX3_takeNots 53 = .ok (.iload_n 1, 1) := by decide +kernel
theorem dX3_takeNots_54 : decode cX3_takeNots 54 = .ok (.ireturn, 1) := by decide +kernel
theorem dX3_operatorHere_0 : decode cX3_operatorHere 0 = .ok (.iload_n 1, 1) := by decide +kernel
theorem dX3_operatorHere_1 : decode cX3_operatorHere 1 = .ok (.tableswitch 101 0 3 #[31, 51, 71, 86], 31) := by decide +kernel
theorem dX3_operatorHere_32 : decode cX3_operatorHere 32 = .ok (.aload_n 0, 1) := by decide +kernel
theorem dX3_operatorHere_33 : decode cX3_operatorHere 33 = .ok (.getfield 12, 3) := by decide +kernel
theorem dX3_operatorHere_36 : decode cX3_operatorHere 36 = .ok (.ldc 174, 2) := by decide +kernel
theorem dX3_operatorHere_38 : decode cX3_operatorHere 38 = .ok (.invokevirtual 49, 3) := by decide +kernel
theorem dX3_operatorHere_41 : decode cX3_operatorHere 41 = .ok (.ifCond .eq 9, 3) := by decide +kernel
theorem dX3_operatorHere_44 : decode cX3_operatorHere 44 = .ok (.sipush 10008, 3) := by decide +kernel
theorem dX3_operatorHere_47 : decode cX3_operatorHere 47 = .ok (.goto 4, 3) := by decide +kernel
theorem dX3_operatorHere_50 : decode cX3_operatorHere 50 = .ok (.iconst (-1), 1) := by decide +kernel
theorem dX3_operatorHere_51 : decode cX3_operatorHere 51 = .ok (.ireturn, 1) := by decide +kernel
theorem dX3_operatorHere_52 : decode cX3_operatorHere 52 = .ok (.aload_n 0, 1) := by decide +kernel
theorem dX3_operatorHere_53 : decode cX3_operatorHere 53 = .ok (.getfield 12, 3) := by decide +kernel
theorem dX3_operatorHere_56 : decode cX3_operatorHere 56 = .ok (.ldc 176, 2) := by decide +kernel
theorem dX3_operatorHere_58 : decode cX3_operatorHere 58 = .ok (.invokevirtual 49, 3) := by decide +kernel
theorem dX3_operatorHere_61 : decode cX3_operatorHere 61 = .ok (.ifCond .eq 9, 3) := by decide +kernel
theorem dX3_operatorHere_64 : decode cX3_operatorHere 64 = .ok (.sipush 10009, 3) := by decide +kernel
theorem dX3_operatorHere_67 : decode cX3_operatorHere 67 = .ok (.goto 4, 3) := by decide +kernel
theorem dX3_operatorHere_70 : decode cX3_operatorHere 70 = .ok (.iconst (-1), 1) := by decide +kernel
theorem dX3_operatorHere_71 : decode cX3_operatorHere 71 = .ok (.ireturn, 1) := by decide +kernel
theorem dX3_operatorHere_72 : decode cX3_operatorHere 72 = .ok (.aload_n 0, 1) := by decide +kernel
theorem dX3_operatorHere_73 : decode cX3_operatorHere 73 = .ok (.bipush 60, 2) := by decide +kernel
theorem dX3_operatorHere_75 : decode cX3_operatorHere 75 = .ok (.sipush 10010, 3) := by decide +kernel
theorem dX3_operatorHere_78 : decode cX3_operatorHere 78 = .ok (.bipush 61, 2) := by decide +kernel
theorem dX3_operatorHere_80 : decode cX3_operatorHere 80 = .ok (.sipush 10011, 3) := by decide +kernel
theorem dX3_operatorHere_83 : decode cX3_operatorHere 83 = .ok (.invokevirtual 178, 3) := by decide +kernel
theorem dX3_operatorHere_86 : decode cX3_operatorHere 86 = .ok (.ireturn, 1) := by decide +kernel
theorem dX3_operatorHere_87 : decode cX3_operatorHere 87 = .ok (.aload_n 0, 1) := by decide +kernel
theorem dX3_operatorHere_88 : decode cX3_operatorHere 88 = .ok (.bipush 43, 2) := by decide +kernel
theorem dX3_operatorHere_90 : decode cX3_operatorHere 90 = .ok (.sipush 10012, 3) := by decide +kernel
theorem dX3_operatorHere_93 : decode cX3_operatorHere 93 = .ok (.bipush 45, 2) := by decide +kernel
theorem dX3_operatorHere_95 : decode cX3_operatorHere 95 = .ok (.sipush 10013, 3) := by decide +kernel
theorem dX3_operatorHere_98 : decode cX3_operatorHere 98 = .ok (.invokevirtual 178, 3) := by decide +kernel
theorem dX3_operatorHere_101 : decode cX3_operatorHere 101 = .ok (.ireturn, 1) := by decide +kernel
theorem dX3_operatorHere_102 : decode cX3_operatorHere 102 = .ok (.aload_n 0, 1) := by decide +kernel
theorem dX3_operatorHere_103 : decode cX3_operatorHere 103 = .ok (.bipush 42, 2) := by decide +kernel
theorem dX3_operatorHere_105 : decode cX3_operatorHere 105 = .ok (.sipush 10014, 3) := by decide +kernel
theorem dX3_operatorHere_108 : decode cX3_operatorHere 108 = .ok (.bipush 47, 2) := by decide +kernel
theorem dX3_operatorHere_110 : decode cX3_operatorHere 110 = .ok (.sipush 10015, 3) := by decide +kernel
theorem dX3_operatorHere_113 : decode cX3_operatorHere 113 = .ok (.invokevirtual 178, 3) := by decide +kernel
theorem dX3_operatorHere_116 : decode cX3_operatorHere 116 = .ok (.ireturn, 1) := by decide +kernel
theorem dX3_signHere_0 : decode cX3_signHere 0 = .ok (.aload_n 0, 1) := by decide +kernel
theorem dX3_signHere_1 : decode cX3_signHere 1 = .ok (.getfield 12, 3) := by decide +kernel
theorem dX3_signHere_4 : decode cX3_signHere 4 = .ok (.iload_n 1, 1) := by decide +kernel
theorem dX3_signHere_5 : decode cX3_signHere 5 = .ok (.invokevirtual 97, 3) := by decide +kernel
theorem dX3_signHere_8 : decode cX3_signHere 8 = .ok (.ifCond .eq 5, 3) := by decide +kernel
theorem dX3_signHere_11 : decode cX3_signHere 11 = .ok (.iload_n 2, 1) := by decide +kernel
theorem dX3_signHere_12 : decode cX3_signHere 12 = .ok (.ireturn, 1) := by decide +kernel
theorem dX3_signHere_13 : decode cX3_signHere 13 = .ok (.aload_n 0, 1) := by decide +kernel
theorem dX3_signHere_14 : decode cX3_signHere 14 = .ok (.getfield 12, 3) := by decide +kernel
theorem dX3_signHere_17 : decode cX3_signHere 17 = .ok (.iload_n 3, 1) := by decide +kernel
theorem dX3_signHere_18 : decode cX3_signHere 18 = .ok (.invokevirtual 97, 3) := by decide +kernel
theorem dX3_signHere_21 : decode cX3_signHere 21 = .ok (.ifCond .eq 8, 3) := by decide +kernel
theorem dX3_signHere_24 : decode cX3_signHere 24 = .ok (.iload 4, 2) := by decide +kernel
theorem dX3_signHere_26 : decode cX3_signHere 26 = .ok (.goto 4, 3) := by decide +kernel
theorem dX3_signHere_29 : decode cX3_signHere 29 = .ok (.iconst (-1), 1) := by decide +kernel
theorem dX3_signHere_30 : decode cX3_signHere 30 = .ok (.ireturn, 1) := by decide +kernel
theorem dX3_readPart_0 : decode cX3_readPart 0 = .ok (.aload_n 0, 1) := by decide +kernel
theorem dX3_readPart_1 : decode cX3_readPart 1 = .ok (.getfield 12, 3) := by decide +kernel
theorem dX3_readPart_4 : decode cX3_readPart 4 = .ok (.getfield 39, 3) := by decide +kernel
theorem dX3_readPart_7 : decode cX3_readPart 7 = .ok (.iconst 2, 1) := by decide +kernel
theorem dX3_readPart_8 : decode cX3_readPart 8 = .ok (.if_icmp .ne 16, 3) := by decide +kernel
theorem dX3_readPart_11 : decode cX3_readPart 11 = .ok (.aload_n 0, 1) := by decide +kernel
theorem dX3_readPart_12 : decode cX3_readPart 12 = .ok (.aload_n 0, 1) := by decide +kernel
theorem dX3_readPart_13 : decode cX3_readPart 13 = .ok (.iconst 0, 1) := by decide +kernel
theorem dX3_readPart_14 : decode cX3_readPart 14 = .ok (.sipush 9999, 3) := by decide +kernel
theorem dX3_readPart_17 : decode cX3_readPart 17 = .ok (.invokevirtual 86, 3) := by decide +kernel
theorem dX3_readPart_20 : decode cX3_readPart 20 = .ok (.invokevirtual 182, 3) := by decide +kernel
theorem dX3_readPart_23 : decode cX3_readPart 23 = .ok (.ireturn, 1) := by decide +kernel
theorem dX3_readPart_24 : decode cX3_readPart 24 = .ok (.aload_n 0, 1) := by decide +kernel
theorem dX3_readPart_25 : decode cX3_readPart 25 = .ok (.getfield 12, 3) := by decide +kernel
theorem dX3_readPart_28 : decode cX3_readPart 28 = .ok (.getfield 39, 3) := by decide +kernel
theorem dX3_readPart_31 : decode cX3_readPart 31 = .ok (.iconst 1, 1) := by decide +kernel
theorem dX3_readPart_32 : decode cX3_readPart 32 = .ok (.if_icmp .ne 27, 3) := by decide +kernel
theorem dX3_readPart_35 : decode cX3_readPart 35 = .ok (.aload_n 0, 1) := by decide +kernel
theorem dX3_readPart_36 : decode cX3_readPart 36 = .ok (.invokevirtual 185, 3) := by decide +kernel
theorem dX3_readPart_39 : decode cX3_readPart 39 = .ok (.istore_n 2, 1) := by decide +kernel
theorem dX3_readPart_40 : decode cX3_readPart 40 = .ok (.iload_n 2, 1) := by decide +kernel
theorem dX3_readPart_41 : decode cX3_readPart 41 = .ok (.iconst (-1), 1) := by decide +kernel
theorem dX3_readPart_42 : decode cX3_readPart 42 = .ok (.if_icmp .ne 11, 3) := by decide +kernel
theorem dX3_readPart_45 : decode cX3_readPart 45 = .ok (.aload_n 0, 1) := by decide +kernel
theorem dX3_readPart_46 : decode cX3_readPart 46 = .ok (.iconst 3, 1) := by decide +kernel
theorem dX3_readPart_47 : decode cX3_readPart 47 = .ok (.invokevirtual 79, 3) := by decide +kernel
theorem dX3_readPart_50 : decode cX3_readPart 50 = .ok (.goto 8, 3) := by decide +kernel
theorem dX3_readPart_53 : decode cX3_readPart 53 = .ok (.aload_n 0, 1) := by decide +kernel
theorem dX3_readPart_54 : decode cX3_readPart 54 = .ok (.iload_n 2, 1) := by decide +kernel
theorem dX3_readPart_55 : decode cX3_readPart 55 = .ok (.invokevirtual 182, 3) := by decide +kernel
theorem dX3_readPart_58 : decode cX3_readPart 58 = .ok (.ireturn, 1) := by decide +kernel
theorem dX3_readPart_59 : decode cX3_readPart 59 = .ok (.aload_n 0, 1) := by decide +kernel
theorem dX3_readPart_60 : decode cX3_readPart 60 = .ok (.bipush 40, 2) := by decide +kernel
theorem dX3_readPart_62 : decode cX3_readPart 62 = .ok (.invokevirtual 108, 3) := by decide +kernel
theorem dX3_readPart_65 : decode cX3_readPart 65 = .ok (.ifCond .ne 5, 3) := by decide +kernel
theorem dX3_readPart_68 : decode cX3_readPart 68 = .ok (.iconst 0, 1) := by decide +kernel
theorem dX3_readPart_69 : decode cX3_readPart 69 = .ok (.ireturn, 1) := by decide +kernel
theorem dX3_readPart_70 : decode cX3_readPart 70 = .ok (.aload_n 0, 1) := by decide +kernel
theorem dX3_readPart_71 : decode cX3_readPart 71 = .ok (.iload_n 1, 1) := by decide +kernel
theorem dX3_readPart_72 : decode cX3_readPart 72 = .ok (.iconst 1, 1) := by decide +kernel
theorem dX3_readPart_73 : decode cX3_readPart 73 = .ok (.iadd, 1) := by decide +kernel
theorem dX3_readPart_74 : decode cX3_readPart 74 = .ok (.invokevirtual 147, 3) := by decide +kernel
theorem dX3_readPart_77 : decode cX3_readPart 77 = .ok (.ifCond .eq 16, 3) := by decide +kernel
theorem dX3_readPart_80 : decode cX3_readPart 80 = .ok (.aload_n 0, 1) := by decide +kernel
theorem dX3_readPart_81 : decode cX3_readPart 81 = .ok (.bipush 41, 2) := by decide +kernel
theorem dX3_readPart_83 : decode cX3_readPart 83 = .ok (.invokevirtual 108, 3) := by decide +kernel
theorem dX3_readPart_86 : decode cX3_readPart 86 = .ok (.ifCond .eq 7, 3) := by decide +kernel
theorem dX3_readPart_89 : decode cX3_readPart 89 = .ok (.iconst 1, 1) := by decide +kernel
theorem dX3_readPart_90 : decode cX3_readPart 90 = .ok (.goto 4, 3) := by decide +kernel
theorem dX3_readPart_93 : decode cX3_readPart 93 = .ok (.iconst 0, 1) := by decide +kernel
theorem dX3_readPart_94 : decode cX3_readPart 94 = .ok (.ireturn, 1) := by decide +kernel
theorem dX3_putPart_0 : decode cX3_putPart 0 = .ok (.iload_n 1, 1) := by decide +kernel
theorem dX3_putPart_1 : decode cX3_putPart 1 = .ok (.iconst (-1), 1) := by decide +kernel
theorem dX3_putPart_2 : decode cX3_putPart 2 = .ok (.if_icmp .ne 5, 3) := by decide +kernel
theorem dX3_putPart_5 : decode cX3_putPart 5 = .ok (.iconst 0, 1) := by decide +kernel
theorem dX3_putPart_6 : decode cX3_putPart 6 = .ok (.ireturn, 1) := by decide +kernel
theorem dX3_putPart_7 : decode cX3_putPart 7 = .ok (.aload_n 0, 1) := by decide +kernel
theorem dX3_putPart_8 : decode cX3_putPart 8 = .ok (.getfield 21, 3) := by decide +kernel
theorem dX3_putPart_11 : decode cX3_putPart 11 = .ok (.getfield 138, 3) := by decide +kernel
theorem dX3_putPart_14 : decode cX3_putPart 14 = .ok (.iload_n 1, 1) := by decide +kernel
theorem dX3_putPart_15 : decode cX3_putPart 15 = .ok (.invokevirtual 170, 3) := by decide +kernel
theorem dX3_putPart_18 : decode cX3_putPart 18 = .ok (.aload_n 0, 1) := by decide +kernel
theorem dX3_putPart_19 : decode cX3_putPart 19 = .ok (.getfield 12, 3) := by decide +kernel
theorem dX3_putPart_22 : decode cX3_putPart 22 = .ok (.invokevirtual 83, 3) := by decide +kernel
theorem dX3_putPart_25 : decode cX3_putPart 25 = .ok (.iconst 1, 1) := by decide +kernel
theorem dX3_putPart_26 : decode cX3_putPart 26 = .ok (.ireturn, 1) := by decide +kernel
theorem dX3_valueHere_0 : decode cX3_valueHere 0 = .ok (.aload_n 0, 1) := by decide +kernel
theorem dX3_valueHere_1 : decode cX3_valueHere 1 = .ok (.getfield 12, 3) := by decide +kernel
theorem dX3_valueHere_4 : decode cX3_valueHere 4 = .ok (.ldc 188, 2) := by decide +kernel
theorem dX3_valueHere_6 : decode cX3_valueHere 6 = .ok (.invokevirtual 49, 3) := by decide +kernel
theorem dX3_valueHere_9 : decode cX3_valueHere 9 = .ok (.ifCond .eq 7, 3) := by decide +kernel
theorem dX3_valueHere_12 : decode cX3_valueHere 12 = .ok (.sipush 10000, 3) := by decide +kernel
theorem dX3_valueHere_15 : decode cX3_valueHere 15 = .ok (.ireturn, 1) := by decide +kernel
theorem dX3_valueHere_16 : decode cX3_valueHere 16 = .ok (.aload_n 0, 1) := by decide +kernel
theorem dX3_valueHere_17 : decode cX3_valueHere 17 = .ok (.getfield 12, 3) := by decide +kernel
theorem dX3_valueHere_20 : decode cX3_valueHere 20 = .ok (.ldc 190, 2) := by decide +kernel
theorem dX3_valueHere_22 : decode cX3_valueHere 22 = .ok (.invokevirtual 49, 3) := by decide +kernel
theorem dX3_valueHere_25 : decode cX3_valueHere 25 = .ok (.ifCond .eq 7, 3) := by decide +kernel
theorem dX3_valueHere_28 : decode cX3_valueHere 28 = .ok (.sipush 10001, 3) := by decide +kernel
theorem dX3_valueHere_31 : decode cX3_valueHere 31 = .ok (.ireturn, 1) := by decide +kernel
theorem dX3_valueHere_32 : decode cX3_valueHere 32 = .ok (.aload_n 0, 1) := by decide +kernel
theorem dX3_valueHere_33 : decode cX3_valueHere 33 = .ok (.getfield 12, 3) := by decide +kernel
theorem dX3_valueHere_36 : decode cX3_valueHere 36 = .ok (.ldc 192, 2) := by decide +kernel
theorem dX3_valueHere_38 : decode cX3_valueHere 38 = .ok (.invokevirtual 49, 3) := by decide +kernel
theorem dX3_valueHere_41 : decode cX3_valueHere 41 = .ok (.ifCond .eq 7, 3) := by decide +kernel
theorem dX3_valueHere_44 : decode cX3_valueHere 44 = .ok (.sipush 10002, 3) := by decide +kernel
theorem dX3_valueHere_47 : decode cX3_valueHere 47 = .ok (.ireturn, 1) := by decide +kernel
theorem dX3_valueHere_48 : decode cX3_valueHere 48 = .ok (.aload_n 0, 1) := by decide +kernel
theorem dX3_valueHere_49 : decode cX3_valueHere 49 = .ok (.getfield 12, 3) := by decide +kernel
theorem dX3_valueHere_52 : decode cX3_valueHere 52 = .ok (.ldc 194, 2) := by decide +kernel
theorem dX3_valueHere_54 : decode cX3_valueHere 54 = .ok (.invokevirtual 49, 3) := by decide +kernel
theorem dX3_valueHere_57 : decode cX3_valueHere 57 = .ok (.ifCond .eq 7, 3) := by decide +kernel
theorem dX3_valueHere_60 : decode cX3_valueHere 60 = .ok (.sipush 10003, 3) := by decide +kernel
theorem dX3_valueHere_63 : decode cX3_valueHere 63 = .ok (.ireturn, 1) := by decide +kernel
theorem dX3_valueHere_64 : decode cX3_valueHere 64 = .ok (.aload_n 0, 1) := by decide +kernel
theorem dX3_valueHere_65 : decode cX3_valueHere 65 = .ok (.getfield 12, 3) := by decide +kernel
theorem dX3_valueHere_68 : decode cX3_valueHere 68 = .ok (.ldc 196, 2) := by decide +kernel
theorem dX3_valueHere_70 : decode cX3_valueHere 70 = .ok (.invokevirtual 49, 3) := by decide +kernel
theorem dX3_valueHere_73 : decode cX3_valueHere 73 = .ok (.ifCond .eq 7, 3) := by decide +kernel
theorem dX3_valueHere_76 : decode cX3_valueHere 76 = .ok (.sipush 10004, 3) := by decide +kernel
theorem dX3_valueHere_79 : decode cX3_valueHere 79 = .ok (.ireturn, 1) := by decide +kernel
theorem dX3_valueHere_80 : decode cX3_valueHere 80 = .ok (.aload_n 0, 1) := by decide +kernel
theorem dX3_valueHere_81 : decode cX3_valueHere 81 = .ok (.getfield 12, 3) := by decide +kernel
theorem dX3_valueHere_84 : decode cX3_valueHere 84 = .ok (.ldc 198, 2) := by decide +kernel
theorem dX3_valueHere_86 : decode cX3_valueHere 86 = .ok (.invokevirtual 49, 3) := by decide +kernel
theorem dX3_valueHere_89 : decode cX3_valueHere 89 = .ok (.ifCond .eq 7, 3) := by decide +kernel
theorem dX3_valueHere_92 : decode cX3_valueHere 92 = .ok (.sipush 10005, 3) := by decide +kernel
theorem dX3_valueHere_95 : decode cX3_valueHere 95 = .ok (.ireturn, 1) := by decide +kernel
theorem dX3_valueHere_96 : decode cX3_valueHere 96 = .ok (.aload_n 0, 1) := by decide +kernel
theorem dX3_valueHere_97 : decode cX3_valueHere 97 = .ok (.getfield 12, 3) := by decide +kernel
theorem dX3_valueHere_100 : decode cX3_valueHere 100 = .ok (.ldc 200, 2) := by decide +kernel
theorem dX3_valueHere_102 : decode cX3_valueHere 102 = .ok (.invokevirtual 49, 3) := by decide +kernel
theorem dX3_valueHere_105 : decode cX3_valueHere 105 = .ok (.ifCond .eq 9, 3) := by decide +kernel
theorem dX3_valueHere_108 : decode cX3_valueHere 108 = .ok (.sipush 10006, 3) := by decide +kernel
theorem dX3_valueHere_111 : decode cX3_valueHere 111 = .ok (.goto 4, 3) := by decide +kernel
theorem dX3_valueHere_114 : decode cX3_valueHere 114 = .ok (.iconst (-1), 1) := by decide +kernel
theorem dX3_valueHere_115 : decode cX3_valueHere 115 = .ok (.ireturn, 1) := by decide +kernel
theorem dX4_init_0 : decode cX4_init 0 = .ok (.aload_n 0, 1) := by decide +kernel
theorem dX4_init_1 : decode cX4_init 1 = .ok (.invokespecial 3, 3) := by decide +kernel
theorem dX4_init_4 : decode cX4_init 4 = .ok (.aload_n 0, 1) := by decide +kernel
theorem dX4_init_5 : decode cX4_init 5 = .ok (.sipush 700, 3) := by decide +kernel
theorem dX4_init_8 : decode cX4_init 8 = .ok (.newarray .int, 2) := by decide +kernel
theorem dX4_init_10 : decode cX4_init 10 = .ok (.putfield 9, 3) := by decide +kernel
theorem dX4_init_13 : decode cX4_init 13 = .ok (.aload_n 0, 1) := by decide +kernel
theorem dX4_init_14 : decode cX4_init 14 = .ok (.bipush 64, 2) := by decide +kernel
theorem dX4_init_16 : decode cX4_init 16 = .ok (.newarray .int, 2) := by decide +kernel
theorem dX4_init_18 : decode cX4_init 18 = .ok (.putfield 15, 3) := by decide +kernel
theorem dX4_init_21 : decode cX4_init 21 = .ok (.return_, 1) := by decide +kernel
theorem dX4_clear_0 : decode cX4_clear 0 = .ok (.aload_n 0, 1) := by decide +kernel
theorem dX4_clear_1 : decode cX4_clear 1 = .ok (.iconst 0, 1) := by decide +kernel
theorem dX4_clear_2 : decode cX4_clear 2 = .ok (.putfield 18, 3) := by decide +kernel
theorem dX4_clear_5 : decode cX4_clear 5 = .ok (.return_, 1) := by decide +kernel
theorem dX4_isTold_0 : decode cX4_isTold 0 = .ok (.aload_n 0, 1) := by decide +kernel
theorem dX4_isTold_1 : decode cX4_isTold 1 = .ok (.getfield 18, 3) := by decide +kernel
theorem dX4_isTold_4 : decode cX4_isTold 4 = .ok (.ifCond .le 7, 3) := by decide +kernel
theorem dX4_isTold_7 : decode cX4_isTold 7 = .ok (.iconst 1, 1) := by decide +kernel
theorem dX4_isTold_8 : decode cX4_isTold 8 = .ok (.goto 4, 3) := by decide +kernel
theorem dX4_isTold_11 : decode cX4_isTold 11 = .ok (.iconst 0, 1) := by decide +kernel
theorem dX4_isTold_12 : decode cX4_isTold 12 = .ok (.ireturn, 1) := by decide +kernel
theorem dX4_add_0 : decode cX4_add 0 = .ok (.aload_n 0, 1) := by decide +kernel
theorem dX4_add_1 : decode cX4_add 1 = .ok (.getfield 18, 3) := by decide +kernel
theorem dX4_add_4 : decode cX4_add 4 = .ok (.aload_n 0, 1) := by decide +kernel
theorem dX4_add_5 : decode cX4_add 5 = .ok (.getfield 9, 3) := by decide +kernel
theorem dX4_add_8 : decode cX4_add 8 = .ok (.arraylength, 1) := by decide +kernel
theorem dX4_add_9 : decode cX4_add 9 = .ok (.if_icmp .ge 23, 3) := by decide +kernel
theorem dX4_add_12 : decode cX4_add 12 = .ok (.aload_n 0, 1) := by decide +kernel
theorem dX4_add_13 : decode cX4_add 13 = .ok (.getfield 9, 3) := by decide +kernel
theorem dX4_add_16 : decode cX4_add 16 = .ok (.aload_n 0, 1) := by decide +kernel
theorem dX4_add_17 : decode cX4_add 17 = .ok (.getfield 18, 3) := by decide +kernel
theorem dX4_add_20 : decode cX4_add 20 = .ok (.iload_n 1, 1) := by decide +kernel
theorem dX4_add_21 : decode cX4_add 21 = .ok (.iastore, 1) := by decide +kernel
theorem dX4_add_22 : decode cX4_add 22 = .ok (.aload_n 0, 1) := by decide +kernel
theorem dX4_add_23 : decode cX4_add 23 = .ok (.dup, 1) := by decide +kernel
theorem dX4_add_24 : decode cX4_add 24 = .ok (.getfield 18, 3) := by decide +kernel
theorem dX4_add_27 : decode cX4_add 27 = .ok (.iconst 1, 1) := by decide +kernel
theorem dX4_add_28 : decode cX4_add 28 = .ok (.iadd, 1) := by decide +kernel
theorem dX4_add_29 : decode cX4_add 29 = .ok (.putfield 18, 3) := by decide +kernel
theorem dX4_add_32 : decode cX4_add 32 = .ok (.return_, 1) := by decide +kernel
theorem dX4_reckon_0 : decode cX4_reckon 0 = .ok (.iconst 0, 1) := by decide +kernel
theorem dX4_reckon_1 : decode cX4_reckon 1 = .ok (.istore_n 2, 1) := by decide +kernel
theorem dX4_reckon_2 : decode cX4_reckon 2 = .ok (.iconst 0, 1) := by decide +kernel
theorem dX4_reckon_3 : decode cX4_reckon 3 = .ok (.istore_n 3, 1) := by decide +kernel
theorem dX4_reckon_4 : decode cX4_reckon 4 = .ok (.iload_n 3, 1) := by decide +kernel
theorem dX4_reckon_5 : decode cX4_reckon 5 = .ok (.aload_n 0, 1) := by decide +kernel
theorem dX4_reckon_6 : decode cX4_reckon 6 = .ok (.getfield 18, 3) := by decide +kernel
theorem dX4_reckon_9 : decode cX4_reckon 9 = .ok (.if_icmp .ge 150, 3) := by decide +kernel
theorem dX4_reckon_12 : decode cX4_reckon 12 = .ok (.aload_n 0, 1) := by decide +kernel
theorem dX4_reckon_13 : decode cX4_reckon 13 = .ok (.getfield 9, 3) := by decide +kernel
theorem dX4_reckon_16 : decode cX4_reckon 16 = .ok (.iload_n 3, 1) := by decide +kernel
theorem dX4_reckon_17 : decode cX4_reckon 17 = .ok (.iaload, 1) := by decide +kernel
theorem dX4_reckon_18 : decode cX4_reckon 18 = .ok (.istore 4, 2) := by decide +kernel
theorem dX4_reckon_20 : decode cX4_reckon 20 = .ok (.iload 4, 2) := by decide +kernel
theorem dX4_reckon_22 : decode cX4_reckon 22 = .ok (.sipush 10006, 3) := by decide +kernel
theorem dX4_reckon_25 : decode cX4_reckon 25 = .ok (.if_icmp .gt 47, 3) := by decide +kernel
theorem dX4_reckon_28 : decode cX4_reckon 28 = .ok (.iload_n 2, 1) := by decide +kernel
theorem dX4_reckon_29 : decode cX4_reckon 29 = .ok (.aload_n 0, 1) := by decide +kernel
theorem dX4_reckon_30 : decode cX4_reckon 30 = .ok (.getfield 15, 3) := by decide +kernel
theorem dX4_reckon_33 : decode cX4_reckon 33 = .ok (.arraylength, 1) := by decide +kernel
theorem dX4_reckon_34 : decode cX4_reckon 34 = .ok (.if_icmp .lt 5, 3) := by decide +kernel
theorem dX4_reckon_37 : decode cX4_reckon 37 = .ok (.iconst 0, 1) := by decide +kernel
theorem dX4_reckon_38 : decode cX4_reckon 38 = .ok (.ireturn, 1) := by decide +kernel
theorem dX4_reckon_39 : decode cX4_reckon 39 = .ok (.aload_n 0, 1) := by decide +kernel
theorem dX4_reckon_40 : decode cX4_reckon 40 = .ok (.getfield 15, 3) := by decide +kernel
theorem dX4_reckon_43 : decode cX4_reckon 43 = .ok (.iload_n 2, 1) := by decide +kernel
theorem dX4_reckon_44 : decode cX4_reckon 44 = .ok (.iload 4, 2) := by decide +kernel
theorem dX4_reckon_46 : decode cX4_reckon 46 = .ok (.sipush 9999, 3) := by decide +kernel
theorem dX4_reckon_49 : decode cX4_reckon 49 = .ok (.if_icmp .gt 8, 3) := by decide +kernel
theorem dX4_reckon_52 : decode cX4_reckon 52 = .ok (.iload 4, 2) := by decide +kernel
theorem dX4_reckon_54 : decode cX4_reckon 54 = .ok (.goto 11, 3) := by decide +kernel
theorem dX4_reckon_57 : decode cX4_reckon 57 = .ok (.aload_n 1, 1) := by decide +kernel
theorem dX4_reckon_58 : decode cX4_reckon 58 = .ok (.iload 4, 2) := by decide +kernel
theorem dX4_reckon_60 : decode cX4_reckon 60 = .ok (.sipush 10000, 3) := by decide +kernel
theorem dX4_reckon_63 : decode cX4_reckon 63 = .ok (.isub, 1) := by decide +kernel
theorem dX4_reckon_64 : decode cX4_reckon 64 = .ok (.iaload, 1) := by decide +kernel
theorem dX4_reckon_65 : decode cX4_reckon 65 = .ok (.iastore, 1) := by decide +kernel
theorem dX4_reckon_66 : decode cX4_reckon 66 = .ok (.iinc 2 1, 3) := by decide +kernel
theorem dX4_reckon_69 : decode cX4_reckon 69 = .ok (.goto 84, 3) := by decide +kernel
theorem dX4_reckon_72 : decode cX4_reckon 72 = .ok (.iload 4, 2) := by decide +kernel
theorem dX4_reckon_74 : decode cX4_reckon 74 = .ok (.sipush 10007, 3) := by decide +kernel
theorem dX4_reckon_77 : decode cX4_reckon 77 = .ok (.if_icmp .ne 37, 3) := by decide +kernel
theorem dX4_reckon_80 : decode cX4_reckon 80 = .ok (.iload_n 2, 1) := by decide +kernel
theorem dX4_reckon_81 : decode cX4_reckon 81 = .ok (.iconst 1, 1) := by decide +kernel
theorem dX4_reckon_82 : decode cX4_reckon 82 = .ok (.if_icmp .ge 5, 3) := by decide +kernel
theorem dX4_reckon_85 : decode cX4_reckon 85 = .ok (.iconst 0, 1) := by decide +kernel
theorem dX4_reckon_86 : decode cX4_reckon 86 = .ok (.ireturn, 1) := by decide +kernel
theorem dX4_reckon_87 : decode cX4_reckon 87 = .ok (.aload_n 0, 1) := by decide +kernel
theorem dX4_reckon_88 : decode cX4_reckon 88 = .ok (.getfield 15, 3) := by decide +kernel
theorem dX4_reckon_91 : decode cX4_reckon 91 = .ok (.iload_n 2, 1) := by decide +kernel
theorem dX4_reckon_92 : decode cX4_reckon 92 = .ok (.iconst 1, 1) := by decide +kernel
theorem dX4_reckon_93 : decode cX4_reckon 93 = .ok (.isub, 1) := by decide +kernel
theorem dX4_reckon_94 : decode cX4_reckon 94 = .ok (.aload_n 0, 1) := by decide +kernel
theorem dX4_reckon_95 : decode cX4_reckon 95 = .ok (.getfield 15, 3) := by decide +kernel
theorem dX4_reckon_98 : decode cX4_reckon 98 = .ok (.iload_n 2, 1) := by decide +kernel
theorem dX4_reckon_99 : decode cX4_reckon 99 = .ok (.iconst 1, 1) := by decide +kernel
theorem dX4_reckon_100 : decode cX4_reckon 100 = .ok (.isub, 1) := by decide +kernel
theorem dX4_reckon_101 : decode cX4_reckon 101 = .ok (.iaload, 1) := by decide +kernel
theorem dX4_reckon_102 : decode cX4_reckon 102 = .ok (.ifCond .ne 7, 3) := by decide +kernel
theorem dX4_reckon_105 : decode cX4_reckon 105 = .ok (.iconst 1, 1) := by decide +kernel
theorem dX4_reckon_106 : decode cX4_reckon 106 = .ok (.goto 4, 3) := by decide +kernel
theorem dX4_reckon_109 : decode cX4_reckon 109 = .ok (.iconst 0, 1) := by decide +kernel
theorem dX4_reckon_110 : decode cX4_reckon 110 = .ok (.iastore, 1) := by decide +kernel
theorem dX4_reckon_111 : decode cX4_reckon 111 = .ok (.goto 42, 3) := by decide +kernel
theorem dX4_reckon_114 : decode cX4_reckon 114 = .ok (.iload_n 2, 1) := by decide +kernel
theorem dX4_reckon_115 : decode cX4_reckon 115 = .ok (.iconst 2, 1) := by decide +kernel
theorem dX4_reckon_116 : decode cX4_reckon 116 = .ok (.if_icmp .ge 5, 3) := by decide +kernel
theorem dX4_reckon_119 : decode cX4_reckon 119 = .ok (.iconst 0, 1) := by decide +kernel
theorem dX4_reckon_120 : decode cX4_reckon 120 = .ok (.ireturn, 1) := by decide +kernel
theorem dX4_reckon_121 : decode cX4_reckon 121 = .ok (.aload_n 0, 1) := by decide +kernel
theorem dX4_reckon_122 : decode cX4_reckon 122 = .ok (.getfield 15, 3) := by decide +kernel
theorem dX4_reckon_125 : decode cX4_reckon 125 = .ok (.iload_n 2, 1) := by decide +kernel
theorem dX4_reckon_126 : decode cX4_reckon 126 = .ok (.iconst 2, 1) := by decide +kernel
theorem dX4_reckon_127 : decode cX4_reckon 127 = .ok (.isub, 1) := by decide +kernel
theorem dX4_reckon_128 : decode cX4_reckon 128 = .ok (.iload 4, 2) := by decide +kernel
theorem dX4_reckon_130 : decode cX4_reckon 130 = .ok (.aload_n 0, 1) := by decide +kernel
theorem dX4_reckon_131 : decode cX4_reckon 131 = .ok (.getfield 15, 3) := by decide +kernel
theorem dX4_reckon_134 : decode cX4_reckon 134 = .ok (.iload_n 2, 1) := by decide +kernel
theorem dX4_reckon_135 : decode cX4_reckon 135 = .ok (.iconst 2, 1) := by decide +kernel
theorem dX4_reckon_136 : decode cX4_reckon 136 = .ok (.isub, 1) := by decide +kernel
theorem dX4_reckon_137 : decode cX4_reckon 137 = .ok (.iaload, 1) := by decide +kernel
theorem dX4_reckon_138 : decode cX4_reckon 138 = .ok (.aload_n 0, 1) := by decide +kernel
theorem dX4_reckon_139 : decode cX4_reckon 139 = .ok (.getfield 15, 3) := by decide +kernel
theorem dX4_reckon_142 : decode cX4_reckon 142 = .ok (.iload_n 2, 1) := by decide +kernel
theorem dX4_reckon_143 : decode cX4_reckon 143 = .ok (.iconst 1, 1) := by decide +kernel
theorem dX4_reckon_144 : decode cX4_reckon 144 = .ok (.isub, 1) := by decide +kernel
theorem dX4_reckon_145 : decode cX4_reckon 145 = .ok (.iaload, 1) := by decide +kernel
theorem dX4_reckon_146 : decode cX4_reckon 146 = .ok (.invokestatic 22, 3) := by decide +kernel
theorem dX4_reckon_149 : decode cX4_reckon 149 = .ok (.iastore, 1) := by decide +kernel
theorem dX4_reckon_150 : decode cX4_reckon 150 = .ok (.iinc 2 (-1), 3) := by decide +kernel
theorem dX4_reckon_153 : decode cX4_reckon 153 = .ok (.iinc 3 1, 3) := by decide +kernel
theorem dX4_reckon_156 : decode cX4_reckon 156 = .ok (.goto (-152), 3) := by decide +kernel
theorem dX4_reckon_159 : decode cX4_reckon 159 = .ok (.iload_n 2, 1) := by decide +kernel
theorem dX4_reckon_160 : decode cX4_reckon 160 = .ok (.iconst 1, 1) := by decide +kernel
theorem dX4_reckon_161 : decode cX4_reckon 161 = .ok (.if_icmp .ne 12, 3) := by decide +kernel
theorem dX4_reckon_164 : decode cX4_reckon 164 = .ok (.aload_n 0, 1) := by decide +kernel
theorem dX4_reckon_165 : decode cX4_reckon 165 = .ok (.getfield 15, 3) := by decide +kernel
theorem dX4_reckon_168 : decode cX4_reckon 168 = .ok (.iconst 0, 1) := by decide +kernel
theorem dX4_reckon_169 : decode cX4_reckon 169 = .ok (.iaload, 1) := by decide +kernel
theorem dX4_reckon_170 : decode cX4_reckon 170 = .ok (.goto 4, 3) := by decide +kernel
theorem dX4_reckon_173 : decode cX4_reckon 173 = .ok (.iconst 0, 1) := by decide +kernel
theorem dX4_reckon_174 : decode cX4_reckon 174 = .ok (.ireturn, 1) := by decide +kernel
theorem dX4_applied_0 : decode cX4_applied 0 = .ok (.iload_n 0, 1) := by decide +kernel
theorem dX4_applied_1 : decode cX4_applied 1 = .ok (.tableswitch 105 10008 10014 #[43, 57, 71, 82, 93, 97, 101], 43) := by decide +kernel
theorem dX4_applied_44 : decode cX4_applied 44 = .ok (.iload_n 1, 1) := by decide +kernel
theorem dX4_applied_45 : decode cX4_applied 45 = .ok (.ifCond .ne 7, 3) := by decide +kernel
theorem dX4_applied_48 : decode cX4_applied 48 = .ok (.iload_n 2, 1) := by decide +kernel
theorem dX4_applied_49 : decode cX4_applied 49 = .ok (.ifCond .eq 7, 3) := by decide +kernel
theorem dX4_applied_52 : decode cX4_applied 52 = .ok (.iconst 1, 1) := by decide +kernel
theorem dX4_applied_53 : decode cX4_applied 53 = .ok (.goto 4, 3) := by decide +kernel
theorem dX4_applied_56 : decode cX4_applied 56 = .ok (.iconst 0, 1) := by decide +kernel
theorem dX4_applied_57 : decode cX4_applied 57 = .ok (.ireturn, 1) := by decide +kernel
theorem dX4_applied_58 : decode cX4_applied 58 = .ok (.iload_n 1, 1) := by decide +kernel
theorem dX4_applied_59 : decode cX4_applied 59 = .ok (.ifCond .eq 11, 3) := by decide +kernel
theorem dX4_applied_62 : decode cX4_applied 62 = .ok (.iload_n 2, 1) := by decide +kernel
theorem dX4_applied_63 : decode cX4_applied 63 = .ok (.ifCond .eq 7, 3) := by decide +kernel
theorem dX4_applied_66 : decode cX4_applied 66 = .ok (.iconst 1, 1) := by decide +kernel
theorem dX4_applied_67 : decode cX4_applied 67 = .ok (.goto 4, 3) := by decide +kernel
theorem dX4_applied_70 : decode cX4_applied 70 = .ok (.iconst 0, 1) := by decide +kernel
theorem dX4_applied_71 : decode cX4_applied 71 = .ok (.ireturn, 1) := by decide +kernel
theorem dX4_applied_72 : decode cX4_applied 72 = .ok (.iload_n 1, 1) := by decide +kernel
theorem dX4_applied_73 : decode cX4_applied 73 = .ok (.iload_n 2, 1) := by decide +kernel
theorem dX4_applied_74 : decode cX4_applied 74 = .ok (.if_icmp .ge 7, 3) := by decide +kernel
theorem dX4_applied_77 : decode cX4_applied 77 = .ok (.iconst 1, 1) := by decide +kernel
theorem dX4_applied_78 : decode cX4_applied 78 = .ok (.goto 4, 3) := by decide +kernel
theorem dX4_applied_81 : decode cX4_applied 81 = .ok (.iconst 0, 1) := by decide +kernel
theorem dX4_applied_82 : decode cX4_applied 82 = .ok (.ireturn, 1) := by decide +kernel
theorem dX4_applied_83 : decode cX4_applied 83 = .ok (.iload_n 1, 1) := by decide +kernel
theorem dX4_applied_84 : decode cX4_applied 84 = .ok (.iload_n 2, 1) := by decide +kernel
theorem dX4_applied_85 : decode cX4_applied 85 = .ok (.if_icmp .ne 7, 3) := by decide +kernel
theorem dX4_applied_88 : decode cX4_applied 88 = .ok (.iconst 1, 1) := by decide +kernel
theorem dX4_applied_89 : decode cX4_applied 89 = .ok (.goto 4, 3) := by decide +kernel
theorem dX4_applied_92 : decode cX4_applied 92 = .ok (.iconst 0, 1) := by decide +kernel
theorem dX4_applied_93 : decode cX4_applied 93 = .ok (.ireturn, 1) := by decide +kernel
theorem dX4_applied_94 : decode cX4_applied 94 = .ok (.iload_n 1, 1) := by decide +kernel
theorem dX4_applied_95 : decode cX4_applied 95 = .ok (.iload_n 2, 1) := by decide +kernel
theorem dX4_applied_96 : decode cX4_applied 96 = .ok (.iadd, 1) := by decide +kernel
theorem dX4_applied_97 : decode cX4_applied 97 = .ok (.ireturn, 1) := by decide +kernel
theorem dX4_applied_98 : decode cX4_applied 98 = .ok (.iload_n 1, 1) := by decide +kernel
theorem dX4_applied_99 : decode cX4_applied 99 = .ok (.iload_n 2, 1) := by decide +kernel
theorem dX4_applied_100 : decode cX4_applied 100 = .ok (.isub, 1) := by decide +kernel
theorem dX4_applied_101 : decode cX4_applied 101 = .ok (.ireturn, 1) := by decide +kernel
theorem dX4_applied_102 : decode cX4_applied 102 = .ok (.iload_n 1, 1) := by decide +kernel
theorem dX4_applied_103 : decode cX4_applied 103 = .ok (.iload_n 2, 1) := by decide +kernel
theorem dX4_applied_104 : decode cX4_applied 104 = .ok (.imul, 1) := by decide +kernel
theorem dX4_applied_105 : decode cX4_applied 105 = .ok (.ireturn, 1) := by decide +kernel
theorem dX4_applied_106 : decode cX4_applied 106 = .ok (.iload_n 2, 1) := by decide +kernel
theorem dX4_applied_107 : decode cX4_applied 107 = .ok (.ifCond .ne 7, 3) := by decide +kernel
theorem dX4_applied_110 : decode cX4_applied 110 = .ok (.iconst 0, 1) := by decide +kernel
theorem dX4_applied_111 : decode cX4_applied 111 = .ok (.goto 6, 3) := by decide +kernel
theorem dX4_applied_114 : decode cX4_applied 114 = .ok (.iload_n 1, 1) := by decide +kernel
theorem dX4_applied_115 : decode cX4_applied 115 = .ok (.iload_n 2, 1) := by decide +kernel
theorem dX4_applied_116 : decode cX4_applied 116 = .ok (.idiv, 1) := by decide +kernel
theorem dX4_applied_117 : decode cX4_applied 117 = .ok (.ireturn, 1) := by decide +kernel
theorem dX5_init_0 : decode cX5_init 0 = .ok (.aload_n 0, 1) := by decide +kernel
theorem dX5_init_1 : decode cX5_init 1 = .ok (.invokespecial 3, 3) := by decide +kernel
theorem dX5_init_4 : decode cX5_init 4 = .ok (.aload_n 0, 1) := by decide +kernel
theorem dX5_init_5 : decode cX5_init 5 = .ok (.bipush 8, 2) := by decide +kernel
theorem dX5_init_7 : decode cX5_init 7 = .ok (.newarray .int, 2) := by decide +kernel
theorem dX5_init_9 : decode cX5_init 9 = .ok (.putfield 9, 3) := by decide +kernel
theorem dX5_init_12 : decode cX5_init 12 = .ok (.aload_n 0, 1) := by decide +kernel
theorem dX5_init_13 : decode cX5_init 13 = .ok (.bipush 8, 2) := by decide +kernel
theorem dX5_init_15 : decode cX5_init 15 = .ok (.newarray .int, 2) := by decide +kernel
theorem dX5_init_17 : decode cX5_init 17 = .ok (.putfield 15, 3) := by decide +kernel
theorem dX5_init_20 : decode cX5_init 20 = .ok (.aload_n 0, 1) := by decide +kernel
theorem dX5_init_21 : decode cX5_init 21 = .ok (.iconst 0, 1) := by decide +kernel
theorem dX5_init_22 : decode cX5_init 22 = .ok (.putfield 18, 3) := by decide +kernel
theorem dX5_init_25 : decode cX5_init 25 = .ok (.aload_n 0, 1) := by decide +kernel
theorem dX5_init_26 : decode cX5_init 26 = .ok (.iconst 0, 1) := by decide +kernel
theorem dX5_init_27 : decode cX5_init 27 = .ok (.putfield 22, 3) := by decide +kernel
theorem dX5_init_30 : decode cX5_init 30 = .ok (.return_, 1) := by decide +kernel
theorem dX5_clear_0 : decode cX5_clear 0 = .ok (.aload_n 0, 1) := by decide +kernel
theorem dX5_clear_1 : decode cX5_clear 1 = .ok (.iconst 0, 1) := by decide +kernel
theorem dX5_clear_2 : decode cX5_clear 2 = .ok (.putfield 22, 3) := by decide +kernel
theorem dX5_clear_5 : decode cX5_clear 5 = .ok (.aload_n 0, 1) := by decide +kernel
theorem dX5_clear_6 : decode cX5_clear 6 = .ok (.iconst 0, 1) := by decide +kernel
theorem dX5_clear_7 : decode cX5_clear 7 = .ok (.putfield 18, 3) := by decide +kernel
theorem dX5_clear_10 : decode cX5_clear 10 = .ok (.return_, 1) := by decide +kernel
theorem dX5_put_0 : decode cX5_put 0 = .ok (.aload_n 0, 1) := by decide +kernel
theorem dX5_put_1 : decode cX5_put 1 = .ok (.getfield 22, 3) := by decide +kernel
theorem dX5_put_4 : decode cX5_put 4 = .ok (.bipush 8, 2) := by decide +kernel
theorem dX5_put_6 : decode cX5_put 6 = .ok (.if_icmp .lt 5, 3) := by decide +kernel
theorem dX5_put_9 : decode cX5_put 9 = .ok (.iconst 0, 1) := by decide +kernel
theorem dX5_put_10 : decode cX5_put 10 = .ok (.ireturn, 1) := by decide +kernel
theorem dX5_put_11 : decode cX5_put 11 = .ok (.aload_n 0, 1) := by decide +kernel
theorem dX5_put_12 : decode cX5_put 12 = .ok (.getfield 9, 3) := by decide +kernel
theorem dX5_put_15 : decode cX5_put 15 = .ok (.aload_n 0, 1) := by decide +kernel
theorem dX5_put_16 : decode cX5_put 16 = .ok (.getfield 22, 3) := by decide +kernel
theorem dX5_put_19 : decode cX5_put 19 = .ok (.iload_n 1, 1) := by decide +kernel
theorem dX5_put_20 : decode cX5_put 20 = .ok (.iastore, 1) := by decide +kernel
theorem dX5_put_21 : decode cX5_put 21 = .ok (.aload_n 0, 1) := by decide +kernel
theorem dX5_put_22 : decode cX5_put 22 = .ok (.getfield 15, 3) := by decide +kernel
theorem dX5_put_25 : decode cX5_put 25 = .ok (.aload_n 0, 1) := by decide +kernel
theorem dX5_put_26 : decode cX5_put 26 = .ok (.getfield 22, 3) := by decide +kernel
theorem dX5_put_29 : decode cX5_put 29 = .ok (.iload_n 2, 1) := by decide +kernel
theorem dX5_put_30 : decode cX5_put 30 = .ok (.iastore, 1) := by decide +kernel
theorem dX5_put_31 : decode cX5_put 31 = .ok (.aload_n 0, 1) := by decide +kernel
theorem dX5_put_32 : decode cX5_put 32 = .ok (.dup, 1) := by decide +kernel
theorem dX5_put_33 : decode cX5_put 33 = .ok (.getfield 18, 3) := by decide +kernel
theorem dX5_put_36 : decode cX5_put 36 = .ok (.iload_n 3, 1) := by decide +kernel
theorem dX5_put_37 : decode cX5_put 37 = .ok (.ifCond .eq 12, 3) := by decide +kernel
theorem dX5_put_40 : decode cX5_put 40 = .ok (.iconst 1, 1) := by decide +kernel
theorem dX5_put_41 : decode cX5_put 41 = .ok (.aload_n 0, 1) := by decide +kernel
theorem dX5_put_42 : decode cX5_put 42 = .ok (.getfield 22, 3) := by decide +kernel
theorem dX5_put_45 : decode cX5_put 45 = .ok (.ishl, 1) := by decide +kernel
theorem dX5_put_46 : decode cX5_put 46 = .ok (.goto 4, 3) := by decide +kernel
theorem dX5_put_49 : decode cX5_put 49 = .ok (.iconst 0, 1) := by decide +kernel
theorem dX5_put_50 : decode cX5_put 50 = .ok (.ior, 1) := by decide +kernel
theorem dX5_put_51 : decode cX5_put 51 = .ok (.putfield 18, 3) := by decide +kernel
theorem dX5_put_54 : decode cX5_put 54 = .ok (.aload_n 0, 1) := by decide +kernel
theorem dX5_put_55 : decode cX5_put 55 = .ok (.dup, 1) := by decide +kernel
theorem dX5_put_56 : decode cX5_put 56 = .ok (.getfield 22, 3) := by decide +kernel
theorem dX5_put_59 : decode cX5_put 59 = .ok (.iconst 1, 1) := by decide +kernel
theorem dX5_put_60 : decode cX5_put 60 = .ok (.iadd, 1) := by decide +kernel
theorem dX5_put_61 : decode cX5_put 61 = .ok (.putfield 22, 3) := by decide +kernel
theorem dX5_put_64 : decode cX5_put 64 = .ok (.iconst 1, 1) := by decide +kernel
theorem dX5_put_65 : decode cX5_put 65 = .ok (.ireturn, 1) := by decide +kernel
theorem dX5_agrees_0 : decode cX5_agrees 0 = .ok (.iconst 0, 1) := by decide +kernel
theorem dX5_agrees_1 : decode cX5_agrees 1 = .ok (.istore_n 3, 1) := by decide +kernel
theorem dX5_agrees_2 : decode cX5_agrees 2 = .ok (.iload_n 3, 1) := by decide +kernel
theorem dX5_agrees_3 : decode cX5_agrees 3 = .ok (.aload_n 0, 1) := by decide +kernel
theorem dX5_agrees_4 : decode cX5_agrees 4 = .ok (.getfield 22, 3) := by decide +kernel
theorem dX5_agrees_7 : decode cX5_agrees 7 = .ok (.if_icmp .ge 42, 3) := by decide +kernel
theorem dX5_agrees_10 : decode cX5_agrees 10 = .ok (.aload_n 0, 1) := by decide +kernel
theorem dX5_agrees_11 : decode cX5_agrees 11 = .ok (.getfield 9, 3) := by decide +kernel
theorem dX5_agrees_14 : decode cX5_agrees 14 = .ok (.iload_n 3, 1) := by decide +kernel
theorem dX5_agrees_15 : decode cX5_agrees 15 = .ok (.iaload, 1) := by decide +kernel
theorem dX5_agrees_16 : decode cX5_agrees 16 = .ok (.iload_n 1, 1) := by decide +kernel
theorem dX5_agrees_17 : decode cX5_agrees 17 = .ok (.if_icmp .ne 26, 3) := by decide +kernel
theorem dX5_agrees_20 : decode cX5_agrees 20 = .ok (.aload_n 0, 1) := by decide +kernel
theorem dX5_agrees_21 : decode cX5_agrees 21 = .ok (.getfield 15, 3) := by decide +kernel
theorem dX5_agrees_24 : decode cX5_agrees 24 = .ok (.iload_n 3, 1) := by decide +kernel
theorem dX5_agrees_25 : decode cX5_agrees 25 = .ok (.iaload, 1) := by decide +kernel
theorem dX5_agrees_26 : decode cX5_agrees 26 = .ok (.iload_n 2, 1) := by decide +kernel
theorem dX5_agrees_27 : decode cX5_agrees 27 = .ok (.invokestatic 25, 3) := by decide +kernel
theorem dX5_agrees_30 : decode cX5_agrees 30 = .ok (.iload_n 3, 1) := by decide +kernel
theorem dX5_agrees_31 : decode cX5_agrees 31 = .ok (.aload_n 0, 1) := by decide +kernel
theorem dX5_agrees_32 : decode cX5_agrees 32 = .ok (.getfield 18, 3) := by decide +kernel
theorem dX5_agrees_35 : decode cX5_agrees 35 = .ok (.invokestatic 25, 3) := by decide +kernel
theorem dX5_agrees_38 : decode cX5_agrees 38 = .ok (.if_icmp .eq 5, 3) := by decide +kernel
theorem dX5_agrees_41 : decode cX5_agrees 41 = .ok (.iconst 0, 1) := by decide +kernel
theorem dX5_agrees_42 : decode cX5_agrees 42 = .ok (.ireturn, 1) := by decide +kernel
theorem dX5_agrees_43 : decode cX5_agrees 43 = .ok (.iinc 3 1, 3) := by decide +kernel
theorem dX5_agrees_46 : decode cX5_agrees 46 = .ok (.goto (-44), 3) := by decide +kernel
theorem dX5_agrees_49 : decode cX5_agrees 49 = .ok (.iconst 1, 1) := by decide +kernel
theorem dX5_agrees_50 : decode cX5_agrees 50 = .ok (.ireturn, 1) := by decide +kernel
theorem dX5_copyFrom_0 : decode cX5_copyFrom 0 = .ok (.aload_n 1, 1) := by decide +kernel
theorem dX5_copyFrom_1 : decode cX5_copyFrom 1 = .ok (.getfield 9, 3) := by decide +kernel
theorem dX5_copyFrom_4 : decode cX5_copyFrom 4 = .ok (.iconst 0, 1) := by decide +kernel
theorem dX5_copyFrom_5 : decode cX5_copyFrom 5 = .ok (.aload_n 0, 1) := by decide +kernel
theorem dX5_copyFrom_6 : decode cX5_copyFrom 6 = .ok (.getfield 9, 3) := by decide +kernel
theorem dX5_copyFrom_9 : decode cX5_copyFrom 9 = .ok (.iconst 0, 1) := by decide +kernel
theorem dX5_copyFrom_10 : decode cX5_copyFrom 10 = .ok (.bipush 8, 2) := by decide +kernel
theorem dX5_copyFrom_12 : decode cX5_copyFrom 12 = .ok (.invokestatic 29, 3) := by decide +kernel
theorem dX5_copyFrom_15 : decode cX5_copyFrom 15 = .ok (.aload_n 1, 1) := by decide +kernel
theorem dX5_copyFrom_16 : decode cX5_copyFrom 16 = .ok (.getfield 15, 3) := by decide +kernel
theorem dX5_copyFrom_19 : decode cX5_copyFrom 19 = .ok (.iconst 0, 1) := by decide +kernel
theorem dX5_copyFrom_20 : decode cX5_copyFrom 20 = .ok (.aload_n 0, 1) := by decide +kernel
theorem dX5_copyFrom_21 : decode cX5_copyFrom 21 = .ok (.getfield 15, 3) := by decide +kernel
theorem dX5_copyFrom_24 : decode cX5_copyFrom 24 = .ok (.iconst 0, 1) := by decide +kernel
theorem dX5_copyFrom_25 : decode cX5_copyFrom 25 = .ok (.bipush 8, 2) := by decide +kernel
theorem dX5_copyFrom_27 : decode cX5_copyFrom 27 = .ok (.invokestatic 29, 3) := by decide +kernel
theorem dX5_copyFrom_30 : decode cX5_copyFrom 30 = .ok (.aload_n 0, 1) := by decide +kernel
theorem dX5_copyFrom_31 : decode cX5_copyFrom 31 = .ok (.aload_n 1, 1) := by decide +kernel
theorem dX5_copyFrom_32 : decode cX5_copyFrom 32 = .ok (.getfield 18, 3) := by decide +kernel
theorem dX5_copyFrom_35 : decode cX5_copyFrom 35 = .ok (.putfield 18, 3) := by decide +kernel
theorem dX5_copyFrom_38 : decode cX5_copyFrom 38 = .ok (.aload_n 0, 1) := by decide +kernel
theorem dX5_copyFrom_39 : decode cX5_copyFrom 39 = .ok (.aload_n 1, 1) := by decide +kernel
theorem dX5_copyFrom_40 : decode cX5_copyFrom 40 = .ok (.getfield 22, 3) := by decide +kernel
theorem dX5_copyFrom_43 : decode cX5_copyFrom 43 = .ok (.putfield 22, 3) := by decide +kernel
theorem dX5_copyFrom_46 : decode cX5_copyFrom 46 = .ok (.return_, 1) := by decide +kernel
theorem dX6_init_0 : decode cX6_init 0 = .ok (.aload_n 0, 1) := by decide +kernel
theorem dX6_init_1 : decode cX6_init 1 = .ok (.invokespecial 3, 3) := by decide +kernel
theorem dX6_init_4 : decode cX6_init 4 = .ok (.aload_n 0, 1) := by decide +kernel
theorem dX6_init_5 : decode cX6_init 5 = .ok (.sipush 1024, 3) := by decide +kernel
theorem dX6_init_8 : decode cX6_init 8 = .ok (.newarray .int, 2) := by decide +kernel
theorem dX6_init_10 : decode cX6_init 10 = .ok (.putfield 9, 3) := by decide +kernel
theorem dX6_init_13 : decode cX6_init 13 = .ok (.aload_n 0, 1) := by decide +kernel
theorem dX6_init_14 : decode cX6_init 14 = .ok (.sipush 1024, 3) := by decide +kernel
theorem dX6_init_17 : decode cX6_init 17 = .ok (.newarray .int, 2) := by decide +kernel
theorem dX6_init_19 : decode cX6_init 19 = .ok (.putfield 15, 3) := by decide +kernel
theorem dX6_init_22 : decode cX6_init 22 = .ok (.return_, 1) := by decide +kernel
theorem dX6_fill_0 : decode cX6_fill 0 = .ok (.sipush 1023, 3) := by decide +kernel
theorem dX6_fill_3 : decode cX6_fill 3 = .ok (.istore_n 3, 1) := by decide +kernel
theorem dX6_fill_4 : decode cX6_fill 4 = .ok (.iload_n 3, 1) := by decide +kernel
theorem dX6_fill_5 : decode cX6_fill 5 = .ok (.ifCond .lt 50, 3) := by decide +kernel
theorem dX6_fill_8 : decode cX6_fill 8 = .ok (.aload_n 1, 1) := by decide +kernel
theorem dX6_fill_9 : decode cX6_fill 9 = .ok (.iload_n 3, 1) := by decide +kernel
theorem dX6_fill_10 : decode cX6_fill 10 = .ok (.iload_n 2, 1) := by decide +kernel
theorem dX6_fill_11 : decode cX6_fill 11 = .ok (.iconst 0, 1) := by decide +kernel
theorem dX6_fill_12 : decode cX6_fill 12 = .ok (.invokevirtual 18, 3) := by decide +kernel
theorem dX6_fill_15 : decode cX6_fill 15 = .ok (.istore 4, 2) := by decide +kernel
theorem dX6_fill_17 : decode cX6_fill 17 = .ok (.aload_n 0, 1) := by decide +kernel
theorem dX6_fill_18 : decode cX6_fill 18 = .ok (.getfield 9, 3) := by decide +kernel
theorem dX6_fill_21 : decode cX6_fill 21 = .ok (.iload_n 3, 1) := by decide +kernel
theorem dX6_fill_22 : decode cX6_fill 22 = .ok (.iload 4, 2) := by decide +kernel
theorem dX6_fill_24 : decode cX6_fill 24 = .ok (.iconst (-1), 1) := by decide +kernel
theorem dX6_fill_25 : decode cX6_fill 25 = .ok (.if_icmp .ne 7, 3) := by decide +kernel
theorem dX6_fill_28 : decode cX6_fill 28 = .ok (.iload_n 3, 1) := by decide +kernel
theorem dX6_fill_29 : decode cX6_fill 29 = .ok (.goto 19, 3) := by decide +kernel
theorem dX6_fill_32 : decode cX6_fill 32 = .ok (.aload_n 0, 1) := by decide +kernel
theorem dX6_fill_33 : decode cX6_fill 33 = .ok (.getfield 9, 3) := by decide +kernel
theorem dX6_fill_36 : decode cX6_fill 36 = .ok (.iload_n 3, 1) := by decide +kernel
theorem dX6_fill_37 : decode cX6_fill 37 = .ok (.iconst 1, 1) := by decide +kernel
theorem dX6_fill_38 : decode cX6_fill 38 = .ok (.aload_n 1, 1) := by decide +kernel
theorem dX6_fill_39 : decode cX6_fill 39 = .ok (.getfield 24, 3) := by decide +kernel
theorem dX6_fill_42 : decode cX6_fill 42 = .ok (.iload 4, 2) := by decide +kernel
theorem dX6_fill_44 : decode cX6_fill 44 = .ok (.iaload, 1) := by decide +kernel
theorem dX6_fill_45 : decode cX6_fill 45 = .ok (.ishl, 1) := by decide +kernel
theorem dX6_fill_46 : decode cX6_fill 46 = .ok (.ior, 1) := by decide +kernel
theorem dX6_fill_47 : decode cX6_fill 47 = .ok (.iaload, 1) := by decide +kernel
theorem dX6_fill_48 : decode cX6_fill 48 = .ok (.iastore, 1) := by decide +kernel
theorem dX6_fill_49 : decode cX6_fill 49 = .ok (.iinc 3 (-1), 3) := by decide +kernel
theorem dX6_fill_52 : decode cX6_fill 52 = .ok (.goto (-48), 3) := by decide +kernel
theorem dX6_fill_55 : decode cX6_fill 55 = .ok (.return_, 1) := by decide +kernel
theorem dX6_howManyBring_0 : decode cX6_howManyBring 0 = .ok (.aload_n 0, 1) := by decide +kernel
theorem dX6_howManyBring_1 : decode cX6_howManyBring 1 = .ok (.aload_n 1, 1) := by decide +kernel
theorem dX6_howManyBring_2 : decode cX6_howManyBring 2 = .ok (.iload_n 2, 1) := by decide +kernel
theorem dX6_howManyBring_3 : decode cX6_howManyBring 3 = .ok (.invokevirtual 27, 3) := by decide +kernel
theorem dX6_howManyBring_6 : decode cX6_howManyBring 6 = .ok (.iconst 0, 1) := by decide +kernel
theorem dX6_howManyBring_7 : decode cX6_howManyBring 7 = .ok (.istore 4, 2) := by decide +kernel
theorem dX6_howManyBring_9 : decode cX6_howManyBring 9 = .ok (.iconst 0, 1) := by decide +kernel
theorem dX6_howManyBring_10 : decode cX6_howManyBring 10 = .ok (.istore 5, 2) := by decide +kernel
theorem dX6_howManyBring_12 : decode cX6_howManyBring 12 = .ok (.iload 5, 2) := by decide +kernel
theorem dX6_howManyBring_14 : decode cX6_howManyBring 14 = .ok (.sipush 1024, 3) := by decide +kernel
theorem dX6_howManyBring_17 : decode cX6_howManyBring 17 = .ok (.if_icmp .ge 26, 3) := by decide +kernel
theorem dX6_howManyBring_20 : decode cX6_howManyBring 20 = .ok (.iload_n 3, 1) := by decide +kernel
theorem dX6_howManyBring_21 : decode cX6_howManyBring 21 = .ok (.aload_n 0, 1) := by decide +kernel
theorem dX6_howManyBring_22 : decode cX6_howManyBring 22 = .ok (.getfield 9, 3) := by decide +kernel
theorem dX6_howManyBring_25 : decode cX6_howManyBring 25 = .ok (.iload 5, 2) := by decide +kernel
theorem dX6_howManyBring_27 : decode cX6_howManyBring 27 = .ok (.iaload, 1) := by decide +kernel
theorem dX6_howManyBring_28 : decode cX6_howManyBring 28 = .ok (.invokestatic 31, 3) := by decide +kernel
theorem dX6_howManyBring_31 : decode cX6_howManyBring 31 = .ok (.ifCond .eq 6, 3) := by decide +kernel
theorem dX6_howManyBring_34 : decode cX6_howManyBring 34 = .ok (.iinc 4 1, 3) := by decide +kernel
theorem dX6_howManyBring_37 : decode cX6_howManyBring 37 = .ok (.iinc 5 1, 3) := by decide +kernel
theorem dX6_howManyBring_40 : decode cX6_howManyBring 40 = .ok (.goto (-28), 3) := by decide +kernel
theorem dX6_howManyBring_43 : decode cX6_howManyBring 43 = .ok (.iload 4, 2) := by decide +kernel
theorem dX6_howManyBring_45 : decode cX6_howManyBring 45 = .ok (.ireturn, 1) := by decide +kernel
theorem dX6_idleIfs_0 : decode cX6_idleIfs 0 = .ok (.aload_n 0, 1) := by decide +kernel
theorem dX6_idleIfs_1 : decode cX6_idleIfs 1 = .ok (.aload_n 1, 1) := by decide +kernel
theorem dX6_idleIfs_2 : decode cX6_idleIfs 2 = .ok (.iload_n 2, 1) := by decide +kernel
theorem dX6_idleIfs_3 : decode cX6_idleIfs 3 = .ok (.invokevirtual 27, 3) := by decide +kernel
theorem dX6_idleIfs_6 : decode cX6_idleIfs 6 = .ok (.iconst 1, 1) := by decide +kernel
theorem dX6_idleIfs_7 : decode cX6_idleIfs 7 = .ok (.aload_n 1, 1) := by decide +kernel
theorem dX6_idleIfs_8 : decode cX6_idleIfs 8 = .ok (.getfield 35, 3) := by decide +kernel
theorem dX6_idleIfs_11 : decode cX6_idleIfs 11 = .ok (.ishl, 1) := by decide +kernel
theorem dX6_idleIfs_12 : decode cX6_idleIfs 12 = .ok (.iconst 1, 1) := by decide +kernel
theorem dX6_idleIfs_13 : decode cX6_idleIfs 13 = .ok (.isub, 1) := by decide +kernel
theorem dX6_idleIfs_14 : decode cX6_idleIfs 14 = .ok (.iload_n 2, 1) := by decide +kernel
theorem dX6_idleIfs_15 : decode cX6_idleIfs 15 = .ok (.iconst (-1), 1) := by decide +kernel
theorem dX6_idleIfs_16 : decode cX6_idleIfs 16 = .ok (.ixor, 1) := by decide +kernel
theorem dX6_idleIfs_17 : decode cX6_idleIfs 17 = .ok (.iand, 1) := by decide +kernel
theorem dX6_idleIfs_18 : decode cX6_idleIfs 18 = .ok (.istore_n 3, 1) := by decide +kernel
theorem dX6_idleIfs_19 : decode cX6_idleIfs 19 = .ok (.iconst 0, 1) := by decide +kernel
theorem dX6_idleIfs_20 : decode cX6_idleIfs 20 = .ok (.istore 4, 2) := by decide +kernel
theorem dX6_idleIfs_22 : decode cX6_idleIfs 22 = .ok (.iload 4, 2) := by decide +kernel
theorem dX6_idleIfs_24 : decode cX6_idleIfs 24 = .ok (.sipush 1024, 3) := by decide +kernel
theorem dX6_idleIfs_27 : decode cX6_idleIfs 27 = .ok (.if_icmp .ge 92, 3) := by decide +kernel
theorem dX6_idleIfs_30 : decode cX6_idleIfs 30 = .ok (.aload_n 1, 1) := by decide +kernel
theorem dX6_idleIfs_31 : decode cX6_idleIfs 31 = .ok (.iload 4, 2) := by decide +kernel
theorem dX6_idleIfs_33 : decode cX6_idleIfs 33 = .ok (.iload_n 2, 1) := by decide +kernel
theorem dX6_idleIfs_34 : decode cX6_idleIfs 34 = .ok (.iconst 0, 1) := by decide +kernel
theorem dX6_idleIfs_35 : decode cX6_idleIfs 35 = .ok (.invokevirtual 18, 3) := by decide +kernel
theorem dX6_idleIfs_38 : decode cX6_idleIfs 38 = .ok (.istore 5, 2) := by decide +kernel
theorem dX6_idleIfs_40 : decode cX6_idleIfs 40 = .ok (.iload 5, 2) := by decide +kernel
theorem dX6_idleIfs_42 : decode cX6_idleIfs 42 = .ok (.iconst (-1), 1) := by decide +kernel
theorem dX6_idleIfs_43 : decode cX6_idleIfs 43 = .ok (.if_icmp .ne 6, 3) := by decide +kernel
theorem dX6_idleIfs_46 : decode cX6_idleIfs 46 = .ok (.goto 67, 3) := by decide +kernel
theorem dX6_idleIfs_49 : decode cX6_idleIfs 49 = .ok (.aload_n 1, 1) := by decide +kernel
theorem dX6_idleIfs_50 : decode cX6_idleIfs 50 = .ok (.iload 4, 2) := by decide +kernel
theorem dX6_idleIfs_52 : decode cX6_idleIfs 52 = .ok (.iload_n 2, 1) := by decide +kernel
theorem dX6_idleIfs_53 : decode cX6_idleIfs 53 = .ok (.iload 5, 2) := by decide +kernel
theorem dX6_idleIfs_55 : decode cX6_idleIfs 55 = .ok (.iconst 1, 1) := by decide +kernel
theorem dX6_idleIfs_56 : decode cX6_idleIfs 56 = .ok (.iadd, 1) := by decide +kernel
theorem dX6_idleIfs_57 : decode cX6_idleIfs 57 = .ok (.invokevirtual 18, 3) := by decide +kernel
theorem dX6_idleIfs_60 : decode cX6_idleIfs 60 = .ok (.istore 6, 2) := by decide +kernel
theorem dX6_idleIfs_62 : decode cX6_idleIfs 62 = .ok (.iload 6, 2) := by decide +kernel
theorem dX6_idleIfs_64 : decode cX6_idleIfs 64 = .ok (.iconst (-1), 1) := by decide +kernel
theorem dX6_idleIfs_65 : decode cX6_idleIfs 65 = .ok (.if_icmp .ne 8, 3) := by decide +kernel
theorem dX6_idleIfs_68 : decode cX6_idleIfs 68 = .ok (.iload 4, 2) := by decide +kernel
theorem dX6_idleIfs_70 : decode cX6_idleIfs 70 = .ok (.goto 20, 3) := by decide +kernel
theorem dX6_idleIfs_73 : decode cX6_idleIfs 73 = .ok (.aload_n 0, 1) := by decide +kernel
theorem dX6_idleIfs_74 : decode cX6_idleIfs 74 = .ok (.getfield 9, 3) := by decide +kernel
theorem dX6_idleIfs_77 : decode cX6_idleIfs 77 = .ok (.iload 4, 2) := by decide +kernel
theorem dX6_idleIfs_79 : decode cX6_idleIfs 79 = .ok (.iconst 1, 1) := by decide +kernel
theorem dX6_idleIfs_80 : decode cX6_idleIfs 80 = .ok (.aload_n 1, 1) := by decide +kernel
theorem dX6_idleIfs_81 : decode cX6_idleIfs 81 = .ok (.getfield 24, 3) := by decide +kernel
theorem dX6_idleIfs_84 : decode cX6_idleIfs 84 = .ok (.iload 6, 2) := by decide +kernel
theorem dX6_idleIfs_86 : decode cX6_idleIfs 86 = .ok (.iaload, 1) := by decide +kernel
theorem dX6_idleIfs_87 : decode cX6_idleIfs 87 = .ok (.ishl, 1) := by decide +kernel
theorem dX6_idleIfs_88 : decode cX6_idleIfs 88 = .ok (.ior, 1) := by decide +kernel
theorem dX6_idleIfs_89 : decode cX6_idleIfs 89 = .ok (.iaload, 1) := by decide +kernel
theorem dX6_idleIfs_90 : decode cX6_idleIfs 90 = .ok (.istore 7, 2) := by decide +kernel
theorem dX6_idleIfs_92 : decode cX6_idleIfs 92 = .ok (.iload 7, 2) := by decide +kernel
theorem dX6_idleIfs_94 : decode cX6_idleIfs 94 = .ok (.aload_n 0, 1) := by decide +kernel
theorem dX6_idleIfs_95 : decode cX6_idleIfs 95 = .ok (.getfield 9, 3) := by decide +kernel
theorem dX6_idleIfs_98 : decode cX6_idleIfs 98 = .ok (.iload 4, 2) := by decide +kernel
theorem dX6_idleIfs_100 : decode cX6_idleIfs 100 = .ok (.iaload, 1) := by decide +kernel
theorem dX6_idleIfs_101 : decode cX6_idleIfs 101 = .ok (.if_icmp .eq 12, 3) := by decide +kernel
theorem dX6_idleIfs_104 : decode cX6_idleIfs 104 = .ok (.iload_n 3, 1) := by decide +kernel
theorem dX6_idleIfs_105 : decode cX6_idleIfs 105 = .ok (.iconst 1, 1) := by decide +kernel
theorem dX6_idleIfs_106 : decode cX6_idleIfs 106 = .ok (.iload 5, 2) := by decide +kernel
theorem dX6_idleIfs_108 : decode cX6_idleIfs 108 = .ok (.ishl, 1) := by decide +kernel
theorem dX6_idleIfs_109 : decode cX6_idleIfs 109 = .ok (.iconst (-1), 1) := by decide +kernel
theorem dX6_idleIfs_110 : decode cX6_idleIfs 110 = .ok (.ixor, 1) := by decide +kernel
theorem dX6_idleIfs_111 : decode cX6_idleIfs 111 = .ok (.iand, 1) := by decide +kernel
theorem dX6_idleIfs_112 : decode cX6_idleIfs 112 = .ok (.istore_n 3, 1) := by decide +kernel
theorem dX6_idleIfs_113 : decode cX6_idleIfs 113 = .ok (.iinc 4 1, 3) := by decide +kernel
theorem dX6_idleIfs_116 : decode cX6_idleIfs 116 = .ok (.goto (-94), 3) := by decide +kernel
theorem dX6_idleIfs_119 : decode cX6_idleIfs 119 = .ok (.iload_n 3, 1) := by decide +kernel
theorem dX6_idleIfs_120 : decode cX6_idleIfs 120 = .ok (.ireturn, 1) := by decide +kernel
theorem dX6_fewestSteps_0 : decode cX6_fewestSteps 0 = .ok (.aload_n 0, 1) := by decide +kernel
theorem dX6_fewestSteps_1 : decode cX6_fewestSteps 1 = .ok (.getfield 15, 3) := by decide +kernel
theorem dX6_fewestSteps_4 : decode cX6_fewestSteps 4 = .ok (.iconst 0, 1) := by decide +kernel
theorem dX6_fewestSteps_5 : decode cX6_fewestSteps 5 = .ok (.invokestatic 39, 3) := by decide +kernel
theorem dX6_fewestSteps_8 : decode cX6_fewestSteps 8 = .ok (.aload_n 0, 1) := by decide +kernel
theorem dX6_fewestSteps_9 : decode cX6_fewestSteps 9 = .ok (.getfield 15, 3) := by decide +kernel
theorem dX6_fewestSteps_12 : decode cX6_fewestSteps 12 = .ok (.iload_n 3, 1) := by decide +kernel
theorem dX6_fewestSteps_13 : decode cX6_fewestSteps 13 = .ok (.iconst 1, 1) := by decide +kernel
theorem dX6_fewestSteps_14 : decode cX6_fewestSteps 14 = .ok (.iastore, 1) := by decide +kernel
theorem dX6_fewestSteps_15 : decode cX6_fewestSteps 15 = .ok (.iconst (-1), 1) := by decide +kernel
theorem dX6_fewestSteps_16 : decode cX6_fewestSteps 16 = .ok (.istore 5, 2) := by decide +kernel
theorem dX6_fewestSteps_18 : decode cX6_fewestSteps 18 = .ok (.iload_n 3, 1) := by decide +kernel
theorem dX6_fewestSteps_19 : decode cX6_fewestSteps 19 = .ok (.istore 6, 2) := by decide +kernel
theorem dX6_fewestSteps_21 : decode cX6_fewestSteps 21 = .ok (.iload 6, 2) := by decide +kernel
theorem dX6_fewestSteps_23 : decode cX6_fewestSteps 23 = .ok (.sipush 1024, 3) := by decide +kernel
theorem dX6_fewestSteps_26 : decode cX6_fewestSteps 26 = .ok (.if_icmp .ge 72, 3) := by decide +kernel
theorem dX6_fewestSteps_29 : decode cX6_fewestSteps 29 = .ok (.aload_n 0, 1) := by decide +kernel
theorem dX6_fewestSteps_30 : decode cX6_fewestSteps 30 = .ok (.getfield 15, 3) := by decide +kernel
theorem dX6_fewestSteps_33 : decode cX6_fewestSteps 33 = .ok (.iload 6, 2) := by decide +kernel
theorem dX6_fewestSteps_35 : decode cX6_fewestSteps 35 = .ok (.iaload, 1) := by decide +kernel
theorem dX6_fewestSteps_36 : decode cX6_fewestSteps 36 = .ok (.ifCond .ne 6, 3) := by decide +kernel
theorem dX6_fewestSteps_39 : decode cX6_fewestSteps 39 = .ok (.goto 53, 3) := by decide +kernel
theorem dX6_fewestSteps_42 : decode cX6_fewestSteps 42 = .ok (.iload 4, 2) := by decide +kernel
theorem dX6_fewestSteps_44 : decode cX6_fewestSteps 44 = .ok (.iload 6, 2) := by decide +kernel
theorem dX6_fewestSteps_46 : decode cX6_fewestSteps 46 = .ok (.invokestatic 31, 3) := by decide +kernel
theorem dX6_fewestSteps_49 : decode cX6_fewestSteps 49 = .ok (.ifCond .eq 35, 3) := by decide +kernel
theorem dX6_fewestSteps_52 : decode cX6_fewestSteps 52 = .ok (.iload 6, 2) := by decide +kernel
theorem dX6_fewestSteps_54 : decode cX6_fewestSteps 54 = .ok (.invokestatic 44, 3) := by decide +kernel
theorem dX6_fewestSteps_57 : decode cX6_fewestSteps 57 = .ok (.iload_n 3, 1) := by decide +kernel
theorem dX6_fewestSteps_58 : decode cX6_fewestSteps 58 = .ok (.invokestatic 44, 3) := by decide +kernel
theorem dX6_fewestSteps_61 : decode cX6_fewestSteps 61 = .ok (.isub, 1) := by decide +kernel
theorem dX6_fewestSteps_62 : decode cX6_fewestSteps 62 = .ok (.istore 7, 2) := by decide +kernel
theorem dX6_fewestSteps_64 : decode cX6_fewestSteps 64 = .ok (.iload 5, 2) := by decide +kernel
theorem dX6_fewestSteps_66 : decode cX6_fewestSteps 66 = .ok (.iconst (-1), 1) := by decide +kernel
theorem dX6_fewestSteps_67 : decode cX6_fewestSteps 67 = .ok (.if_icmp .ne 8, 3) := by decide +kernel
theorem dX6_fewestSteps_70 : decode cX6_fewestSteps 70 = .ok (.iload 7, 2) := by decide +kernel
theorem dX6_fewestSteps_72 : decode cX6_fewestSteps 72 = .ok (.goto 10, 3) := by decide +kernel
theorem dX6_fewestSteps_75 : decode cX6_fewestSteps 75 = .ok (.iload 5, 2) := by decide +kernel
theorem dX6_fewestSteps_77 : decode cX6_fewestSteps 77 = .ok (.iload 7, 2) := by decide +kernel
theorem dX6_fewestSteps_79 : decode cX6_fewestSteps 79 = .ok (.invokestatic 50, 3) := by decide +kernel
theorem dX6_fewestSteps_82 : decode cX6_fewestSteps 82 = .ok (.istore 5, 2) := by decide +kernel
theorem dX6_fewestSteps_84 : decode cX6_fewestSteps 84 = .ok (.aload_n 0, 1) := by decide +kernel
theorem dX6_fewestSteps_85 : decode cX6_fewestSteps 85 = .ok (.aload_n 1, 1) := by decide +kernel
theorem dX6_fewestSteps_86 : decode cX6_fewestSteps 86 = .ok (.iload_n 2, 1) := by decide +kernel
theorem dX6_fewestSteps_87 : decode cX6_fewestSteps 87 = .ok (.iload 6, 2) := by decide +kernel
theorem dX6_fewestSteps_89 : decode cX6_fewestSteps 89 = .ok (.invokevirtual 56, 3) := by decide +kernel
theorem dX6_fewestSteps_92 : decode cX6_fewestSteps 92 = .ok (.iinc 6 1, 3) := by decide +kernel
theorem dX6_fewestSteps_95 : decode cX6_fewestSteps 95 = .ok (.goto (-74), 3) := by decide +kernel
theorem dX6_fewestSteps_98 : decode cX6_fewestSteps 98 = .ok (.iload 5, 2) := by decide +kernel
theorem dX6_fewestSteps_100 : decode cX6_fewestSteps 100 = .ok (.ireturn, 1) := by decide +kernel
theorem dX6_reachOn_0 : decode cX6_reachOn 0 = .ok (.aload_n 1, 1) := by decide +kernel
theorem dX6_reachOn_1 : decode cX6_reachOn 1 = .ok (.iload_n 3, 1) := by decide +kernel
theorem dX6_reachOn_2 : decode cX6_reachOn 2 = .ok (.iload_n 2, 1) := by decide +kernel
theorem dX6_reachOn_3 : decode cX6_reachOn 3 = .ok (.iconst 0, 1) := by decide +kernel
theorem dX6_reachOn_4 : decode cX6_reachOn 4 = .ok (.invokevirtual 18, 3) := by decide +kernel
theorem dX6_reachOn_7 : decode cX6_reachOn 7 = .ok (.istore 4, 2) := by decide +kernel
theorem dX6_reachOn_9 : decode cX6_reachOn 9 = .ok (.iconst 0, 1) := by decide +kernel
theorem dX6_reachOn_10 : decode cX6_reachOn 10 = .ok (.istore 5, 2) := by decide +kernel
theorem dX6_reachOn_12 : decode cX6_reachOn 12 = .ok (.iload 5, 2) := by decide +kernel
theorem dX6_reachOn_14 : decode cX6_reachOn 14 = .ok (.bipush 12, 2) := by decide +kernel
theorem dX6_reachOn_16 : decode cX6_reachOn 16 = .ok (.if_icmp .ge 44, 3) := by decide +kernel
theorem dX6_reachOn_19 : decode cX6_reachOn 19 = .ok (.iload 4, 2) := by decide +kernel
theorem dX6_reachOn_21 : decode cX6_reachOn 21 = .ok (.iconst (-1), 1) := by decide +kernel
theorem dX6_reachOn_22 : decode cX6_reachOn 22 = .ok (.if_icmp .eq 38, 3) := by decide +kernel
theorem dX6_reachOn_25 : decode cX6_reachOn 25 = .ok (.aload_n 0, 1) := by decide +kernel
theorem dX6_reachOn_26 : decode cX6_reachOn 26 = .ok (.getfield 15, 3) := by decide +kernel
theorem dX6_reachOn_29 : decode cX6_reachOn 29 = .ok (.iload_n 3, 1) := by decide +kernel
theorem dX6_reachOn_30 : decode cX6_reachOn 30 = .ok (.iconst 1, 1) := by decide +kernel
theorem dX6_reachOn_31 : decode cX6_reachOn 31 = .ok (.aload_n 1, 1) := by decide +kernel
theorem dX6_reachOn_32 : decode cX6_reachOn 32 = .ok (.getfield 24, 3) := by decide +kernel
theorem dX6_reachOn_35 : decode cX6_reachOn 35 = .ok (.iload 4, 2) := by decide +kernel
theorem dX6_reachOn_37 : decode cX6_reachOn 37 = .ok (.iaload, 1) := by decide +kernel
theorem dX6_reachOn_38 : decode cX6_reachOn 38 = .ok (.ishl, 1) := by decide +kernel
theorem dX6_reachOn_39 : decode cX6_reachOn 39 = .ok (.ior, 1) := by decide +kernel
theorem dX6_reachOn_40 : decode cX6_reachOn 40 = .ok (.iconst 1, 1) := by decide +kernel
theorem dX6_reachOn_41 : decode cX6_reachOn 41 = .ok (.iastore, 1) := by decide +kernel
theorem dX6_reachOn_42 : decode cX6_reachOn 42 = .ok (.aload_n 1, 1) := by decide +kernel
theorem dX6_reachOn_43 : decode cX6_reachOn 43 = .ok (.iload_n 3, 1) := by decide +kernel
theorem dX6_reachOn_44 : decode cX6_reachOn 44 = .ok (.iload_n 2, 1) := by decide +kernel
theorem dX6_reachOn_45 : decode cX6_reachOn 45 = .ok (.iload 4, 2) := by decide +kernel
theorem dX6_reachOn_47 : decode cX6_reachOn 47 = .ok (.iconst 1, 1) := by decide +kernel
theorem dX6_reachOn_48 : decode cX6_reachOn 48 = .ok (.iadd, 1) := by decide +kernel
theorem dX6_reachOn_49 : decode cX6_reachOn 49 = .ok (.invokevirtual 18, 3) := by decide +kernel
theorem dX6_reachOn_52 : decode cX6_reachOn 52 = .ok (.istore 4, 2) := by decide +kernel
theorem dX6_reachOn_54 : decode cX6_reachOn 54 = .ok (.iinc 5 1, 3) := by decide +kernel
theorem dX6_reachOn_57 : decode cX6_reachOn 57 = .ok (.goto (-45), 3) := by decide +kernel
theorem dX6_reachOn_60 : decode cX6_reachOn 60 = .ok (.return_, 1) := by decide +kernel
theorem dX7_init_0 : decode cX7_init 0 = .ok (.aload_n 0, 1) := by decide +kernel
theorem dX7_init_1 : decode cX7_init 1 = .ok (.invokespecial 3, 3) := by decide +kernel
theorem dX7_init_4 : decode cX7_init 4 = .ok (.aload_n 0, 1) := by decide +kernel
theorem dX7_init_5 : decode cX7_init 5 = .ok (.bipush 10, 2) := by decide +kernel
theorem dX7_init_7 : decode cX7_init 7 = .ok (.newarray .int, 2) := by decide +kernel
theorem dX7_init_9 : decode cX7_init 9 = .ok (.putfield 9, 3) := by decide +kernel
theorem dX7_init_12 : decode cX7_init 12 = .ok (.aload_n 0, 1) := by decide +kernel
theorem dX7_init_13 : decode cX7_init 13 = .ok (.new 15, 3) := by decide +kernel
theorem dX7_init_16 : decode cX7_init 16 = .ok (.dup, 1) := by decide +kernel
theorem dX7_init_17 : decode cX7_init 17 = .ok (.invokespecial 17, 3) := by decide +kernel
theorem dX7_init_20 : decode cX7_init 20 = .ok (.putfield 18, 3) := by decide +kernel
theorem dX7_init_23 : decode cX7_init 23 = .ok (.aload_n 0, 1) := by decide +kernel
theorem dX7_init_24 : decode cX7_init 24 = .ok (.new 22, 3) := by decide +kernel
theorem dX7_init_27 : decode cX7_init 27 = .ok (.dup, 1) := by decide +kernel
theorem dX7_init_28 : decode cX7_init 28 = .ok (.invokespecial 24, 3) := by decide +kernel
theorem dX7_init_31 : decode cX7_init 31 = .ok (.putfield 25, 3) := by decide +kernel
theorem dX7_init_34 : decode cX7_init 34 = .ok (.aload_n 0, 1) := by decide +kernel
theorem dX7_init_35 : decode cX7_init 35 = .ok (.bipush 8, 2) := by decide +kernel
theorem dX7_init_37 : decode cX7_init 37 = .ok (.newarray .int, 2) := by decide +kernel
theorem dX7_init_39 : decode cX7_init 39 = .ok (.putfield 29, 3) := by decide +kernel
theorem dX7_init_42 : decode cX7_init 42 = .ok (.aload_n 0, 1) := by decide +kernel
theorem dX7_init_43 : decode cX7_init 43 = .ok (.bipush 8, 2) := by decide +kernel
theorem dX7_init_45 : decode cX7_init 45 = .ok (.newarray .int, 2) := by decide +kernel
theorem dX7_init_47 : decode cX7_init 47 = .ok (.putfield 32, 3) := by decide +kernel
theorem dX7_init_50 : decode cX7_init 50 = .ok (.aload_n 0, 1) := by decide +kernel
theorem dX7_init_51 : decode cX7_init 51 = .ok (.bipush 8, 2) := by decide +kernel
theorem dX7_init_53 : decode cX7_init 53 = .ok (.newarray .int, 2) := by decide +kernel
theorem dX7_init_55 : decode cX7_init 55 = .ok (.putfield 35, 3) := by decide +kernel
theorem dX7_init_58 : decode cX7_init 58 = .ok (.aload_n 0, 1) := by decide +kernel
theorem dX7_init_59 : decode cX7_init 59 = .ok (.bipush 8, 2) := by decide +kernel
theorem dX7_init_61 : decode cX7_init 61 = .ok (.newarray .int, 2) := by decide +kernel
theorem dX7_init_63 : decode cX7_init 63 = .ok (.putfield 38, 3) := by decide +kernel
theorem dX7_init_66 : decode cX7_init 66 = .ok (.aload_n 0, 1) := by decide +kernel
theorem dX7_init_67 : decode cX7_init 67 = .ok (.iconst 0, 1) := by decide +kernel
theorem dX7_init_68 : decode cX7_init 68 = .ok (.putfield 41, 3) := by decide +kernel
theorem dX7_init_71 : decode cX7_init 71 = .ok (.aload_n 0, 1) := by decide +kernel
theorem dX7_init_72 : decode cX7_init 72 = .ok (.iconst 0, 1) := by decide +kernel
theorem dX7_init_73 : decode cX7_init 73 = .ok (.putfield 45, 3) := by decide +kernel
theorem dX7_init_76 : decode cX7_init 76 = .ok (.aload_n 0, 1) := by decide +kernel
theorem dX7_init_77 : decode cX7_init 77 = .ok (.iconst 4, 1) := by decide +kernel
theorem dX7_init_78 : decode cX7_init 78 = .ok (.putfield 48, 3) := by decide +kernel
theorem dX7_init_81 : decode cX7_init 81 = .ok (.aload_n 0, 1) := by decide +kernel
theorem dX7_init_82 : decode cX7_init 82 = .ok (.iconst 0, 1) := by decide +kernel
theorem dX7_init_83 : decode cX7_init 83 = .ok (.putfield 51, 3) := by decide +kernel
theorem dX7_init_86 : decode cX7_init 86 = .ok (.return_, 1) := by decide +kernel
theorem dX7_clear_0 : decode cX7_clear 0 = .ok (.aload_n 0, 1) := by decide +kernel
theorem dX7_clear_1 : decode cX7_clear 1 = .ok (.getfield 9, 3) := by decide +kernel
theorem dX7_clear_4 : decode cX7_clear 4 = .ok (.iconst 0, 1) := by decide +kernel
theorem dX7_clear_5 : decode cX7_clear 5 = .ok (.invokestatic 55, 3) := by decide +kernel
theorem dX7_clear_8 : decode cX7_clear 8 = .ok (.aload_n 0, 1) := by decide +kernel
theorem dX7_clear_9 : decode cX7_clear 9 = .ok (.getfield 18, 3) := by decide +kernel
theorem dX7_clear_12 : decode cX7_clear 12 = .ok (.invokevirtual 61, 3) := by decide +kernel
theorem dX7_clear_15 : decode cX7_clear 15 = .ok (.aload_n 0, 1) := by decide +kernel
theorem dX7_clear_16 : decode cX7_clear 16 = .ok (.getfield 25, 3) := by decide +kernel
theorem dX7_clear_19 : decode cX7_clear 19 = .ok (.invokevirtual 64, 3) := by decide +kernel
theorem dX7_clear_22 : decode cX7_clear 22 = .ok (.aload_n 0, 1) := by decide +kernel
theorem dX7_clear_23 : decode cX7_clear 23 = .ok (.iconst 0, 1) := by decide +kernel
theorem dX7_clear_24 : decode cX7_clear 24 = .ok (.putfield 41, 3) := by decide +kernel
theorem dX7_clear_27 : decode cX7_clear 27 = .ok (.aload_n 0, 1) := by decide +kernel
theorem dX7_clear_28 : decode cX7_clear 28 = .ok (.iconst 0, 1) := by decide +kernel
theorem dX7_clear_29 : decode cX7_clear 29 = .ok (.putfield 45, 3) := by decide +kernel
theorem dX7_clear_32 : decode cX7_clear 32 = .ok (.aload_n 0, 1) := by decide +kernel
theorem dX7_clear_33 : decode cX7_clear 33 = .ok (.iconst 4, 1) := by decide +kernel
theorem dX7_clear_34 : decode cX7_clear 34 = .ok (.putfield 48, 3) := by decide +kernel
theorem dX7_clear_37 : decode cX7_clear 37 = .ok (.aload_n 0, 1) := by decide +kernel
theorem dX7_clear_38 : decode cX7_clear 38 = .ok (.iconst 0, 1) := by decide +kernel
theorem dX7_clear_39 : decode cX7_clear 39 = .ok (.putfield 51, 3) := by decide +kernel
theorem dX7_clear_42 : decode cX7_clear 42 = .ok (.return_, 1) := by decide +kernel
theorem dX7_tellWorth_0 : decode cX7_tellWorth 0 = .ok (.aload_n 0, 1) := by decide +kernel
theorem dX7_tellWorth_1 : decode cX7_tellWorth 1 = .ok (.getfield 9, 3) := by decide +kernel
theorem dX7_tellWorth_4 : decode cX7_tellWorth 4 = .ok (.iload_n 1, 1) := by decide +kernel
theorem dX7_tellWorth_5 : decode cX7_tellWorth 5 = .ok (.iload_n 2, 1) := by decide +kernel
theorem dX7_tellWorth_6 : decode cX7_tellWorth 6 = .ok (.iastore, 1) := by decide +kernel
theorem dX7_tellWorth_7 : decode cX7_tellWorth 7 = .ok (.aload_n 0, 1) := by decide +kernel
theorem dX7_tellWorth_8 : decode cX7_tellWorth 8 = .ok (.dup, 1) := by decide +kernel
theorem dX7_tellWorth_9 : decode cX7_tellWorth 9 = .ok (.getfield 45, 3) := by decide +kernel
theorem dX7_tellWorth_12 : decode cX7_tellWorth 12 = .ok (.iconst 1, 1) := by decide +kernel
theorem dX7_tellWorth_13 : decode cX7_tellWorth 13 = .ok (.iload_n 1, 1) := by decide +kernel
theorem dX7_tellWorth_14 : decode cX7_tellWorth 14 = .ok (.ishl, 1) := by decide +kernel
theorem dX7_tellWorth_15 : decode cX7_tellWorth 15 = .ok (.ior, 1) := by decide +kernel
theorem dX7_tellWorth_16 : decode cX7_tellWorth 16 = .ok (.putfield 45, 3) := by decide +kernel
theorem dX7_tellWorth_19 : decode cX7_tellWorth 19 = .ok (.return_, 1) := by decide +kernel
theorem dX7_addPerson_0 : decode cX7_addPerson 0 = .ok (.aload_n 0, 1) := by decide +kernel
theorem dX7_addPerson_1 : decode cX7_addPerson 1 = .ok (.getfield 41, 3) := by decide +kernel
theorem dX7_addPerson_4 : decode cX7_addPerson 4 = .ok (.bipush 8, 2) := by decide +kernel
theorem dX7_addPerson_6 : decode cX7_addPerson 6 = .ok (.if_icmp .lt 4, 3) := by decide +kernel
theorem dX7_addPerson_9 : decode cX7_addPerson 9 = .ok (.return_, 1) := by decide +kernel
theorem dX7_addPerson_10 : decode cX7_addPerson 10 = .ok (.aload_n 0, 1) := by decide +kernel
theorem dX7_addPerson_11 : decode cX7_addPerson 11 = .ok (.getfield 32, 3) := by decide +kernel
theorem dX7_addPerson_14 : decode cX7_addPerson 14 = .ok (.aload_n 0, 1) := by decide +kernel
theorem dX7_addPerson_15 : decode cX7_addPerson 15 = .ok (.getfield 41, 3) := by decide +kernel
theorem dX7_addPerson_18 : decode cX7_addPerson 18 = .ok (.iload_n 1, 1) := by decide +kernel
theorem dX7_addPerson_19 : decode cX7_addPerson 19 = .ok (.iastore, 1) := by decide +kernel
theorem dX7_addPerson_20 : decode cX7_addPerson 20 = .ok (.aload_n 0, 1) := by decide +kernel
theorem dX7_addPerson_21 : decode cX7_addPerson 21 = .ok (.getfield 35, 3) := by decide +kernel
theorem dX7_addPerson_24 : decode cX7_addPerson 24 = .ok (.aload_n 0, 1) := by decide +kernel
theorem dX7_addPerson_25 : decode cX7_addPerson 25 = .ok (.getfield 41, 3) := by decide +kernel
theorem dX7_addPerson_28 : decode cX7_addPerson 28 = .ok (.iload_n 2, 1) := by decide +kernel
theorem dX7_addPerson_29 : decode cX7_addPerson 29 = .ok (.iastore, 1) := by decide +kernel
theorem dX7_addPerson_30 : decode cX7_addPerson 30 = .ok (.aload_n 0, 1) := by decide +kernel
theorem dX7_addPerson_31 : decode cX7_addPerson 31 = .ok (.getfield 29, 3) := by decide +kernel
theorem dX7_addPerson_34 : decode cX7_addPerson 34 = .ok (.aload_n 0, 1) := by decide +kernel
theorem dX7_addPerson_35 : decode cX7_addPerson 35 = .ok (.getfield 41, 3) := by decide +kernel
theorem dX7_addPerson_38 : decode cX7_addPerson 38 = .ok (.iload_n 3, 1) := by decide +kernel
theorem dX7_addPerson_39 : decode cX7_addPerson 39 = .ok (.iastore, 1) := by decide +kernel
theorem dX7_addPerson_40 : decode cX7_addPerson 40 = .ok (.aload_n 0, 1) := by decide +kernel
theorem dX7_addPerson_41 : decode cX7_addPerson 41 = .ok (.getfield 38, 3) := by decide +kernel
theorem dX7_addPerson_44 : decode cX7_addPerson 44 = .ok (.aload_n 0, 1) := by decide +kernel
theorem dX7_addPerson_45 : decode cX7_addPerson 45 = .ok (.getfield 41, 3) := by decide +kernel
theorem dX7_addPerson_48 : decode cX7_addPerson 48 = .ok (.iload 4, 2) := by decide +kernel
theorem dX7_addPerson_50 : decode cX7_addPerson 50 = .ok (.iastore, 1) := by decide +kernel
theorem dX7_addPerson_51 : decode cX7_addPerson 51 = .ok (.aload_n 0, 1) := by decide +kernel
theorem dX7_addPerson_52 : decode cX7_addPerson 52 = .ok (.dup, 1) := by decide +kernel
theorem dX7_addPerson_53 : decode cX7_addPerson 53 = .ok (.getfield 41, 3) := by decide +kernel
theorem dX7_addPerson_56 : decode cX7_addPerson 56 = .ok (.iconst 1, 1) := by decide +kernel
theorem dX7_addPerson_57 : decode cX7_addPerson 57 = .ok (.iadd, 1) := by decide +kernel
theorem dX7_addPerson_58 : decode cX7_addPerson 58 = .ok (.putfield 41, 3) := by decide +kernel
theorem dX7_addPerson_61 : decode cX7_addPerson 61 = .ok (.return_, 1) := by decide +kernel
theorem dX7_worthOf_0 : decode cX7_worthOf 0 = .ok (.iconst 0, 1) := by decide +kernel
theorem dX7_worthOf_1 : decode cX7_worthOf 1 = .ok (.istore_n 2, 1) := by decide +kernel
theorem dX7_worthOf_2 : decode cX7_worthOf 2 = .ok (.iconst 0, 1) := by decide +kernel
theorem dX7_worthOf_3 : decode cX7_worthOf 3 = .ok (.istore_n 3, 1) := by decide +kernel
theorem dX7_worthOf_4 : decode cX7_worthOf 4 = .ok (.iload_n 3, 1) := by decide +kernel
theorem dX7_worthOf_5 : decode cX7_worthOf 5 = .ok (.bipush 10, 2) := by decide +kernel
theorem dX7_worthOf_7 : decode cX7_worthOf 7 = .ok (.if_icmp .ge 26, 3) := by decide +kernel
theorem dX7_worthOf_10 : decode cX7_worthOf 10 = .ok (.iload_n 3, 1) := by decide +kernel
theorem dX7_worthOf_11 : decode cX7_worthOf 11 = .ok (.iload_n 1, 1) := by decide +kernel
theorem dX7_worthOf_12 : decode cX7_worthOf 12 = .ok (.invokestatic 65, 3) := by decide +kernel
theorem dX7_worthOf_15 : decode cX7_worthOf 15 = .ok (.ifCond .eq 12, 3) := by decide +kernel
theorem dX7_worthOf_18 : decode cX7_worthOf 18 = .ok (.iload_n 2, 1) := by decide +kernel
theorem dX7_worthOf_19 : decode cX7_worthOf 19 = .ok (.aload_n 0, 1) := by decide +kernel
theorem dX7_worthOf_20 : decode cX7_worthOf 20 = .ok (.getfield 9, 3) := by decide +kernel
theorem dX7_worthOf_23 : decode cX7_worthOf 23 = .ok (.iload_n 3, 1) := by decide +kernel
theorem dX7_worthOf_24 : decode cX7_worthOf 24 = .ok (.iaload, 1) := by decide +kernel
theorem dX7_worthOf_25 : decode cX7_worthOf 25 = .ok (.iadd, 1) := by decide +kernel
theorem dX7_worthOf_26 : decode cX7_worthOf 26 = .ok (.istore_n 2, 1) := by decide +kernel
theorem dX7_worthOf_27 : decode cX7_worthOf 27 = .ok (.iinc 3 1, 3) := by decide +kernel
theorem dX7_worthOf_30 : decode cX7_worthOf 30 = .ok (.goto (-26), 3) := by decide +kernel
theorem dX7_worthOf_33 : decode cX7_worthOf 33 = .ok (.iload_n 2, 1) := by decide +kernel
theorem dX7_worthOf_34 : decode cX7_worthOf 34 = .ok (.ireturn, 1) := by decide +kernel
theorem dX7_thereOf_0 : decode cX7_thereOf 0 = .ok (.aload_n 0, 1) := by decide +kernel
theorem dX7_thereOf_1 : decode cX7_thereOf 1 = .ok (.getfield 18, 3) := by decide +kernel
theorem dX7_thereOf_4 : decode cX7_thereOf 4 = .ok (.aload_n 1, 1) := by decide +kernel
theorem dX7_thereOf_5 : decode cX7_thereOf 5 = .ok (.getfield 69, 3) := by decide +kernel
theorem dX7_thereOf_8 : decode cX7_thereOf 8 = .ok (.iload_n 2, 1) := by decide +kernel
theorem dX7_thereOf_9 : decode cX7_thereOf 9 = .ok (.iaload, 1) := by decide +kernel
theorem dX7_thereOf_10 : decode cX7_thereOf 10 = .ok (.iconst 1, 1) := by decide +kernel
theorem dX7_thereOf_11 : decode cX7_thereOf 11 = .ok (.aload_n 1, 1) := by decide +kernel
theorem dX7_thereOf_12 : decode cX7_thereOf 12 = .ok (.getfield 74, 3) := by decide +kernel
theorem dX7_thereOf_15 : decode cX7_thereOf 15 = .ok (.iload_n 2, 1) := by decide +kernel
theorem dX7_thereOf_16 : decode cX7_thereOf 16 = .ok (.iaload, 1) := by decide +kernel
theorem dX7_thereOf_17 : decode cX7_thereOf 17 = .ok (.ishl, 1) := by decide +kernel
theorem dX7_thereOf_18 : decode cX7_thereOf 18 = .ok (.ior, 1) := by decide +kernel
theorem dX7_thereOf_19 : decode cX7_thereOf 19 = .ok (.aload_n 1, 1) := by decide +kernel
theorem dX7_thereOf_20 : decode cX7_thereOf 20 = .ok (.getfield 77, 3) := by decide +kernel
theorem dX7_thereOf_23 : decode cX7_thereOf 23 = .ok (.invokevirtual 80, 3) := by decide +kernel
theorem dX7_thereOf_26 : decode cX7_thereOf 26 = .ok (.ireturn, 1) := by decide +kernel
theorem dX7_sparedBankOf_0 : decode cX7_sparedBankOf 0 = .ok (.aload_n 0, 1) := by decide +kernel
theorem dX7_sparedBankOf_1 : decode cX7_sparedBankOf 1 = .ok (.getfield 18, 3) := by decide +kernel
theorem dX7_sparedBankOf_4 : decode cX7_sparedBankOf 4 = .ok (.aload_n 1, 1) := by decide +kernel
theorem dX7_sparedBankOf_5 : decode cX7_sparedBankOf 5 = .ok (.getfield 69, 3) := by decide +kernel
theorem dX7_sparedBankOf_8 : decode cX7_sparedBankOf 8 = .ok (.iload_n 2, 1) := by decide +kernel
theorem dX7_sparedBankOf_9 : decode cX7_sparedBankOf 9 = .ok (.iaload, 1) := by decide +kernel
theorem dX7_sparedBankOf_10 : decode cX7_sparedBankOf 10 = .ok (.iconst 1, 1) := by decide +kernel
theorem dX7_sparedBankOf_11 : decode cX7_sparedBankOf 11 = .ok (.aload_n 0, 1) := by decide +kernel
theorem dX7_sparedBankOf_12 : decode cX7_sparedBankOf 12 = .ok (.getfield 29, 3) := by decide +kernel
theorem dX7_sparedBankOf_15 : decode cX7_sparedBankOf 15 = .ok (.iload_n 2, 1) := by decide +kernel
theorem dX7_sparedBankOf_16 : decode cX7_sparedBankOf 16 = .ok (.iaload, 1) := by decide +kernel
theorem dX7_sparedBankOf_17 : decode cX7_sparedBankOf 17 = .ok (.ishl, 1) := by decide +kernel
theorem dX7_sparedBankOf_18 : decode cX7_sparedBankOf 18 = .ok (.iconst (-1), 1) := by decide +kernel
theorem dX7_sparedBankOf_19 : decode cX7_sparedBankOf 19 = .ok (.ixor, 1) := by decide +kernel
theorem dX7_sparedBankOf_20 : decode cX7_sparedBankOf 20 = .ok (.iand, 1) := by decide +kernel
theorem dX7_sparedBankOf_21 : decode cX7_sparedBankOf 21 = .ok (.aload_n 1, 1) := by decide +kernel
theorem dX7_sparedBankOf_22 : decode cX7_sparedBankOf 22 = .ok (.getfield 77, 3) := by decide +kernel
theorem dX7_sparedBankOf_25 : decode cX7_sparedBankOf 25 = .ok (.invokevirtual 80, 3) := by decide +kernel
theorem dX7_sparedBankOf_28 : decode cX7_sparedBankOf 28 = .ok (.ireturn, 1) := by decide +kernel
theorem dX8_init_0 : decode cX8_init 0 = .ok (.aload_n 0, 1) := by decide +kernel
theorem dX8_init_1 : decode cX8_init 1 = .ok (.invokespecial 3, 3) := by decide +kernel
theorem dX8_init_4 : decode cX8_init 4 = .ok (.aload_n 0, 1) := by decide +kernel
theorem dX8_init_5 : decode cX8_init 5 = .ok (.bipush 8, 2) := by decide +kernel
theorem dX8_init_7 : decode cX8_init 7 = .ok (.newarray .int, 2) := by decide +kernel
theorem dX8_init_9 : decode cX8_init 9 = .ok (.putfield 9, 3) := by decide +kernel
theorem dX8_init_12 : decode cX8_init 12 = .ok (.aload_n 0, 1) := by decide +kernel
theorem dX8_init_13 : decode cX8_init 13 = .ok (.bipush 8, 2) := by decide +kernel
theorem dX8_init_15 : decode cX8_init 15 = .ok (.newarray .int, 2) := by decide +kernel
theorem dX8_init_17 : decode cX8_init 17 = .ok (.putfield 15, 3) := by decide +kernel
theorem dX8_init_20 : decode cX8_init 20 = .ok (.aload_n 0, 1) := by decide +kernel
theorem dX8_init_21 : decode cX8_init 21 = .ok (.bipush 8, 2) := by decide +kernel
theorem dX8_init_23 : decode cX8_init 23 = .ok (.newarray .int, 2) := by decide +kernel
theorem dX8_init_25 : decode cX8_init 25 = .ok (.putfield 18, 3) := by decide +kernel
theorem dX8_init_28 : decode cX8_init 28 = .ok (.aload_n 0, 1) := by decide +kernel
theorem dX8_init_29 : decode cX8_init 29 = .ok (.bipush 8, 2) := by decide +kernel
theorem dX8_init_31 : decode cX8_init 31 = .ok (.newarray .int, 2) := by decide +kernel
theorem dX8_init_33 : decode cX8_init 33 = .ok (.putfield 21, 3) := by decide +kernel
theorem dX8_init_36 : decode cX8_init 36 = .ok (.aload_n 0, 1) := by decide +kernel
theorem dX8_init_37 : decode cX8_init 37 = .ok (.iconst 0, 1) := by decide +kernel
theorem dX8_init_38 : decode cX8_init 38 = .ok (.putfield 24, 3) := by decide +kernel
theorem dX8_init_41 : decode cX8_init 41 = .ok (.aload_n 0, 1) := by decide +kernel
theorem dX8_init_42 : decode cX8_init 42 = .ok (.iconst 4, 1) := by decide +kernel
theorem dX8_init_43 : decode cX8_init 43 = .ok (.putfield 28, 3) := by decide +kernel
theorem dX8_init_46 : decode cX8_init 46 = .ok (.aload_n 0, 1) := by decide +kernel
theorem dX8_init_47 : decode cX8_init 47 = .ok (.iconst 0, 1) := by decide +kernel
theorem dX8_init_48 : decode cX8_init 48 = .ok (.putfield 31, 3) := by decide +kernel
theorem dX8_init_51 : decode cX8_init 51 = .ok (.aload_n 0, 1) := by decide +kernel
theorem dX8_init_52 : decode cX8_init 52 = .ok (.iconst 0, 1) := by decide +kernel
theorem dX8_init_53 : decode cX8_init 53 = .ok (.putfield 34, 3) := by decide +kernel
theorem dX8_init_56 : decode cX8_init 56 = .ok (.return_, 1) := by decide +kernel
theorem dX8_startFrom_0 : decode cX8_startFrom 0 = .ok (.aload_n 1, 1) := by decide +kernel
theorem dX8_startFrom_1 : decode cX8_startFrom 1 = .ok (.getfield 37, 3) := by decide +kernel
theorem dX8_startFrom_4 : decode cX8_startFrom 4 = .ok (.iconst 0, 1) := by decide +kernel
theorem dX8_startFrom_5 : decode cX8_startFrom 5 = .ok (.aload_n 0, 1) := by decide +kernel
theorem dX8_startFrom_6 : decode cX8_startFrom 6 = .ok (.getfield 9, 3) := by decide +kernel
theorem dX8_startFrom_9 : decode cX8_startFrom 9 = .ok (.iconst 0, 1) := by decide +kernel
theorem dX8_startFrom_10 : decode cX8_startFrom 10 = .ok (.bipush 8, 2) := by decide +kernel
theorem dX8_startFrom_12 : decode cX8_startFrom 12 = .ok (.invokestatic 42, 3) := by decide +kernel
theorem dX8_startFrom_15 : decode cX8_startFrom 15 = .ok (.aload_n 1, 1) := by decide +kernel
theorem dX8_startFrom_16 : decode cX8_startFrom 16 = .ok (.getfield 48, 3) := by decide +kernel
theorem dX8_startFrom_19 : decode cX8_startFrom 19 = .ok (.iconst 0, 1) := by decide +kernel
theorem dX8_startFrom_20 : decode cX8_startFrom 20 = .ok (.aload_n 0, 1) := by decide +kernel
theorem dX8_startFrom_21 : decode cX8_startFrom 21 = .ok (.getfield 15, 3) := by decide +kernel
theorem dX8_startFrom_24 : decode cX8_startFrom 24 = .ok (.iconst 0, 1) := by decide +kernel
theorem dX8_startFrom_25 : decode cX8_startFrom 25 = .ok (.bipush 8, 2) := by decide +kernel
theorem dX8_startFrom_27 : decode cX8_startFrom 27 = .ok (.invokestatic 42, 3) := by decide +kernel
theorem dX8_startFrom_30 : decode cX8_startFrom 30 = .ok (.aload_n 1, 1) := by decide +kernel
theorem dX8_startFrom_31 : decode cX8_startFrom 31 = .ok (.getfield 51, 3) := by decide +kernel
theorem dX8_startFrom_34 : decode cX8_startFrom 34 = .ok (.iconst 0, 1) := by decide +kernel
theorem dX8_startFrom_35 : decode cX8_startFrom 35 = .ok (.aload_n 0, 1) := by decide +kernel
theorem dX8_startFrom_36 : decode cX8_startFrom 36 = .ok (.getfield 18, 3) := by decide +kernel
theorem dX8_startFrom_39 : decode cX8_startFrom 39 = .ok (.iconst 0, 1) := by decide +kernel
theorem dX8_startFrom_40 : decode cX8_startFrom 40 = .ok (.bipush 8, 2) := by decide +kernel
theorem dX8_startFrom_42 : decode cX8_startFrom 42 = .ok (.invokestatic 42, 3) := by decide +kernel
theorem dX8_startFrom_45 : decode cX8_startFrom 45 = .ok (.aload_n 0, 1) := by decide +kernel
theorem dX8_startFrom_46 : decode cX8_startFrom 46 = .ok (.getfield 21, 3) := by decide +kernel
theorem dX8_startFrom_49 : decode cX8_startFrom 49 = .ok (.iconst 0, 1) := by decide +kernel
theorem dX8_startFrom_50 : decode cX8_startFrom 50 = .ok (.invokestatic 54, 3) := by decide +kernel
theorem dX8_startFrom_53 : decode cX8_startFrom 53 = .ok (.aload_n 0, 1) := by decide +kernel
theorem dX8_startFrom_54 : decode cX8_startFrom 54 = .ok (.iconst 0, 1) := by decide +kernel
theorem dX8_startFrom_55 : decode cX8_startFrom 55 = .ok (.putfield 24, 3) := by decide +kernel
theorem dX8_startFrom_58 : decode cX8_startFrom 58 = .ok (.aload_n 0, 1) := by decide +kernel
theorem dX8_startFrom_59 : decode cX8_startFrom 59 = .ok (.aload_n 1, 1) := by decide +kernel
theorem dX8_startFrom_60 : decode cX8_startFrom 60 = .ok (.getfield 60, 3) := by decide +kernel
theorem dX8_startFrom_63 : decode cX8_startFrom 63 = .ok (.putfield 28, 3) := by decide +kernel
theorem dX8_startFrom_66 : decode cX8_startFrom 66 = .ok (.aload_n 0, 1) := by decide +kernel
theorem dX8_startFrom_67 : decode cX8_startFrom 67 = .ok (.iconst 0, 1) := by decide +kernel
theorem dX8_startFrom_68 : decode cX8_startFrom 68 = .ok (.putfield 31, 3) := by decide +kernel
theorem dX8_startFrom_71 : decode cX8_startFrom 71 = .ok (.aload_n 0, 1) := by decide +kernel
theorem dX8_startFrom_72 : decode cX8_startFrom 72 = .ok (.iconst 0, 1) := by decide +kernel
theorem dX8_startFrom_73 : decode cX8_startFrom 73 = .ok (.putfield 34, 3) := by decide +kernel
theorem dX8_startFrom_76 : decode cX8_startFrom 76 = .ok (.return_, 1) := by decide +kernel
theorem dX8_copyFrom_0 : decode cX8_copyFrom 0 = .ok (.aload_n 1, 1) := by decide +kernel
theorem dX8_copyFrom_1 : decode cX8_copyFrom 1 = .ok (.getfield 9, 3) := by decide +kernel
theorem dX8_copyFrom_4 : decode cX8_copyFrom 4 = .ok (.iconst 0, 1) := by decide +kernel
theorem dX8_copyFrom_5 : decode cX8_copyFrom 5 = .ok (.aload_n 0, 1) := by decide +kernel
theorem dX8_copyFrom_6 : decode cX8_copyFrom 6 = .ok (.getfield 9, 3) := by decide +kernel
theorem dX8_copyFrom_9 : decode cX8_copyFrom 9 = .ok (.iconst 0, 1) := by decide +kernel
theorem dX8_copyFrom_10 : decode cX8_copyFrom 10 = .ok (.bipush 8, 2) := by decide +kernel
theorem dX8_copyFrom_12 : decode cX8_copyFrom 12 = .ok (.invokestatic 42, 3) := by decide +kernel
theorem dX8_copyFrom_15 : decode cX8_copyFrom 15 = .ok (.aload_n 1, 1) := by decide +kernel
theorem dX8_copyFrom_16 : decode cX8_copyFrom 16 = .ok (.getfield 15, 3) := by decide +kernel
theorem dX8_copyFrom_19 : decode cX8_copyFrom 19 = .ok (.iconst 0, 1) := by decide +kernel
theorem dX8_copyFrom_20 : decode cX8_copyFrom 20 = .ok (.aload_n 0, 1) := by decide +kernel
theorem dX8_copyFrom_21 : decode cX8_copyFrom 21 = .ok (.getfield 15, 3) := by decide +kernel
theorem dX8_copyFrom_24 : decode cX8_copyFrom 24 = .ok (.iconst 0, 1) := by decide +kernel
theorem dX8_copyFrom_25 : decode cX8_copyFrom 25 = .ok (.bipush 8, 2) := by decide +kernel
theorem dX8_copyFrom_27 : decode cX8_copyFrom 27 = .ok (.invokestatic 42, 3) := by decide +kernel
theorem dX8_copyFrom_30 : decode cX8_copyFrom 30 = .ok (.aload_n 1, 1) := by decide +kernel
theorem dX8_copyFrom_31 : decode cX8_copyFrom 31 = .ok (.getfield 18, 3) := by decide +kernel
theorem dX8_copyFrom_34 : decode cX8_copyFrom 34 = .ok (.iconst 0, 1) := by decide +kernel
theorem dX8_copyFrom_35 : decode cX8_copyFrom 35 = .ok (.aload_n 0, 1) := by decide +kernel
theorem dX8_copyFrom_36 : decode cX8_copyFrom 36 = .ok (.getfield 18, 3) := by decide +kernel
theorem dX8_copyFrom_39 : decode cX8_copyFrom 39 = .ok (.iconst 0, 1) := by decide +kernel
theorem dX8_copyFrom_40 : decode cX8_copyFrom 40 = .ok (.bipush 8, 2) := by decide +kernel
theorem dX8_copyFrom_42 : decode cX8_copyFrom 42 = .ok (.invokestatic 42, 3) := by decide +kernel
theorem dX8_copyFrom_45 : decode cX8_copyFrom 45 = .ok (.aload_n 1, 1) := by decide +kernel
theorem dX8_copyFrom_46 : decode cX8_copyFrom 46 = .ok (.getfield 21, 3) := by decide +kernel
theorem dX8_copyFrom_49 : decode cX8_copyFrom 49 = .ok (.iconst 0, 1) := by decide +kernel
theorem dX8_copyFrom_50 : decode cX8_copyFrom 50 = .ok (.aload_n 0, 1) := by decide +kernel
theorem dX8_copyFrom_51 : decode cX8_copyFrom 51 = .ok (.getfield 21, 3) := by decide +kernel
theorem dX8_copyFrom_54 : decode cX8_copyFrom 54 = .ok (.iconst 0, 1) := by decide +kernel
theorem dX8_copyFrom_55 : decode cX8_copyFrom 55 = .ok (.bipush 8, 2) := by decide +kernel
theorem dX8_copyFrom_57 : decode cX8_copyFrom 57 = .ok (.invokestatic 42, 3) := by decide +kernel
theorem dX8_copyFrom_60 : decode cX8_copyFrom 60 = .ok (.aload_n 0, 1) := by decide +kernel
theorem dX8_copyFrom_61 : decode cX8_copyFrom 61 = .ok (.aload_n 1, 1) := by decide +kernel
theorem dX8_copyFrom_62 : decode cX8_copyFrom 62 = .ok (.getfield 24, 3) := by decide +kernel
theorem dX8_copyFrom_65 : decode cX8_copyFrom 65 = .ok (.putfield 24, 3) := by decide +kernel
theorem dX8_copyFrom_68 : decode cX8_copyFrom 68 = .ok (.aload_n 0, 1) := by decide +kernel
theorem dX8_copyFrom_69 : decode cX8_copyFrom 69 = .ok (.aload_n 1, 1) := by decide +kernel
theorem dX8_copyFrom_70 : decode cX8_copyFrom 70 = .ok (.getfield 28, 3) := by decide +kernel
theorem dX8_copyFrom_73 : decode cX8_copyFrom 73 = .ok (.putfield 28, 3) := by decide +kernel
theorem dX8_copyFrom_76 : decode cX8_copyFrom 76 = .ok (.aload_n 0, 1) := by decide +kernel
theorem dX8_copyFrom_77 : decode cX8_copyFrom 77 = .ok (.aload_n 1, 1) := by decide +kernel
theorem dX8_copyFrom_78 : decode cX8_copyFrom 78 = .ok (.getfield 31, 3) := by decide +kernel
theorem dX8_copyFrom_81 : decode cX8_copyFrom 81 = .ok (.putfield 31, 3) := by decide +kernel
theorem dX8_copyFrom_84 : decode cX8_copyFrom 84 = .ok (.aload_n 0, 1) := by decide +kernel
theorem dX8_copyFrom_85 : decode cX8_copyFrom 85 = .ok (.aload_n 1, 1) := by decide +kernel
theorem dX8_copyFrom_86 : decode cX8_copyFrom 86 = .ok (.getfield 34, 3) := by decide +kernel
theorem dX8_copyFrom_89 : decode cX8_copyFrom 89 = .ok (.putfield 34, 3) := by decide +kernel
theorem dX8_copyFrom_92 : decode cX8_copyFrom 92 = .ok (.return_, 1) := by decide +kernel
theorem dX8_writeTo_0 : decode cX8_writeTo 0 = .ok (.iload_n 2, 1) := by decide +kernel
theorem dX8_writeTo_1 : decode cX8_writeTo 1 = .ok (.ifCond .lt 12, 3) := by decide +kernel
theorem dX8_writeTo_4 : decode cX8_writeTo 4 = .ok (.iload_n 2, 1) := by decide +kernel
theorem dX8_writeTo_5 : decode cX8_writeTo 5 = .ok (.aload_n 1, 1) := by decide +kernel
theorem dX8_writeTo_6 : decode cX8_writeTo 6 = .ok (.arraylength, 1) := by decide +kernel
theorem dX8_writeTo_7 : decode cX8_writeTo 7 = .ok (.bipush 36, 2) := by decide +kernel
theorem dX8_writeTo_9 : decode cX8_writeTo 9 = .ok (.isub, 1) := by decide +kernel
theorem dX8_writeTo_10 : decode cX8_writeTo 10 = .ok (.if_icmp .le 4, 3) := by decide +kernel
theorem dX8_writeTo_13 : decode cX8_writeTo 13 = .ok (.return_, 1) := by decide +kernel
theorem dX8_writeTo_14 : decode cX8_writeTo 14 = .ok (.aload_n 0, 1) := by decide +kernel
theorem dX8_writeTo_15 : decode cX8_writeTo 15 = .ok (.getfield 9, 3) := by decide +kernel
theorem dX8_writeTo_18 : decode cX8_writeTo 18 = .ok (.iconst 0, 1) := by decide +kernel
theorem dX8_writeTo_19 : decode cX8_writeTo 19 = .ok (.aload_n 1, 1) := by decide +kernel
theorem dX8_writeTo_20 : decode cX8_writeTo 20 = .ok (.iload_n 2, 1) := by decide +kernel
theorem dX8_writeTo_21 : decode cX8_writeTo 21 = .ok (.bipush 8, 2) := by decide +kernel
theorem dX8_writeTo_23 : decode cX8_writeTo 23 = .ok (.invokestatic 42, 3) := by decide +kernel
theorem dX8_writeTo_26 : decode cX8_writeTo 26 = .ok (.aload_n 0, 1) := by decide +kernel
theorem dX8_writeTo_27 : decode cX8_writeTo 27 = .ok (.getfield 15, 3) := by decide +kernel
theorem dX8_writeTo_30 : decode cX8_writeTo 30 = .ok (.iconst 0, 1) := by decide +kernel
theorem dX8_writeTo_31 : decode cX8_writeTo 31 = .ok (.aload_n 1, 1) := by decide +kernel
theorem dX8_writeTo_32 : decode cX8_writeTo 32 = .ok (.iload_n 2, 1) := by decide +kernel
theorem dX8_writeTo_33 : decode cX8_writeTo 33 = .ok (.bipush 8, 2) := by decide +kernel
theorem dX8_writeTo_35 : decode cX8_writeTo 35 = .ok (.iadd, 1) := by decide +kernel
theorem dX8_writeTo_36 : decode cX8_writeTo 36 = .ok (.bipush 8, 2) := by decide +kernel
theorem dX8_writeTo_38 : decode cX8_writeTo 38 = .ok (.invokestatic 42, 3) := by decide +kernel
theorem dX8_writeTo_41 : decode cX8_writeTo 41 = .ok (.aload_n 0, 1) := by decide +kernel
theorem dX8_writeTo_42 : decode cX8_writeTo 42 = .ok (.getfield 18, 3) := by decide +kernel
theorem dX8_writeTo_45 : decode cX8_writeTo 45 = .ok (.iconst 0, 1) := by decide +kernel
theorem dX8_writeTo_46 : decode cX8_writeTo 46 = .ok (.aload_n 1, 1) := by decide +kernel
theorem dX8_writeTo_47 : decode cX8_writeTo 47 = .ok (.iload_n 2, 1) := by decide +kernel
theorem dX8_writeTo_48 : decode cX8_writeTo 48 = .ok (.bipush 16, 2) := by decide +kernel
theorem dX8_writeTo_50 : decode cX8_writeTo 50 = .ok (.iadd, 1) := by decide +kernel
theorem dX8_writeTo_51 : decode cX8_writeTo 51 = .ok (.bipush 8, 2) := by decide +kernel
theorem dX8_writeTo_53 : decode cX8_writeTo 53 = .ok (.invokestatic 42, 3) := by decide +kernel
theorem dX8_writeTo_56 : decode cX8_writeTo 56 = .ok (.aload_n 0, 1) := by decide +kernel
theorem dX8_writeTo_57 : decode cX8_writeTo 57 = .ok (.getfield 21, 3) := by decide +kernel
theorem dX8_writeTo_60 : decode cX8_writeTo 60 = .ok (.iconst 0, 1) := by decide +kernel
theorem dX8_writeTo_61 : decode cX8_writeTo 61 = .ok (.aload_n 1, 1) := by decide +kernel
theorem dX8_writeTo_62 : decode cX8_writeTo 62 = .ok (.iload_n 2, 1) := by decide +kernel
theorem dX8_writeTo_63 : decode cX8_writeTo 63 = .ok (.bipush 24, 2) := by decide +kernel
theorem dX8_writeTo_65 : decode cX8_writeTo 65 = .ok (.iadd, 1) := by decide +kernel
theorem dX8_writeTo_66 : decode cX8_writeTo 66 = .ok (.bipush 8, 2) := by decide +kernel
theorem dX8_writeTo_68 : decode cX8_writeTo 68 = .ok (.invokestatic 42, 3) := by decide +kernel
theorem dX8_writeTo_71 : decode cX8_writeTo 71 = .ok (.aload_n 1, 1) := by decide +kernel
theorem dX8_writeTo_72 : decode cX8_writeTo 72 = .ok (.iload_n 2, 1) := by decide +kernel
theorem dX8_writeTo_73 : decode cX8_writeTo 73 = .ok (.bipush 36, 2) := by decide +kernel
theorem dX8_writeTo_75 : decode cX8_writeTo 75 = .ok (.iadd, 1) := by decide +kernel
theorem dX8_writeTo_76 : decode cX8_writeTo 76 = .ok (.iconst 4, 1) := by decide +kernel
theorem dX8_writeTo_77 : decode cX8_writeTo 77 = .ok (.isub, 1) := by decide +kernel
theorem dX8_writeTo_78 : decode cX8_writeTo 78 = .ok (.aload_n 0, 1) := by decide +kernel
theorem dX8_writeTo_79 : decode cX8_writeTo 79 = .ok (.getfield 24, 3) := by decide +kernel
theorem dX8_writeTo_82 : decode cX8_writeTo 82 = .ok (.iastore, 1) := by decide +kernel
theorem dX8_writeTo_83 : decode cX8_writeTo 83 = .ok (.aload_n 1, 1) := by decide +kernel
theorem dX8_writeTo_84 : decode cX8_writeTo 84 = .ok (.iload_n 2, 1) := by decide +kernel
theorem dX8_writeTo_85 : decode cX8_writeTo 85 = .ok (.bipush 36, 2) := by decide +kernel
theorem dX8_writeTo_87 : decode cX8_writeTo 87 = .ok (.iadd, 1) := by decide +kernel
theorem dX8_writeTo_88 : decode cX8_writeTo 88 = .ok (.iconst 3, 1) := by decide +kernel
theorem dX8_writeTo_89 : decode cX8_writeTo 89 = .ok (.isub, 1) := by decide +kernel
theorem dX8_writeTo_90 : decode cX8_writeTo 90 = .ok (.aload_n 0, 1) := by decide +kernel
theorem dX8_writeTo_91 : decode cX8_writeTo 91 = .ok (.getfield 28, 3) := by decide +kernel
theorem dX8_writeTo_94 : decode cX8_writeTo 94 = .ok (.iastore, 1) := by decide +kernel
theorem dX8_writeTo_95 : decode cX8_writeTo 95 = .ok (.aload_n 1, 1) := by decide +kernel
theorem dX8_writeTo_96 : decode cX8_writeTo 96 = .ok (.iload_n 2, 1) := by decide +kernel
theorem dX8_writeTo_97 : decode cX8_writeTo 97 = .ok (.bipush 36, 2) := by decide +kernel
theorem dX8_writeTo_99 : decode cX8_writeTo 99 = .ok (.iadd, 1) := by decide +kernel
theorem dX8_writeTo_100 : decode cX8_writeTo 100 = .ok (.iconst 2, 1) := by decide +kernel
theorem dX8_writeTo_101 : decode cX8_writeTo 101 = .ok (.isub, 1) := by decide +kernel
theorem dX8_writeTo_102 : decode cX8_writeTo 102 = .ok (.aload_n 0, 1) := by decide +kernel
theorem dX8_writeTo_103 : decode cX8_writeTo 103 = .ok (.getfield 31, 3) := by decide +kernel
theorem dX8_writeTo_106 : decode cX8_writeTo 106 = .ok (.iastore, 1) := by decide +kernel
theorem dX8_writeTo_107 : decode cX8_writeTo 107 = .ok (.aload_n 1, 1) := by decide +kernel
theorem dX8_writeTo_108 : decode cX8_writeTo 108 = .ok (.iload_n 2, 1) := by decide +kernel
theorem dX8_writeTo_109 : decode cX8_writeTo 109 = .ok (.bipush 36, 2) := by decide +kernel
theorem dX8_writeTo_111 : decode cX8_writeTo 111 = .ok (.iadd, 1) := by decide +kernel
theorem dX8_writeTo_112 : decode cX8_writeTo 112 = .ok (.iconst 1, 1) := by decide +kernel
theorem dX8_writeTo_113 : decode cX8_writeTo 113 = .ok (.isub, 1) := by decide +kernel
theorem dX8_writeTo_114 : decode cX8_writeTo 114 = .ok (.aload_n 0, 1) := by decide +kernel
theorem dX8_writeTo_115 : decode cX8_writeTo 115 = .ok (.getfield 34, 3) := by decide +kernel
theorem dX8_writeTo_118 : decode cX8_writeTo 118 = .ok (.iastore, 1) := by decide +kernel
theorem dX8_writeTo_119 : decode cX8_writeTo 119 = .ok (.return_, 1) := by decide +kernel
theorem dX8_readFrom_0 : decode cX8_readFrom 0 = .ok (.iload_n 2, 1) := by decide +kernel
theorem dX8_readFrom_1 : decode cX8_readFrom 1 = .ok (.ifCond .lt 12, 3) := by decide +kernel
theorem dX8_readFrom_4 : decode cX8_readFrom 4 = .ok (.iload_n 2, 1) := by decide +kernel
theorem dX8_readFrom_5 : decode cX8_readFrom 5 = .ok (.aload_n 1, 1) := by decide +kernel
theorem dX8_readFrom_6 : decode cX8_readFrom 6 = .ok (.arraylength, 1) := by decide +kernel
theorem dX8_readFrom_7 : decode cX8_readFrom 7 = .ok (.bipush 36, 2) := by decide +kernel
theorem dX8_readFrom_9 : decode cX8_readFrom 9 = .ok (.isub, 1) := by decide +kernel
theorem dX8_readFrom_10 : decode cX8_readFrom 10 = .ok (.if_icmp .le 4, 3) := by decide +kernel
theorem dX8_readFrom_13 : decode cX8_readFrom 13 = .ok (.return_, 1) := by decide +kernel
theorem dX8_readFrom_14 : decode cX8_readFrom 14 = .ok (.aload_n 1, 1) := by decide +kernel
theorem dX8_readFrom_15 : decode cX8_readFrom 15 = .ok (.iload_n 2, 1) := by decide +kernel
theorem dX8_readFrom_16 : decode cX8_readFrom 16 = .ok (.aload_n 0, 1) := by decide +kernel
theorem dX8_readFrom_17 : decode cX8_readFrom 17 = .ok (.getfield 9, 3) := by decide +kernel
theorem dX8_readFrom_20 : decode cX8_readFrom 20 = .ok (.iconst 0, 1) := by decide +kernel
theorem dX8_readFrom_21 : decode cX8_readFrom 21 = .ok (.bipush 8, 2) := by decide +kernel
theorem dX8_readFrom_23 : decode cX8_readFrom 23 = .ok (.invokestatic 42, 3) := by decide +kernel
theorem dX8_readFrom_26 : decode cX8_readFrom 26 = .ok (.aload_n 1, 1) := by decide +kernel
theorem dX8_readFrom_27 : decode cX8_readFrom 27 = .ok (.iload_n 2, 1) := by decide +kernel
theorem dX8_readFrom_28 : decode cX8_readFrom 28 = .ok (.bipush 8, 2) := by decide +kernel
theorem dX8_readFrom_30 : decode cX8_readFrom 30 = .ok (.iadd, 1) := by decide +kernel
theorem dX8_readFrom_31 : decode cX8_readFrom 31 = .ok (.aload_n 0, 1) := by decide +kernel
theorem dX8_readFrom_32 : decode cX8_readFrom 32 = .ok (.getfield 15, 3) := by decide +kernel
theorem dX8_readFrom_35 : decode cX8_readFrom 35 = .ok (.iconst 0, 1) := by decide +kernel
theorem dX8_readFrom_36 : decode cX8_readFrom 36 = .ok (.bipush 8, 2) := by decide +kernel
theorem dX8_readFrom_38 : decode cX8_readFrom 38 = .ok (.invokestatic 42, 3) := by decide +kernel
theorem dX8_readFrom_41 : decode cX8_readFrom 41 = .ok (.aload_n 1, 1) := by decide +kernel
theorem dX8_readFrom_42 : decode cX8_readFrom 42 = .ok (.iload_n 2, 1) := by decide +kernel
theorem dX8_readFrom_43 : decode cX8_readFrom 43 = .ok (.bipush 16, 2) := by decide +kernel
theorem dX8_readFrom_45 : decode cX8_readFrom 45 = .ok (.iadd, 1) := by decide +kernel
theorem dX8_readFrom_46 : decode cX8_readFrom 46 = .ok (.aload_n 0, 1) := by decide +kernel
theorem dX8_readFrom_47 : decode cX8_readFrom 47 = .ok (.getfield 18, 3) := by decide +kernel
theorem dX8_readFrom_50 : decode cX8_readFrom 50 = .ok (.iconst 0, 1) := by decide +kernel
theorem dX8_readFrom_51 : decode cX8_readFrom 51 = .ok (.bipush 8, 2) := by decide +kernel
theorem dX8_readFrom_53 : decode cX8_readFrom 53 = .ok (.invokestatic 42, 3) := by decide +kernel
theorem dX8_readFrom_56 : decode cX8_readFrom 56 = .ok (.aload_n 1, 1) := by decide +kernel
theorem dX8_readFrom_57 : decode cX8_readFrom 57 = .ok (.iload_n 2, 1) := by decide +kernel
theorem dX8_readFrom_58 : decode cX8_readFrom 58 = .ok (.bipush 24, 2) := by decide +kernel
theorem dX8_readFrom_60 : decode cX8_readFrom 60 = .ok (.iadd, 1) := by decide +kernel
theorem dX8_readFrom_61 : decode cX8_readFrom 61 = .ok (.aload_n 0, 1) := by decide +kernel
theorem dX8_readFrom_62 : decode cX8_readFrom 62 = .ok (.getfield 21, 3) := by decide +kernel
theorem dX8_readFrom_65 : decode cX8_readFrom 65 = .ok (.iconst 0, 1) := by decide +kernel
theorem dX8_readFrom_66 : decode cX8_readFrom 66 = .ok (.bipush 8, 2) := by decide +kernel
theorem dX8_readFrom_68 : decode cX8_readFrom 68 = .ok (.invokestatic 42, 3) := by decide +kernel
theorem dX8_readFrom_71 : decode cX8_readFrom 71 = .ok (.aload_n 0, 1) := by decide +kernel
theorem dX8_readFrom_72 : decode cX8_readFrom 72 = .ok (.aload_n 1, 1) := by decide +kernel
theorem dX8_readFrom_73 : decode cX8_readFrom 73 = .ok (.iload_n 2, 1) := by decide +kernel
theorem dX8_readFrom_74 : decode cX8_readFrom 74 = .ok (.bipush 36, 2) := by decide +kernel
theorem dX8_readFrom_76 : decode cX8_readFrom 76 = .ok (.iadd, 1) := by decide +kernel
theorem dX8_readFrom_77 : decode cX8_readFrom 77 = .ok (.iconst 4, 1) := by decide +kernel
theorem dX8_readFrom_78 : decode cX8_readFrom 78 = .ok (.isub, 1) := by decide +kernel
theorem dX8_readFrom_79 : decode cX8_readFrom 79 = .ok (.iaload, 1) := by decide +kernel
theorem dX8_readFrom_80 : decode cX8_readFrom 80 = .ok (.putfield 24, 3) := by decide +kernel
theorem dX8_readFrom_83 : decode cX8_readFrom 83 = .ok (.aload_n 0, 1) := by decide +kernel
theorem dX8_readFrom_84 : decode cX8_readFrom 84 = .ok (.aload_n 1, 1) := by decide +kernel
theorem dX8_readFrom_85 : decode cX8_readFrom 85 = .ok (.iload_n 2, 1) := by decide +kernel
theorem dX8_readFrom_86 : decode cX8_readFrom 86 = .ok (.bipush 36, 2) := by decide +kernel
theorem dX8_readFrom_88 : decode cX8_readFrom 88 = .ok (.iadd, 1) := by decide +kernel
theorem dX8_readFrom_89 : decode cX8_readFrom 89 = .ok (.iconst 3, 1) := by decide +kernel
theorem dX8_readFrom_90 : decode cX8_readFrom 90 = .ok (.isub, 1) := by decide +kernel
theorem dX8_readFrom_91 : decode cX8_readFrom 91 = .ok (.iaload, 1) := by decide +kernel
theorem dX8_readFrom_92 : decode cX8_readFrom 92 = .ok (.putfield 28, 3) := by decide +kernel
theorem dX8_readFrom_95 : decode cX8_readFrom 95 = .ok (.aload_n 0, 1) := by decide +kernel
theorem dX8_readFrom_96 : decode cX8_readFrom 96 = .ok (.aload_n 1, 1) := by decide +kernel
theorem dX8_readFrom_97 : decode cX8_readFrom 97 = .ok (.iload_n 2, 1) := by decide +kernel
theorem dX8_readFrom_98 : decode cX8_readFrom 98 = .ok (.bipush 36, 2) := by decide +kernel
theorem dX8_readFrom_100 : decode cX8_readFrom 100 = .ok (.iadd, 1) := by decide +kernel
theorem dX8_readFrom_101 : decode cX8_readFrom 101 = .ok (.iconst 2, 1) := by decide +kernel
theorem dX8_readFrom_102 : decode cX8_readFrom 102 = .ok (.isub, 1) := by decide +kernel
theorem dX8_readFrom_103 : decode cX8_readFrom 103 = .ok (.iaload, 1) := by decide +kernel
theorem dX8_readFrom_104 : decode cX8_readFrom 104 = .ok (.putfield 31, 3) := by decide +kernel
theorem dX8_readFrom_107 : decode cX8_readFrom 107 = .ok (.aload_n 0, 1) := by decide +kernel
theorem dX8_readFrom_108 : decode cX8_readFrom 108 = .ok (.aload_n 1, 1) := by decide +kernel
theorem dX8_readFrom_109 : decode cX8_readFrom 109 = .ok (.iload_n 2, 1) := by decide +kernel
theorem dX8_readFrom_110 : decode cX8_readFrom 110 = .ok (.bipush 36, 2) := by decide +kernel
theorem dX8_readFrom_112 : decode cX8_readFrom 112 = .ok (.iadd, 1) := by decide +kernel
theorem dX8_readFrom_113 : decode cX8_readFrom 113 = .ok (.iconst 1, 1) := by decide +kernel
theorem dX8_readFrom_114 : decode cX8_readFrom 114 = .ok (.isub, 1) := by decide +kernel
theorem dX8_readFrom_115 : decode cX8_readFrom 115 = .ok (.iaload, 1) := by decide +kernel
theorem dX8_readFrom_116 : decode cX8_readFrom 116 = .ok (.putfield 34, 3) := by decide +kernel
theorem dX8_readFrom_119 : decode cX8_readFrom 119 = .ok (.return_, 1) := by decide +kernel
theorem dX9_init_0 : decode cX9_init 0 = .ok (.aload_n 0, 1) := by decide +kernel
theorem dX9_init_1 : decode cX9_init 1 = .ok (.invokespecial 3, 3) := by decide +kernel
theorem dX9_init_4 : decode cX9_init 4 = .ok (.aload_n 0, 1) := by decide +kernel
theorem dX9_init_5 : decode cX9_init 5 = .ok (.sipush 700, 3) := by decide +kernel
theorem dX9_init_8 : decode cX9_init 8 = .ok (.newarray .byte, 2) := by decide +kernel
theorem dX9_init_10 : decode cX9_init 10 = .ok (.putfield 9, 3) := by decide +kernel
theorem dX9_init_13 : decode cX9_init 13 = .ok (.aload_n 0, 1) := by decide +kernel
theorem dX9_init_14 : decode cX9_init 14 = .ok (.iconst 0, 1) := by decide +kernel
theorem dX9_init_15 : decode cX9_init 15 = .ok (.putfield 15, 3) := by decide +kernel
theorem dX9_init_18 : decode cX9_init 18 = .ok (.aload_n 0, 1) := by decide +kernel
theorem dX9_init_19 : decode cX9_init 19 = .ok (.iconst 0, 1) := by decide +kernel
theorem dX9_init_20 : decode cX9_init 20 = .ok (.putfield 19, 3) := by decide +kernel
theorem dX9_init_23 : decode cX9_init 23 = .ok (.aload_n 0, 1) := by decide +kernel
theorem dX9_init_24 : decode cX9_init 24 = .ok (.iconst (-1), 1) := by decide +kernel
theorem dX9_init_25 : decode cX9_init 25 = .ok (.putfield 22, 3) := by decide +kernel
theorem dX9_init_28 : decode cX9_init 28 = .ok (.aload_n 0, 1) := by decide +kernel
theorem dX9_init_29 : decode cX9_init 29 = .ok (.iconst 0, 1) := by decide +kernel
theorem dX9_init_30 : decode cX9_init 30 = .ok (.putfield 25, 3) := by decide +kernel
theorem dX9_init_33 : decode cX9_init 33 = .ok (.aload_n 0, 1) := by decide +kernel
theorem dX9_init_34 : decode cX9_init 34 = .ok (.iconst 0, 1) := by decide +kernel
theorem dX9_init_35 : decode cX9_init 35 = .ok (.putfield 28, 3) := by decide +kernel
theorem dX9_init_38 : decode cX9_init 38 = .ok (.aload_n 0, 1) := by decide +kernel
theorem dX9_init_39 : decode cX9_init 39 = .ok (.iconst 0, 1) := by decide +kernel
theorem dX9_init_40 : decode cX9_init 40 = .ok (.putfield 31, 3) := by decide +kernel
theorem dX9_init_43 : decode cX9_init 43 = .ok (.return_, 1) := by decide +kernel
theorem dX9_put_0 : decode cX9_put 0 = .ok (.bipush 24, 2) := by decide +kernel
theorem dX9_put_2 : decode cX9_put 2 = .ok (.istore_n 2, 1) := by decide +kernel
theorem dX9_put_3 : decode cX9_put 3 = .ok (.iload_n 2, 1) := by decide +kernel
theorem dX9_put_4 : decode cX9_put 4 = .ok (.ifCond .lt 44, 3) := by decide +kernel
theorem dX9_put_7 : decode cX9_put 7 = .ok (.aload_n 0, 1) := by decide +kernel
theorem dX9_put_8 : decode cX9_put 8 = .ok (.getfield 25, 3) := by decide +kernel
theorem dX9_put_11 : decode cX9_put 11 = .ok (.aload_n 0, 1) := by decide +kernel
theorem dX9_put_12 : decode cX9_put 12 = .ok (.getfield 9, 3) := by decide +kernel
theorem dX9_put_15 : decode cX9_put 15 = .ok (.arraylength, 1) := by decide +kernel
theorem dX9_put_16 : decode cX9_put 16 = .ok (.if_icmp .ge 32, 3) := by decide +kernel
theorem dX9_put_19 : decode cX9_put 19 = .ok (.aload_n 0, 1) := by decide +kernel
theorem dX9_put_20 : decode cX9_put 20 = .ok (.getfield 9, 3) := by decide +kernel
theorem dX9_put_23 : decode cX9_put 23 = .ok (.aload_n 0, 1) := by decide +kernel
theorem dX9_put_24 : decode cX9_put 24 = .ok (.getfield 25, 3) := by decide +kernel
theorem dX9_put_27 : decode cX9_put 27 = .ok (.iload_n 1, 1) := by decide +kernel
theorem dX9_put_28 : decode cX9_put 28 = .ok (.iload_n 2, 1) := by decide +kernel
theorem dX9_put_29 : decode cX9_put 29 = .ok (.iushr, 1) := by decide +kernel
theorem dX9_put_30 : decode cX9_put 30 = .ok (.i2b, 1) := by decide +kernel
theorem dX9_put_31 : decode cX9_put 31 = .ok (.bastore, 1) := by decide +kernel
theorem dX9_put_32 : decode cX9_put 32 = .ok (.aload_n 0, 1) := by decide +kernel
theorem dX9_put_33 : decode cX9_put 33 = .ok (.dup, 1) := by decide +kernel
theorem dX9_put_34 : decode cX9_put 34 = .ok (.getfield 25, 3) := by decide +kernel
theorem dX9_put_37 : decode cX9_put 37 = .ok (.iconst 1, 1) := by decide +kernel
theorem dX9_put_38 : decode cX9_put 38 = .ok (.iadd, 1) := by decide +kernel
theorem dX9_put_39 : decode cX9_put 39 = .ok (.putfield 25, 3) := by decide +kernel
theorem dX9_put_42 : decode cX9_put 42 = .ok (.iinc 2 (-8), 3) := by decide +kernel
theorem dX9_put_45 : decode cX9_put 45 = .ok (.goto (-42), 3) := by decide +kernel
theorem dX9_put_48 : decode cX9_put 48 = .ok (.return_, 1) := by decide +kernel
theorem dX9_start_0 : decode cX9_start 0 = .ok (.aload_n 0, 1) := by decide +kernel
theorem dX9_start_1 : decode cX9_start 1 = .ok (.iload_n 1, 1) := by decide +kernel
theorem dX9_start_2 : decode cX9_start 2 = .ok (.aload_n 0, 1) := by decide +kernel
theorem dX9_start_3 : decode cX9_start 3 = .ok (.getfield 9, 3) := by decide +kernel
theorem dX9_start_6 : decode cX9_start 6 = .ok (.arraylength, 1) := by decide +kernel
theorem dX9_start_7 : decode cX9_start 7 = .ok (.invokestatic 34, 3) := by decide +kernel
theorem dX9_start_10 : decode cX9_start 10 = .ok (.putfield 15, 3) := by decide +kernel
theorem dX9_start_13 : decode cX9_start 13 = .ok (.aload_n 0, 1) := by decide +kernel
theorem dX9_start_14 : decode cX9_start 14 = .ok (.iconst 0, 1) := by decide +kernel
theorem dX9_start_15 : decode cX9_start 15 = .ok (.putfield 19, 3) := by decide +kernel
theorem dX9_start_18 : decode cX9_start 18 = .ok (.aload_n 0, 1) := by decide +kernel
theorem dX9_start_19 : decode cX9_start 19 = .ok (.invokevirtual 40, 3) := by decide +kernel
theorem dX9_start_22 : decode cX9_start 22 = .ok (.return_, 1) := by decide +kernel
theorem dX9_advance_0 : decode cX9_advance 0 = .ok (.aload_n 0, 1) := by decide +kernel
theorem dX9_advance_1 : decode cX9_advance 1 = .ok (.aload_n 0, 1) := by decide +kernel
theorem dX9_advance_2 : decode cX9_advance 2 = .ok (.getfield 19, 3) := by decide +kernel
theorem dX9_advance_5 : decode cX9_advance 5 = .ok (.putfield 28, 3) := by decide +kernel
theorem dX9_advance_8 : decode cX9_advance 8 = .ok (.aload_n 0, 1) := by decide +kernel
theorem dX9_advance_9 : decode cX9_advance 9 = .ok (.getfield 28, 3) := by decide +kernel
theorem dX9_advance_12 : decode cX9_advance 12 = .ok (.aload_n 0, 1) := by decide +kernel
theorem dX9_advance_13 : decode cX9_advance 13 = .ok (.getfield 15, 3) := by decide +kernel
theorem dX9_advance_16 : decode cX9_advance 16 = .ok (.if_icmp .ge 30, 3) := by decide +kernel
theorem dX9_advance_19 : decode cX9_advance 19 = .ok (.aload_n 0, 1) := by decide +kernel
theorem dX9_advance_20 : decode cX9_advance 20 = .ok (.aload_n 0, 1) := by decide +kernel
theorem dX9_advance_21 : decode cX9_advance 21 = .ok (.getfield 28, 3) := by decide +kernel
theorem dX9_advance_24 : decode cX9_advance 24 = .ok (.invokevirtual 43, 3) := by decide +kernel
