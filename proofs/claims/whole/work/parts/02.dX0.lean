theorem dX0_init_0 : decode cX0_init 0 = .ok (.aload_n 0, 1) := by decide +kernel
theorem dX0_init_1 : decode cX0_init 1 = .ok (.invokespecial 3, 3) := by decide +kernel
theorem dX0_init_4 : decode cX0_init 4 = .ok (.aload_n 0, 1) := by decide +kernel
theorem dX0_init_5 : decode cX0_init 5 = .ok (.iconst 4, 1) := by decide +kernel
theorem dX0_init_6 : decode cX0_init 6 = .ok (.newarray .int, 2) := by decide +kernel
theorem dX0_init_8 : decode cX0_init 8 = .ok (.putfield 9, 3) := by decide +kernel
theorem dX0_init_11 : decode cX0_init 11 = .ok (.aload_n 0, 1) := by decide +kernel
theorem dX0_init_12 : decode cX0_init 12 = .ok (.bipush 8, 2) := by decide +kernel
theorem dX0_init_14 : decode cX0_init 14 = .ok (.newarray .int, 2) := by decide +kernel
theorem dX0_init_16 : decode cX0_init 16 = .ok (.putfield 15, 3) := by decide +kernel
theorem dX0_init_19 : decode cX0_init 19 = .ok (.aload_n 0, 1) := by decide +kernel
theorem dX0_init_20 : decode cX0_init 20 = .ok (.bipush 8, 2) := by decide +kernel
theorem dX0_init_22 : decode cX0_init 22 = .ok (.newarray .int, 2) := by decide +kernel
theorem dX0_init_24 : decode cX0_init 24 = .ok (.putfield 18, 3) := by decide +kernel
theorem dX0_init_27 : decode cX0_init 27 = .ok (.aload_n 0, 1) := by decide +kernel
theorem dX0_init_28 : decode cX0_init 28 = .ok (.bipush 8, 2) := by decide +kernel
theorem dX0_init_30 : decode cX0_init 30 = .ok (.newarray .int, 2) := by decide +kernel
theorem dX0_init_32 : decode cX0_init 32 = .ok (.putfield 21, 3) := by decide +kernel
theorem dX0_init_35 : decode cX0_init 35 = .ok (.aload_n 0, 1) := by decide +kernel
theorem dX0_init_36 : decode cX0_init 36 = .ok (.bipush 8, 2) := by decide +kernel
theorem dX0_init_38 : decode cX0_init 38 = .ok (.newarray .int, 2) := by decide +kernel
theorem dX0_init_40 : decode cX0_init 40 = .ok (.putfield 24, 3) := by decide +kernel
theorem dX0_init_43 : decode cX0_init 43 = .ok (.aload_n 0, 1) := by decide +kernel
theorem dX0_init_44 : decode cX0_init 44 = .ok (.bipush 64, 2) := by decide +kernel
theorem dX0_init_46 : decode cX0_init 46 = .ok (.newarray .int, 2) := by decide +kernel
theorem dX0_init_48 : decode cX0_init 48 = .ok (.putfield 27, 3) := by decide +kernel
theorem dX0_init_51 : decode cX0_init 51 = .ok (.aload_n 0, 1) := by decide +kernel
theorem dX0_init_52 : decode cX0_init 52 = .ok (.iconst 1, 1) := by decide +kernel
theorem dX0_init_53 : decode cX0_init 53 = .ok (.putfield 30, 3) := by decide +kernel
theorem dX0_init_56 : decode cX0_init 56 = .ok (.aload_n 0, 1) := by decide +kernel
theorem dX0_init_57 : decode cX0_init 57 = .ok (.bipush 8, 2) := by decide +kernel
theorem dX0_init_59 : decode cX0_init 59 = .ok (.newarray .int, 2) := by decide +kernel
theorem dX0_init_61 : decode cX0_init 61 = .ok (.putfield 34, 3) := by decide +kernel
theorem dX0_init_64 : decode cX0_init 64 = .ok (.aload_n 0, 1) := by decide +kernel
theorem dX0_init_65 : decode cX0_init 65 = .ok (.bipush 8, 2) := by decide +kernel
theorem dX0_init_67 : decode cX0_init 67 = .ok (.newarray .int, 2) := by decide +kernel
theorem dX0_init_69 : decode cX0_init 69 = .ok (.putfield 37, 3) := by decide +kernel
theorem dX0_init_72 : decode cX0_init 72 = .ok (.aload_n 0, 1) := by decide +kernel
theorem dX0_init_73 : decode cX0_init 73 = .ok (.invokevirtual 40, 3) := by decide +kernel
theorem dX0_init_76 : decode cX0_init 76 = .ok (.return_, 1) := by decide +kernel
theorem dX0_becomeAsAtFirst_0 : decode cX0_becomeAsAtFirst 0 = .ok (.getstatic 43, 3) := by decide +kernel
theorem dX0_becomeAsAtFirst_3 : decode cX0_becomeAsAtFirst 3 = .ok (.iconst 0, 1) := by decide +kernel
theorem dX0_becomeAsAtFirst_4 : decode cX0_becomeAsAtFirst 4 = .ok (.aload_n 0, 1) := by decide +kernel
theorem dX0_becomeAsAtFirst_5 : decode cX0_becomeAsAtFirst 5 = .ok (.getfield 9, 3) := by decide +kernel
theorem dX0_becomeAsAtFirst_8 : decode cX0_becomeAsAtFirst 8 = .ok (.iconst 0, 1) := by decide +kernel
theorem dX0_becomeAsAtFirst_9 : decode cX0_becomeAsAtFirst 9 = .ok (.iconst 4, 1) := by decide +kernel
theorem dX0_becomeAsAtFirst_10 : decode cX0_becomeAsAtFirst 10 = .ok (.invokestatic 46, 3) := by decide +kernel
theorem dX0_becomeAsAtFirst_13 : decode cX0_becomeAsAtFirst 13 = .ok (.iconst 0, 1) := by decide +kernel
theorem dX0_becomeAsAtFirst_14 : decode cX0_becomeAsAtFirst 14 = .ok (.istore_n 1, 1) := by decide +kernel
theorem dX0_becomeAsAtFirst_15 : decode cX0_becomeAsAtFirst 15 = .ok (.iload_n 1, 1) := by decide +kernel
theorem dX0_becomeAsAtFirst_16 : decode cX0_becomeAsAtFirst 16 = .ok (.bipush 8, 2) := by decide +kernel
theorem dX0_becomeAsAtFirst_18 : decode cX0_becomeAsAtFirst 18 = .ok (.if_icmp .ge 16, 3) := by decide +kernel
theorem dX0_becomeAsAtFirst_21 : decode cX0_becomeAsAtFirst 21 = .ok (.aload_n 0, 1) := by decide +kernel
theorem dX0_becomeAsAtFirst_22 : decode cX0_becomeAsAtFirst 22 = .ok (.getfield 15, 3) := by decide +kernel
theorem dX0_becomeAsAtFirst_25 : decode cX0_becomeAsAtFirst 25 = .ok (.iload_n 1, 1) := by decide +kernel
theorem dX0_becomeAsAtFirst_26 : decode cX0_becomeAsAtFirst 26 = .ok (.iconst 3, 1) := by decide +kernel
theorem dX0_becomeAsAtFirst_27 : decode cX0_becomeAsAtFirst 27 = .ok (.iastore, 1) := by decide +kernel
theorem dX0_becomeAsAtFirst_28 : decode cX0_becomeAsAtFirst 28 = .ok (.iinc 1 1, 3) := by decide +kernel
theorem dX0_becomeAsAtFirst_31 : decode cX0_becomeAsAtFirst 31 = .ok (.goto (-16), 3) := by decide +kernel
theorem dX0_becomeAsAtFirst_34 : decode cX0_becomeAsAtFirst 34 = .ok (.aload_n 0, 1) := by decide +kernel
theorem dX0_becomeAsAtFirst_35 : decode cX0_becomeAsAtFirst 35 = .ok (.iconst 0, 1) := by decide +kernel
theorem dX0_becomeAsAtFirst_36 : decode cX0_becomeAsAtFirst 36 = .ok (.putfield 52, 3) := by decide +kernel
theorem dX0_becomeAsAtFirst_39 : decode cX0_becomeAsAtFirst 39 = .ok (.aload_n 0, 1) := by decide +kernel
theorem dX0_becomeAsAtFirst_40 : decode cX0_becomeAsAtFirst 40 = .ok (.iconst 0, 1) := by decide +kernel
theorem dX0_becomeAsAtFirst_41 : decode cX0_becomeAsAtFirst 41 = .ok (.putfield 55, 3) := by decide +kernel
theorem dX0_becomeAsAtFirst_44 : decode cX0_becomeAsAtFirst 44 = .ok (.aload_n 0, 1) := by decide +kernel
theorem dX0_becomeAsAtFirst_45 : decode cX0_becomeAsAtFirst 45 = .ok (.iconst 0, 1) := by decide +kernel
theorem dX0_becomeAsAtFirst_46 : decode cX0_becomeAsAtFirst 46 = .ok (.putfield 58, 3) := by decide +kernel
theorem dX0_becomeAsAtFirst_49 : decode cX0_becomeAsAtFirst 49 = .ok (.return_, 1) := by decide +kernel
theorem dX0_copyFrom_0 : decode cX0_copyFrom 0 = .ok (.aload_n 1, 1) := by decide +kernel
theorem dX0_copyFrom_1 : decode cX0_copyFrom 1 = .ok (.getfield 9, 3) := by decide +kernel
theorem dX0_copyFrom_4 : decode cX0_copyFrom 4 = .ok (.iconst 0, 1) := by decide +kernel
theorem dX0_copyFrom_5 : decode cX0_copyFrom 5 = .ok (.aload_n 0, 1) := by decide +kernel
theorem dX0_copyFrom_6 : decode cX0_copyFrom 6 = .ok (.getfield 9, 3) := by decide +kernel
theorem dX0_copyFrom_9 : decode cX0_copyFrom 9 = .ok (.iconst 0, 1) := by decide +kernel
theorem dX0_copyFrom_10 : decode cX0_copyFrom 10 = .ok (.iconst 4, 1) := by decide +kernel
theorem dX0_copyFrom_11 : decode cX0_copyFrom 11 = .ok (.invokestatic 46, 3) := by decide +kernel
theorem dX0_copyFrom_14 : decode cX0_copyFrom 14 = .ok (.aload_n 1, 1) := by decide +kernel
theorem dX0_copyFrom_15 : decode cX0_copyFrom 15 = .ok (.getfield 15, 3) := by decide +kernel
theorem dX0_copyFrom_18 : decode cX0_copyFrom 18 = .ok (.iconst 0, 1) := by decide +kernel
theorem dX0_copyFrom_19 : decode cX0_copyFrom 19 = .ok (.aload_n 0, 1) := by decide +kernel
theorem dX0_copyFrom_20 : decode cX0_copyFrom 20 = .ok (.getfield 15, 3) := by decide +kernel
theorem dX0_copyFrom_23 : decode cX0_copyFrom 23 = .ok (.iconst 0, 1) := by decide +kernel
theorem dX0_copyFrom_24 : decode cX0_copyFrom 24 = .ok (.bipush 8, 2) := by decide +kernel
theorem dX0_copyFrom_26 : decode cX0_copyFrom 26 = .ok (.invokestatic 46, 3) := by decide +kernel
theorem dX0_copyFrom_29 : decode cX0_copyFrom 29 = .ok (.aload_n 1, 1) := by decide +kernel
theorem dX0_copyFrom_30 : decode cX0_copyFrom 30 = .ok (.getfield 18, 3) := by decide +kernel
theorem dX0_copyFrom_33 : decode cX0_copyFrom 33 = .ok (.iconst 0, 1) := by decide +kernel
theorem dX0_copyFrom_34 : decode cX0_copyFrom 34 = .ok (.aload_n 0, 1) := by decide +kernel
theorem dX0_copyFrom_35 : decode cX0_copyFrom 35 = .ok (.getfield 18, 3) := by decide +kernel
theorem dX0_copyFrom_38 : decode cX0_copyFrom 38 = .ok (.iconst 0, 1) := by decide +kernel
theorem dX0_copyFrom_39 : decode cX0_copyFrom 39 = .ok (.bipush 8, 2) := by decide +kernel
theorem dX0_copyFrom_41 : decode cX0_copyFrom 41 = .ok (.invokestatic 46, 3) := by decide +kernel
theorem dX0_copyFrom_44 : decode cX0_copyFrom 44 = .ok (.aload_n 1, 1) := by decide +kernel
theorem dX0_copyFrom_45 : decode cX0_copyFrom 45 = .ok (.getfield 21, 3) := by decide +kernel
theorem dX0_copyFrom_48 : decode cX0_copyFrom 48 = .ok (.iconst 0, 1) := by decide +kernel
theorem dX0_copyFrom_49 : decode cX0_copyFrom 49 = .ok (.aload_n 0, 1) := by decide +kernel
theorem dX0_copyFrom_50 : decode cX0_copyFrom 50 = .ok (.getfield 21, 3) := by decide +kernel
theorem dX0_copyFrom_53 : decode cX0_copyFrom 53 = .ok (.iconst 0, 1) := by decide +kernel
theorem dX0_copyFrom_54 : decode cX0_copyFrom 54 = .ok (.bipush 8, 2) := by decide +kernel
theorem dX0_copyFrom_56 : decode cX0_copyFrom 56 = .ok (.invokestatic 46, 3) := by decide +kernel
theorem dX0_copyFrom_59 : decode cX0_copyFrom 59 = .ok (.aload_n 1, 1) := by decide +kernel
theorem dX0_copyFrom_60 : decode cX0_copyFrom 60 = .ok (.getfield 24, 3) := by decide +kernel
theorem dX0_copyFrom_63 : decode cX0_copyFrom 63 = .ok (.iconst 0, 1) := by decide +kernel
theorem dX0_copyFrom_64 : decode cX0_copyFrom 64 = .ok (.aload_n 0, 1) := by decide +kernel
theorem dX0_copyFrom_65 : decode cX0_copyFrom 65 = .ok (.getfield 24, 3) := by decide +kernel
theorem dX0_copyFrom_68 : decode cX0_copyFrom 68 = .ok (.iconst 0, 1) := by decide +kernel
theorem dX0_copyFrom_69 : decode cX0_copyFrom 69 = .ok (.bipush 8, 2) := by decide +kernel
theorem dX0_copyFrom_71 : decode cX0_copyFrom 71 = .ok (.invokestatic 46, 3) := by decide +kernel
theorem dX0_copyFrom_74 : decode cX0_copyFrom 74 = .ok (.aload_n 1, 1) := by decide +kernel
theorem dX0_copyFrom_75 : decode cX0_copyFrom 75 = .ok (.getfield 27, 3) := by decide +kernel
theorem dX0_copyFrom_78 : decode cX0_copyFrom 78 = .ok (.iconst 0, 1) := by decide +kernel
theorem dX0_copyFrom_79 : decode cX0_copyFrom 79 = .ok (.aload_n 0, 1) := by decide +kernel
theorem dX0_copyFrom_80 : decode cX0_copyFrom 80 = .ok (.getfield 27, 3) := by decide +kernel
theorem dX0_copyFrom_83 : decode cX0_copyFrom 83 = .ok (.iconst 0, 1) := by decide +kernel
theorem dX0_copyFrom_84 : decode cX0_copyFrom 84 = .ok (.bipush 64, 2) := by decide +kernel
theorem dX0_copyFrom_86 : decode cX0_copyFrom 86 = .ok (.invokestatic 46, 3) := by decide +kernel
theorem dX0_copyFrom_89 : decode cX0_copyFrom 89 = .ok (.aload_n 0, 1) := by decide +kernel
theorem dX0_copyFrom_90 : decode cX0_copyFrom 90 = .ok (.aload_n 1, 1) := by decide +kernel
theorem dX0_copyFrom_91 : decode cX0_copyFrom 91 = .ok (.getfield 52, 3) := by decide +kernel
theorem dX0_copyFrom_94 : decode cX0_copyFrom 94 = .ok (.putfield 52, 3) := by decide +kernel
theorem dX0_copyFrom_97 : decode cX0_copyFrom 97 = .ok (.aload_n 0, 1) := by decide +kernel
theorem dX0_copyFrom_98 : decode cX0_copyFrom 98 = .ok (.aload_n 1, 1) := by decide +kernel
theorem dX0_copyFrom_99 : decode cX0_copyFrom 99 = .ok (.getfield 55, 3) := by decide +kernel
theorem dX0_copyFrom_102 : decode cX0_copyFrom 102 = .ok (.putfield 55, 3) := by decide +kernel
theorem dX0_copyFrom_105 : decode cX0_copyFrom 105 = .ok (.aload_n 0, 1) := by decide +kernel
theorem dX0_copyFrom_106 : decode cX0_copyFrom 106 = .ok (.aload_n 1, 1) := by decide +kernel
theorem dX0_copyFrom_107 : decode cX0_copyFrom 107 = .ok (.getfield 58, 3) := by decide +kernel
theorem dX0_copyFrom_110 : decode cX0_copyFrom 110 = .ok (.putfield 58, 3) := by decide +kernel
theorem dX0_copyFrom_113 : decode cX0_copyFrom 113 = .ok (.aload_n 0, 1) := by decide +kernel
theorem dX0_copyFrom_114 : decode cX0_copyFrom 114 = .ok (.aload_n 1, 1) := by decide +kernel
theorem dX0_copyFrom_115 : decode cX0_copyFrom 115 = .ok (.getfield 30, 3) := by decide +kernel
theorem dX0_copyFrom_118 : decode cX0_copyFrom 118 = .ok (.putfield 30, 3) := by decide +kernel
theorem dX0_copyFrom_121 : decode cX0_copyFrom 121 = .ok (.return_, 1) := by decide +kernel
theorem dX0_join_0 : decode cX0_join 0 = .ok (.aload_n 0, 1) := by decide +kernel
theorem dX0_join_1 : decode cX0_join 1 = .ok (.getfield 52, 3) := by decide +kernel
theorem dX0_join_4 : decode cX0_join 4 = .ok (.bipush 8, 2) := by decide +kernel
theorem dX0_join_6 : decode cX0_join 6 = .ok (.if_icmp .lt 5, 3) := by decide +kernel
theorem dX0_join_9 : decode cX0_join 9 = .ok (.iconst (-1), 1) := by decide +kernel
theorem dX0_join_10 : decode cX0_join 10 = .ok (.ireturn, 1) := by decide +kernel
theorem dX0_join_11 : decode cX0_join 11 = .ok (.aload_n 0, 1) := by decide +kernel
theorem dX0_join_12 : decode cX0_join 12 = .ok (.getfield 52, 3) := by decide +kernel
theorem dX0_join_15 : decode cX0_join 15 = .ok (.istore_n 3, 1) := by decide +kernel
theorem dX0_join_16 : decode cX0_join 16 = .ok (.aload_n 0, 1) := by decide +kernel
theorem dX0_join_17 : decode cX0_join 17 = .ok (.dup, 1) := by decide +kernel
theorem dX0_join_18 : decode cX0_join 18 = .ok (.getfield 52, 3) := by decide +kernel
theorem dX0_join_21 : decode cX0_join 21 = .ok (.iconst 1, 1) := by decide +kernel
theorem dX0_join_22 : decode cX0_join 22 = .ok (.iadd, 1) := by decide +kernel
theorem dX0_join_23 : decode cX0_join 23 = .ok (.putfield 52, 3) := by decide +kernel
theorem dX0_join_26 : decode cX0_join 26 = .ok (.aload_n 0, 1) := by decide +kernel
theorem dX0_join_27 : decode cX0_join 27 = .ok (.getfield 18, 3) := by decide +kernel
theorem dX0_join_30 : decode cX0_join 30 = .ok (.iload_n 3, 1) := by decide +kernel
theorem dX0_join_31 : decode cX0_join 31 = .ok (.iload_n 1, 1) := by decide +kernel
theorem dX0_join_32 : decode cX0_join 32 = .ok (.iastore, 1) := by decide +kernel
theorem dX0_join_33 : decode cX0_join 33 = .ok (.aload_n 0, 1) := by decide +kernel
theorem dX0_join_34 : decode cX0_join 34 = .ok (.getfield 21, 3) := by decide +kernel
theorem dX0_join_37 : decode cX0_join 37 = .ok (.iload_n 3, 1) := by decide +kernel
theorem dX0_join_38 : decode cX0_join 38 = .ok (.iload_n 2, 1) := by decide +kernel
theorem dX0_join_39 : decode cX0_join 39 = .ok (.iastore, 1) := by decide +kernel
theorem dX0_join_40 : decode cX0_join 40 = .ok (.aload_n 0, 1) := by decide +kernel
theorem dX0_join_41 : decode cX0_join 41 = .ok (.getfield 24, 3) := by decide +kernel
theorem dX0_join_44 : decode cX0_join 44 = .ok (.iload_n 3, 1) := by decide +kernel
theorem dX0_join_45 : decode cX0_join 45 = .ok (.iconst 0, 1) := by decide +kernel
theorem dX0_join_46 : decode cX0_join 46 = .ok (.iastore, 1) := by decide +kernel
theorem dX0_join_47 : decode cX0_join 47 = .ok (.iconst 0, 1) := by decide +kernel
theorem dX0_join_48 : decode cX0_join 48 = .ok (.istore 4, 2) := by decide +kernel
theorem dX0_join_50 : decode cX0_join 50 = .ok (.iload 4, 2) := by decide +kernel
theorem dX0_join_52 : decode cX0_join 52 = .ok (.bipush 8, 2) := by decide +kernel
theorem dX0_join_54 : decode cX0_join 54 = .ok (.if_icmp .ge 28, 3) := by decide +kernel
theorem dX0_join_57 : decode cX0_join 57 = .ok (.aload_n 0, 1) := by decide +kernel
theorem dX0_join_58 : decode cX0_join 58 = .ok (.iload_n 3, 1) := by decide +kernel
theorem dX0_join_59 : decode cX0_join 59 = .ok (.iload 4, 2) := by decide +kernel
theorem dX0_join_61 : decode cX0_join 61 = .ok (.iload 4, 2) := by decide +kernel
theorem dX0_join_63 : decode cX0_join 63 = .ok (.iload_n 2, 1) := by decide +kernel
theorem dX0_join_64 : decode cX0_join 64 = .ok (.if_icmp .ne 8, 3) := by decide +kernel
theorem dX0_join_67 : decode cX0_join 67 = .ok (.bipush 60, 2) := by decide +kernel
theorem dX0_join_69 : decode cX0_join 69 = .ok (.goto 4, 3) := by decide +kernel
theorem dX0_join_72 : decode cX0_join 72 = .ok (.iconst 0, 1) := by decide +kernel
theorem dX0_join_73 : decode cX0_join 73 = .ok (.invokevirtual 61, 3) := by decide +kernel
theorem dX0_join_76 : decode cX0_join 76 = .ok (.iinc 4 1, 3) := by decide +kernel
theorem dX0_join_79 : decode cX0_join 79 = .ok (.goto (-29), 3) := by decide +kernel
theorem dX0_join_82 : decode cX0_join 82 = .ok (.iload_n 3, 1) := by decide +kernel
theorem dX0_join_83 : decode cX0_join 83 = .ok (.ireturn, 1) := by decide +kernel
theorem dX0_knowing_0 : decode cX0_knowing 0 = .ok (.aload_n 0, 1) := by decide +kernel
theorem dX0_knowing_1 : decode cX0_knowing 1 = .ok (.getfield 27, 3) := by decide +kernel
theorem dX0_knowing_4 : decode cX0_knowing 4 = .ok (.iload_n 1, 1) := by decide +kernel
theorem dX0_knowing_5 : decode cX0_knowing 5 = .ok (.bipush 8, 2) := by decide +kernel
theorem dX0_knowing_7 : decode cX0_knowing 7 = .ok (.imul, 1) := by decide +kernel
theorem dX0_knowing_8 : decode cX0_knowing 8 = .ok (.iload_n 2, 1) := by decide +kernel
theorem dX0_knowing_9 : decode cX0_knowing 9 = .ok (.iadd, 1) := by decide +kernel
theorem dX0_knowing_10 : decode cX0_knowing 10 = .ok (.iaload, 1) := by decide +kernel
theorem dX0_knowing_11 : decode cX0_knowing 11 = .ok (.ireturn, 1) := by decide +kernel
theorem dX0_learnTo_0 : decode cX0_learnTo 0 = .ok (.aload_n 0, 1) := by decide +kernel
theorem dX0_learnTo_1 : decode cX0_learnTo 1 = .ok (.getfield 27, 3) := by decide +kernel
theorem dX0_learnTo_4 : decode cX0_learnTo 4 = .ok (.iload_n 1, 1) := by decide +kernel
theorem dX0_learnTo_5 : decode cX0_learnTo 5 = .ok (.bipush 8, 2) := by decide +kernel
theorem dX0_learnTo_7 : decode cX0_learnTo 7 = .ok (.imul, 1) := by decide +kernel
theorem dX0_learnTo_8 : decode cX0_learnTo 8 = .ok (.iload_n 2, 1) := by decide +kernel
theorem dX0_learnTo_9 : decode cX0_learnTo 9 = .ok (.iadd, 1) := by decide +kernel
theorem dX0_learnTo_10 : decode cX0_learnTo 10 = .ok (.iload_n 3, 1) := by decide +kernel
theorem dX0_learnTo_11 : decode cX0_learnTo 11 = .ok (.bipush 99, 2) := by decide +kernel
theorem dX0_learnTo_13 : decode cX0_learnTo 13 = .ok (.invokestatic 65, 3) := by decide +kernel
theorem dX0_learnTo_16 : decode cX0_learnTo 16 = .ok (.iastore, 1) := by decide +kernel
theorem dX0_learnTo_17 : decode cX0_learnTo 17 = .ok (.return_, 1) := by decide +kernel
theorem dX0_good_0 : decode cX0_good 0 = .ok (.aload_n 0, 1) := by decide +kernel
theorem dX0_good_1 : decode cX0_good 1 = .ok (.getfield 27, 3) := by decide +kernel
theorem dX0_good_4 : decode cX0_good 4 = .ok (.iload_n 1, 1) := by decide +kernel
theorem dX0_good_5 : decode cX0_good 5 = .ok (.bipush 8, 2) := by decide +kernel
theorem dX0_good_7 : decode cX0_good 7 = .ok (.imul, 1) := by decide +kernel
theorem dX0_good_8 : decode cX0_good 8 = .ok (.iload_n 2, 1) := by decide +kernel
theorem dX0_good_9 : decode cX0_good 9 = .ok (.iadd, 1) := by decide +kernel
theorem dX0_good_10 : decode cX0_good 10 = .ok (.iaload, 1) := by decide +kernel
theorem dX0_good_11 : decode cX0_good 11 = .ok (.istore_n 3, 1) := by decide +kernel
theorem dX0_good_12 : decode cX0_good 12 = .ok (.aload_n 0, 1) := by decide +kernel
theorem dX0_good_13 : decode cX0_good 13 = .ok (.getfield 21, 3) := by decide +kernel
theorem dX0_good_16 : decode cX0_good 16 = .ok (.iload_n 1, 1) := by decide +kernel
theorem dX0_good_17 : decode cX0_good 17 = .ok (.iaload, 1) := by decide +kernel
theorem dX0_good_18 : decode cX0_good 18 = .ok (.iload_n 2, 1) := by decide +kernel
theorem dX0_good_19 : decode cX0_good 19 = .ok (.if_icmp .ne 7, 3) := by decide +kernel
theorem dX0_good_22 : decode cX0_good 22 = .ok (.iconst 1, 1) := by decide +kernel
theorem dX0_good_23 : decode cX0_good 23 = .ok (.goto 4, 3) := by decide +kernel
theorem dX0_good_26 : decode cX0_good 26 = .ok (.iconst 0, 1) := by decide +kernel
theorem dX0_good_27 : decode cX0_good 27 = .ok (.istore 4, 2) := by decide +kernel
theorem dX0_good_29 : decode cX0_good 29 = .ok (.aload_n 0, 1) := by decide +kernel
theorem dX0_good_30 : decode cX0_good 30 = .ok (.getfield 18, 3) := by decide +kernel
theorem dX0_good_33 : decode cX0_good 33 = .ok (.iload_n 1, 1) := by decide +kernel
theorem dX0_good_34 : decode cX0_good 34 = .ok (.iaload, 1) := by decide +kernel
theorem dX0_good_35 : decode cX0_good 35 = .ok (.tableswitch 102 1 5 #[33, 72, 51, 76, 89], 33) := by decide +kernel
theorem dX0_good_68 : decode cX0_good 68 = .ok (.iload 4, 2) := by decide +kernel
theorem dX0_good_70 : decode cX0_good 70 = .ok (.ifCond .eq 7, 3) := by decide +kernel
theorem dX0_good_73 : decode cX0_good 73 = .ok (.iload_n 3, 1) := by decide +kernel
theorem dX0_good_74 : decode cX0_good 74 = .ok (.goto 11, 3) := by decide +kernel
theorem dX0_good_77 : decode cX0_good 77 = .ok (.iload_n 3, 1) := by decide +kernel
theorem dX0_good_78 : decode cX0_good 78 = .ok (.aload_n 0, 1) := by decide +kernel
theorem dX0_good_79 : decode cX0_good 79 = .ok (.getfield 9, 3) := by decide +kernel
theorem dX0_good_82 : decode cX0_good 82 = .ok (.iconst 0, 1) := by decide +kernel
theorem dX0_good_83 : decode cX0_good 83 = .ok (.iaload, 1) := by decide +kernel
theorem dX0_good_84 : decode cX0_good 84 = .ok (.iadd, 1) := by decide +kernel
theorem dX0_good_85 : decode cX0_good 85 = .ok (.ireturn, 1) := by decide +kernel
theorem dX0_good_86 : decode cX0_good 86 = .ok (.iload 4, 2) := by decide +kernel
theorem dX0_good_88 : decode cX0_good 88 = .ok (.ifCond .eq 7, 3) := by decide +kernel
theorem dX0_good_91 : decode cX0_good 91 = .ok (.iload_n 3, 1) := by decide +kernel
theorem dX0_good_92 : decode cX0_good 92 = .ok (.goto 14, 3) := by decide +kernel
theorem dX0_good_95 : decode cX0_good 95 = .ok (.iload_n 3, 1) := by decide +kernel
theorem dX0_good_96 : decode cX0_good 96 = .ok (.aload_n 0, 1) := by decide +kernel
theorem dX0_good_97 : decode cX0_good 97 = .ok (.getfield 9, 3) := by decide +kernel
theorem dX0_good_100 : decode cX0_good 100 = .ok (.iconst 0, 1) := by decide +kernel
theorem dX0_good_101 : decode cX0_good 101 = .ok (.iaload, 1) := by decide +kernel
theorem dX0_good_102 : decode cX0_good 102 = .ok (.iadd, 1) := by decide +kernel
theorem dX0_good_103 : decode cX0_good 103 = .ok (.bipush 10, 2) := by decide +kernel
theorem dX0_good_105 : decode cX0_good 105 = .ok (.iadd, 1) := by decide +kernel
theorem dX0_good_106 : decode cX0_good 106 = .ok (.ireturn, 1) := by decide +kernel
theorem dX0_good_107 : decode cX0_good 107 = .ok (.iload_n 3, 1) := by decide +kernel
theorem dX0_good_108 : decode cX0_good 108 = .ok (.iconst 2, 1) := by decide +kernel
theorem dX0_good_109 : decode cX0_good 109 = .ok (.idiv, 1) := by decide +kernel
theorem dX0_good_110 : decode cX0_good 110 = .ok (.ireturn, 1) := by decide +kernel
theorem dX0_good_111 : decode cX0_good 111 = .ok (.iload_n 3, 1) := by decide +kernel
theorem dX0_good_112 : decode cX0_good 112 = .ok (.iconst 2, 1) := by decide +kernel
theorem dX0_good_113 : decode cX0_good 113 = .ok (.idiv, 1) := by decide +kernel
theorem dX0_good_114 : decode cX0_good 114 = .ok (.iconst 2, 1) := by decide +kernel
theorem dX0_good_115 : decode cX0_good 115 = .ok (.aload_n 0, 1) := by decide +kernel
theorem dX0_good_116 : decode cX0_good 116 = .ok (.getfield 9, 3) := by decide +kernel
theorem dX0_good_119 : decode cX0_good 119 = .ok (.iconst 1, 1) := by decide +kernel
theorem dX0_good_120 : decode cX0_good 120 = .ok (.iaload, 1) := by decide +kernel
theorem dX0_good_121 : decode cX0_good 121 = .ok (.imul, 1) := by decide +kernel
theorem dX0_good_122 : decode cX0_good 122 = .ok (.iadd, 1) := by decide +kernel
theorem dX0_good_123 : decode cX0_good 123 = .ok (.ireturn, 1) := by decide +kernel
theorem dX0_good_124 : decode cX0_good 124 = .ok (.iload 4, 2) := by decide +kernel
theorem dX0_good_126 : decode cX0_good 126 = .ok (.ifCond .eq 9, 3) := by decide +kernel
theorem dX0_good_129 : decode cX0_good 129 = .ok (.iload_n 3, 1) := by decide +kernel
theorem dX0_good_130 : decode cX0_good 130 = .ok (.iconst 5, 1) := by decide +kernel
theorem dX0_good_131 : decode cX0_good 131 = .ok (.iadd, 1) := by decide +kernel
theorem dX0_good_132 : decode cX0_good 132 = .ok (.goto 4, 3) := by decide +kernel
theorem dX0_good_135 : decode cX0_good 135 = .ok (.iconst 0, 1) := by decide +kernel
theorem dX0_good_136 : decode cX0_good 136 = .ok (.ireturn, 1) := by decide +kernel
theorem dX0_good_137 : decode cX0_good 137 = .ok (.iload_n 3, 1) := by decide +kernel
theorem dX0_good_138 : decode cX0_good 138 = .ok (.ireturn, 1) := by decide +kernel
theorem dX0_learns_0 : decode cX0_learns 0 = .ok (.aload_n 0, 1) := by decide +kernel
theorem dX0_learns_1 : decode cX0_learns 1 = .ok (.getfield 18, 3) := by decide +kernel
theorem dX0_learns_4 : decode cX0_learns 4 = .ok (.iload_n 1, 1) := by decide +kernel
theorem dX0_learns_5 : decode cX0_learns 5 = .ok (.iaload, 1) := by decide +kernel
theorem dX0_learns_6 : decode cX0_learns 6 = .ok (.tableswitch 61 1 5 #[34, 54, 43, 57, 59], 34) := by decide +kernel
theorem dX0_learns_40 : decode cX0_learns 40 = .ok (.iconst 2, 1) := by decide +kernel
theorem dX0_learns_41 : decode cX0_learns 41 = .ok (.aload_n 0, 1) := by decide +kernel
theorem dX0_learns_42 : decode cX0_learns 42 = .ok (.getfield 9, 3) := by decide +kernel
theorem dX0_learns_45 : decode cX0_learns 45 = .ok (.iconst 0, 1) := by decide +kernel
theorem dX0_learns_46 : decode cX0_learns 46 = .ok (.iaload, 1) := by decide +kernel
theorem dX0_learns_47 : decode cX0_learns 47 = .ok (.iadd, 1) := by decide +kernel
theorem dX0_learns_48 : decode cX0_learns 48 = .ok (.ireturn, 1) := by decide +kernel
theorem dX0_learns_49 : decode cX0_learns 49 = .ok (.iconst 2, 1) := by decide +kernel
theorem dX0_learns_50 : decode cX0_learns 50 = .ok (.aload_n 0, 1) := by decide +kernel
theorem dX0_learns_51 : decode cX0_learns 51 = .ok (.getfield 9, 3) := by decide +kernel
theorem dX0_learns_54 : decode cX0_learns 54 = .ok (.iconst 0, 1) := by decide +kernel
theorem dX0_learns_55 : decode cX0_learns 55 = .ok (.iaload, 1) := by decide +kernel
theorem dX0_learns_56 : decode cX0_learns 56 = .ok (.iadd, 1) := by decide +kernel
theorem dX0_learns_57 : decode cX0_learns 57 = .ok (.iconst 1, 1) := by decide +kernel
theorem dX0_learns_58 : decode cX0_learns 58 = .ok (.isub, 1) := by decide +kernel
theorem dX0_learns_59 : decode cX0_learns 59 = .ok (.ireturn, 1) := by decide +kernel
theorem dX0_learns_60 : decode cX0_learns 60 = .ok (.bipush 6, 2) := by decide +kernel
theorem dX0_learns_62 : decode cX0_learns 62 = .ok (.ireturn, 1) := by decide +kernel
theorem dX0_learns_63 : decode cX0_learns 63 = .ok (.iconst 0, 1) := by decide +kernel
theorem dX0_learns_64 : decode cX0_learns 64 = .ok (.ireturn, 1) := by decide +kernel
theorem dX0_learns_65 : decode cX0_learns 65 = .ok (.iconst (-1), 1) := by decide +kernel
theorem dX0_learns_66 : decode cX0_learns 66 = .ok (.ireturn, 1) := by decide +kernel
theorem dX0_learns_67 : decode cX0_learns 67 = .ok (.iconst 2, 1) := by decide +kernel
theorem dX0_learns_68 : decode cX0_learns 68 = .ok (.ireturn, 1) := by decide +kernel
theorem dX0_forgets_0 : decode cX0_forgets 0 = .ok (.aload_n 0, 1) := by decide +kernel
theorem dX0_forgets_1 : decode cX0_forgets 1 = .ok (.getfield 18, 3) := by decide +kernel
theorem dX0_forgets_4 : decode cX0_forgets 4 = .ok (.iload_n 1, 1) := by decide +kernel
theorem dX0_forgets_5 : decode cX0_forgets 5 = .ok (.iaload, 1) := by decide +kernel
theorem dX0_forgets_6 : decode cX0_forgets 6 = .ok (.tableswitch 49 1 5 #[34, 36, 34, 38, 47], 34) := by decide +kernel
theorem dX0_forgets_40 : decode cX0_forgets 40 = .ok (.iconst 0, 1) := by decide +kernel
theorem dX0_forgets_41 : decode cX0_forgets 41 = .ok (.ireturn, 1) := by decide +kernel
theorem dX0_forgets_42 : decode cX0_forgets 42 = .ok (.iconst 2, 1) := by decide +kernel
theorem dX0_forgets_43 : decode cX0_forgets 43 = .ok (.ireturn, 1) := by decide +kernel
theorem dX0_forgets_44 : decode cX0_forgets 44 = .ok (.iconst 2, 1) := by decide +kernel
theorem dX0_forgets_45 : decode cX0_forgets 45 = .ok (.aload_n 0, 1) := by decide +kernel
theorem dX0_forgets_46 : decode cX0_forgets 46 = .ok (.getfield 9, 3) := by decide +kernel
theorem dX0_forgets_49 : decode cX0_forgets 49 = .ok (.iconst 1, 1) := by decide +kernel
theorem dX0_forgets_50 : decode cX0_forgets 50 = .ok (.iaload, 1) := by decide +kernel
theorem dX0_forgets_51 : decode cX0_forgets 51 = .ok (.isub, 1) := by decide +kernel
theorem dX0_forgets_52 : decode cX0_forgets 52 = .ok (.ireturn, 1) := by decide +kernel
theorem dX0_forgets_53 : decode cX0_forgets 53 = .ok (.iconst 2, 1) := by decide +kernel
theorem dX0_forgets_54 : decode cX0_forgets 54 = .ok (.ireturn, 1) := by decide +kernel
theorem dX0_forgets_55 : decode cX0_forgets 55 = .ok (.iconst 1, 1) := by decide +kernel
theorem dX0_forgets_56 : decode cX0_forgets 56 = .ok (.ireturn, 1) := by decide +kernel
theorem dX0_makeBill_0 : decode cX0_makeBill 0 = .ok (.iconst 0, 1) := by decide +kernel
theorem dX0_makeBill_1 : decode cX0_makeBill 1 = .ok (.istore_n 1, 1) := by decide +kernel
theorem dX0_makeBill_2 : decode cX0_makeBill 2 = .ok (.iload_n 1, 1) := by decide +kernel
theorem dX0_makeBill_3 : decode cX0_makeBill 3 = .ok (.aload_n 0, 1) := by decide +kernel
theorem dX0_makeBill_4 : decode cX0_makeBill 4 = .ok (.getfield 52, 3) := by decide +kernel
theorem dX0_makeBill_7 : decode cX0_makeBill 7 = .ok (.if_icmp .ge 17, 3) := by decide +kernel
theorem dX0_makeBill_10 : decode cX0_makeBill 10 = .ok (.aload_n 0, 1) := by decide +kernel
theorem dX0_makeBill_11 : decode cX0_makeBill 11 = .ok (.getfield 37, 3) := by decide +kernel
theorem dX0_makeBill_14 : decode cX0_makeBill 14 = .ok (.iload_n 1, 1) := by decide +kernel
theorem dX0_makeBill_15 : decode cX0_makeBill 15 = .ok (.bipush 8, 2) := by decide +kernel
theorem dX0_makeBill_17 : decode cX0_makeBill 17 = .ok (.iastore, 1) := by decide +kernel
theorem dX0_makeBill_18 : decode cX0_makeBill 18 = .ok (.iinc 1 1, 3) := by decide +kernel
theorem dX0_makeBill_21 : decode cX0_makeBill 21 = .ok (.goto (-19), 3) := by decide +kernel
theorem dX0_makeBill_24 : decode cX0_makeBill 24 = .ok (.iconst 0, 1) := by decide +kernel
theorem dX0_makeBill_25 : decode cX0_makeBill 25 = .ok (.istore_n 1, 1) := by decide +kernel
theorem dX0_makeBill_26 : decode cX0_makeBill 26 = .ok (.iload_n 1, 1) := by decide +kernel
theorem dX0_makeBill_27 : decode cX0_makeBill 27 = .ok (.bipush 8, 2) := by decide +kernel
theorem dX0_makeBill_29 : decode cX0_makeBill 29 = .ok (.if_icmp .ge 34, 3) := by decide +kernel
theorem dX0_makeBill_32 : decode cX0_makeBill 32 = .ok (.aload_n 0, 1) := by decide +kernel
theorem dX0_makeBill_33 : decode cX0_makeBill 33 = .ok (.iload_n 1, 1) := by decide +kernel
theorem dX0_makeBill_34 : decode cX0_makeBill 34 = .ok (.invokevirtual 69, 3) := by decide +kernel
theorem dX0_makeBill_37 : decode cX0_makeBill 37 = .ok (.istore_n 2, 1) := by decide +kernel
theorem dX0_makeBill_38 : decode cX0_makeBill 38 = .ok (.aload_n 0, 1) := by decide +kernel
theorem dX0_makeBill_39 : decode cX0_makeBill 39 = .ok (.getfield 34, 3) := by decide +kernel
theorem dX0_makeBill_42 : decode cX0_makeBill 42 = .ok (.iload_n 1, 1) := by decide +kernel
theorem dX0_makeBill_43 : decode cX0_makeBill 43 = .ok (.iload_n 2, 1) := by decide +kernel
theorem dX0_makeBill_44 : decode cX0_makeBill 44 = .ok (.iastore, 1) := by decide +kernel
theorem dX0_makeBill_45 : decode cX0_makeBill 45 = .ok (.iload_n 2, 1) := by decide +kernel
theorem dX0_makeBill_46 : decode cX0_makeBill 46 = .ok (.iconst (-1), 1) := by decide +kernel
theorem dX0_makeBill_47 : decode cX0_makeBill 47 = .ok (.if_icmp .eq 10, 3) := by decide +kernel
theorem dX0_makeBill_50 : decode cX0_makeBill 50 = .ok (.aload_n 0, 1) := by decide +kernel
theorem dX0_makeBill_51 : decode cX0_makeBill 51 = .ok (.getfield 37, 3) := by decide +kernel
theorem dX0_makeBill_54 : decode cX0_makeBill 54 = .ok (.iload_n 2, 1) := by decide +kernel
theorem dX0_makeBill_55 : decode cX0_makeBill 55 = .ok (.iload_n 1, 1) := by decide +kernel
theorem dX0_makeBill_56 : decode cX0_makeBill 56 = .ok (.iastore, 1) := by decide +kernel
theorem dX0_makeBill_57 : decode cX0_makeBill 57 = .ok (.iinc 1 1, 3) := by decide +kernel
theorem dX0_makeBill_60 : decode cX0_makeBill 60 = .ok (.goto (-34), 3) := by decide +kernel
theorem dX0_makeBill_63 : decode cX0_makeBill 63 = .ok (.return_, 1) := by decide +kernel
theorem dX0_bestFor_0 : decode cX0_bestFor 0 = .ok (.iconst (-1), 1) := by decide +kernel
theorem dX0_bestFor_1 : decode cX0_bestFor 1 = .ok (.istore_n 2, 1) := by decide +kernel
theorem dX0_bestFor_2 : decode cX0_bestFor 2 = .ok (.aload_n 0, 1) := by decide +kernel
theorem dX0_bestFor_3 : decode cX0_bestFor 3 = .ok (.getfield 9, 3) := by decide +kernel
theorem dX0_bestFor_6 : decode cX0_bestFor 6 = .ok (.iconst 2, 1) := by decide +kernel
theorem dX0_bestFor_7 : decode cX0_bestFor 7 = .ok (.iaload, 1) := by decide +kernel
theorem dX0_bestFor_8 : decode cX0_bestFor 8 = .ok (.iconst 1, 1) := by decide +kernel
theorem dX0_bestFor_9 : decode cX0_bestFor 9 = .ok (.isub, 1) := by decide +kernel
theorem dX0_bestFor_10 : decode cX0_bestFor 10 = .ok (.istore_n 3, 1) := by decide +kernel
theorem dX0_bestFor_11 : decode cX0_bestFor 11 = .ok (.iconst 0, 1) := by decide +kernel
theorem dX0_bestFor_12 : decode cX0_bestFor 12 = .ok (.istore 4, 2) := by decide +kernel
theorem dX0_bestFor_14 : decode cX0_bestFor 14 = .ok (.iload 4, 2) := by decide +kernel
theorem dX0_bestFor_16 : decode cX0_bestFor 16 = .ok (.aload_n 0, 1) := by decide +kernel
theorem dX0_bestFor_17 : decode cX0_bestFor 17 = .ok (.getfield 52, 3) := by decide +kernel
theorem dX0_bestFor_20 : decode cX0_bestFor 20 = .ok (.if_icmp .ge 62, 3) := by decide +kernel
theorem dX0_bestFor_23 : decode cX0_bestFor 23 = .ok (.aload_n 0, 1) := by decide +kernel
theorem dX0_bestFor_24 : decode cX0_bestFor 24 = .ok (.getfield 24, 3) := by decide +kernel
theorem dX0_bestFor_27 : decode cX0_bestFor 27 = .ok (.iload 4, 2) := by decide +kernel
theorem dX0_bestFor_29 : decode cX0_bestFor 29 = .ok (.iaload, 1) := by decide +kernel
theorem dX0_bestFor_30 : decode cX0_bestFor 30 = .ok (.ifCond .ne 46, 3) := by decide +kernel
theorem dX0_bestFor_33 : decode cX0_bestFor 33 = .ok (.aload_n 0, 1) := by decide +kernel
theorem dX0_bestFor_34 : decode cX0_bestFor 34 = .ok (.getfield 37, 3) := by decide +kernel
theorem dX0_bestFor_37 : decode cX0_bestFor 37 = .ok (.iload 4, 2) := by decide +kernel
theorem dX0_bestFor_39 : decode cX0_bestFor 39 = .ok (.iaload, 1) := by decide +kernel
theorem dX0_bestFor_40 : decode cX0_bestFor 40 = .ok (.bipush 8, 2) := by decide +kernel
theorem dX0_bestFor_42 : decode cX0_bestFor 42 = .ok (.if_icmp .ne 34, 3) := by decide +kernel
theorem dX0_bestFor_45 : decode cX0_bestFor 45 = .ok (.aload_n 0, 1) := by decide +kernel
theorem dX0_bestFor_46 : decode cX0_bestFor 46 = .ok (.iload 4, 2) := by decide +kernel
theorem dX0_bestFor_48 : decode cX0_bestFor 48 = .ok (.iload_n 1, 1) := by decide +kernel
theorem dX0_bestFor_49 : decode cX0_bestFor 49 = .ok (.invokevirtual 73, 3) := by decide +kernel
theorem dX0_bestFor_52 : decode cX0_bestFor 52 = .ok (.ifCond .eq 24, 3) := by decide +kernel
theorem dX0_bestFor_55 : decode cX0_bestFor 55 = .ok (.aload_n 0, 1) := by decide +kernel
theorem dX0_bestFor_56 : decode cX0_bestFor 56 = .ok (.iload 4, 2) := by decide +kernel
theorem dX0_bestFor_58 : decode cX0_bestFor 58 = .ok (.iload_n 1, 1) := by decide +kernel
theorem dX0_bestFor_59 : decode cX0_bestFor 59 = .ok (.invokevirtual 77, 3) := by decide +kernel
theorem dX0_bestFor_62 : decode cX0_bestFor 62 = .ok (.istore 5, 2) := by decide +kernel
theorem dX0_bestFor_64 : decode cX0_bestFor 64 = .ok (.iload 5, 2) := by decide +kernel
theorem dX0_bestFor_66 : decode cX0_bestFor 66 = .ok (.iload_n 3, 1) := by decide +kernel
theorem dX0_bestFor_67 : decode cX0_bestFor 67 = .ok (.if_icmp .le 9, 3) := by decide +kernel
theorem dX0_bestFor_70 : decode cX0_bestFor 70 = .ok (.iload 5, 2) := by decide +kernel
theorem dX0_bestFor_72 : decode cX0_bestFor 72 = .ok (.istore_n 3, 1) := by decide +kernel
theorem dX0_bestFor_73 : decode cX0_bestFor 73 = .ok (.iload 4, 2) := by decide +kernel
theorem dX0_bestFor_75 : decode cX0_bestFor 75 = .ok (.istore_n 2, 1) := by decide +kernel
theorem dX0_bestFor_76 : decode cX0_bestFor 76 = .ok (.iinc 4 1, 3) := by decide +kernel
theorem dX0_bestFor_79 : decode cX0_bestFor 79 = .ok (.goto (-65), 3) := by decide +kernel
theorem dX0_bestFor_82 : decode cX0_bestFor 82 = .ok (.iload_n 2, 1) := by decide +kernel
theorem dX0_bestFor_83 : decode cX0_bestFor 83 = .ok (.ireturn, 1) := by decide +kernel
theorem dX0_isFreeFor_0 : decode cX0_isFreeFor 0 = .ok (.aload_n 0, 1) := by decide +kernel
theorem dX0_isFreeFor_1 : decode cX0_isFreeFor 1 = .ok (.getfield 21, 3) := by decide +kernel
theorem dX0_isFreeFor_4 : decode cX0_isFreeFor 4 = .ok (.iload_n 1, 1) := by decide +kernel
theorem dX0_isFreeFor_5 : decode cX0_isFreeFor 5 = .ok (.iaload, 1) := by decide +kernel
theorem dX0_isFreeFor_6 : decode cX0_isFreeFor 6 = .ok (.istore_n 3, 1) := by decide +kernel
theorem dX0_isFreeFor_7 : decode cX0_isFreeFor 7 = .ok (.iload_n 3, 1) := by decide +kernel
theorem dX0_isFreeFor_8 : decode cX0_isFreeFor 8 = .ok (.iload_n 2, 1) := by decide +kernel
theorem dX0_isFreeFor_9 : decode cX0_isFreeFor 9 = .ok (.if_icmp .ge 19, 3) := by decide +kernel
theorem dX0_isFreeFor_12 : decode cX0_isFreeFor 12 = .ok (.aload_n 0, 1) := by decide +kernel
theorem dX0_isFreeFor_13 : decode cX0_isFreeFor 13 = .ok (.getfield 34, 3) := by decide +kernel
theorem dX0_isFreeFor_16 : decode cX0_isFreeFor 16 = .ok (.iload_n 3, 1) := by decide +kernel
theorem dX0_isFreeFor_17 : decode cX0_isFreeFor 17 = .ok (.iaload, 1) := by decide +kernel
theorem dX0_isFreeFor_18 : decode cX0_isFreeFor 18 = .ok (.iconst (-1), 1) := by decide +kernel
theorem dX0_isFreeFor_19 : decode cX0_isFreeFor 19 = .ok (.if_icmp .eq 7, 3) := by decide +kernel
theorem dX0_isFreeFor_22 : decode cX0_isFreeFor 22 = .ok (.iconst 1, 1) := by decide +kernel
theorem dX0_isFreeFor_23 : decode cX0_isFreeFor 23 = .ok (.goto 4, 3) := by decide +kernel
theorem dX0_isFreeFor_26 : decode cX0_isFreeFor 26 = .ok (.iconst 0, 1) := by decide +kernel
theorem dX0_isFreeFor_27 : decode cX0_isFreeFor 27 = .ok (.ireturn, 1) := by decide +kernel
theorem dX0_isFreeFor_28 : decode cX0_isFreeFor 28 = .ok (.iload_n 3, 1) := by decide +kernel
theorem dX0_isFreeFor_29 : decode cX0_isFreeFor 29 = .ok (.iload_n 2, 1) := by decide +kernel
theorem dX0_isFreeFor_30 : decode cX0_isFreeFor 30 = .ok (.if_icmp .eq 18, 3) := by decide +kernel
theorem dX0_isFreeFor_33 : decode cX0_isFreeFor 33 = .ok (.aload_n 0, 1) := by decide +kernel
theorem dX0_isFreeFor_34 : decode cX0_isFreeFor 34 = .ok (.getfield 15, 3) := by decide +kernel
theorem dX0_isFreeFor_37 : decode cX0_isFreeFor 37 = .ok (.iload_n 3, 1) := by decide +kernel
theorem dX0_isFreeFor_38 : decode cX0_isFreeFor 38 = .ok (.iaload, 1) := by decide +kernel
theorem dX0_isFreeFor_39 : decode cX0_isFreeFor 39 = .ok (.aload_n 0, 1) := by decide +kernel
theorem dX0_isFreeFor_40 : decode cX0_isFreeFor 40 = .ok (.getfield 15, 3) := by decide +kernel
theorem dX0_isFreeFor_43 : decode cX0_isFreeFor 43 = .ok (.iload_n 2, 1) := by decide +kernel
theorem dX0_isFreeFor_44 : decode cX0_isFreeFor 44 = .ok (.iaload, 1) := by decide +kernel
theorem dX0_isFreeFor_45 : decode cX0_isFreeFor 45 = .ok (.if_icmp .gt 7, 3) := by decide +kernel
theorem dX0_isFreeFor_48 : decode cX0_isFreeFor 48 = .ok (.iconst 1, 1) := by decide +kernel
theorem dX0_isFreeFor_49 : decode cX0_isFreeFor 49 = .ok (.goto 4, 3) := by decide +kernel
theorem dX0_isFreeFor_52 : decode cX0_isFreeFor 52 = .ok (.iconst 0, 1) := by decide +kernel
theorem dX0_isFreeFor_53 : decode cX0_isFreeFor 53 = .ok (.ireturn, 1) := by decide +kernel
theorem dX0_show_0 : decode cX0_show 0 = .ok (.iconst 0, 1) := by decide +kernel
theorem dX0_show_1 : decode cX0_show 1 = .ok (.istore_n 1, 1) := by decide +kernel
theorem dX0_show_2 : decode cX0_show 2 = .ok (.iconst 0, 1) := by decide +kernel
theorem dX0_show_3 : decode cX0_show 3 = .ok (.istore_n 2, 1) := by decide +kernel
theorem dX0_show_4 : decode cX0_show 4 = .ok (.iload_n 2, 1) := by decide +kernel
theorem dX0_show_5 : decode cX0_show 5 = .ok (.bipush 8, 2) := by decide +kernel
theorem dX0_show_7 : decode cX0_show 7 = .ok (.if_icmp .ge 40, 3) := by decide +kernel
theorem dX0_show_10 : decode cX0_show 10 = .ok (.aload_n 0, 1) := by decide +kernel
theorem dX0_show_11 : decode cX0_show 11 = .ok (.getfield 34, 3) := by decide +kernel
theorem dX0_show_14 : decode cX0_show 14 = .ok (.iload_n 2, 1) := by decide +kernel
theorem dX0_show_15 : decode cX0_show 15 = .ok (.iaload, 1) := by decide +kernel
theorem dX0_show_16 : decode cX0_show 16 = .ok (.iconst (-1), 1) := by decide +kernel
theorem dX0_show_17 : decode cX0_show 17 = .ok (.if_icmp .eq 24, 3) := by decide +kernel
theorem dX0_show_20 : decode cX0_show 20 = .ok (.iload_n 1, 1) := by decide +kernel
theorem dX0_show_21 : decode cX0_show 21 = .ok (.aload_n 0, 1) := by decide +kernel
theorem dX0_show_22 : decode cX0_show 22 = .ok (.getfield 15, 3) := by decide +kernel
theorem dX0_show_25 : decode cX0_show 25 = .ok (.iload_n 2, 1) := by decide +kernel
theorem dX0_show_26 : decode cX0_show 26 = .ok (.iaload, 1) := by decide +kernel
theorem dX0_show_27 : decode cX0_show 27 = .ok (.aload_n 0, 1) := by decide +kernel
theorem dX0_show_28 : decode cX0_show 28 = .ok (.aload_n 0, 1) := by decide +kernel
theorem dX0_show_29 : decode cX0_show 29 = .ok (.getfield 34, 3) := by decide +kernel
theorem dX0_show_32 : decode cX0_show 32 = .ok (.iload_n 2, 1) := by decide +kernel
theorem dX0_show_33 : decode cX0_show 33 = .ok (.iaload, 1) := by decide +kernel
theorem dX0_show_34 : decode cX0_show 34 = .ok (.iload_n 2, 1) := by decide +kernel
theorem dX0_show_35 : decode cX0_show 35 = .ok (.invokevirtual 77, 3) := by decide +kernel
theorem dX0_show_38 : decode cX0_show 38 = .ok (.imul, 1) := by decide +kernel
theorem dX0_show_39 : decode cX0_show 39 = .ok (.iadd, 1) := by decide +kernel
theorem dX0_show_40 : decode cX0_show 40 = .ok (.istore_n 1, 1) := by decide +kernel
theorem dX0_show_41 : decode cX0_show 41 = .ok (.iinc 2 1, 3) := by decide +kernel
theorem dX0_show_44 : decode cX0_show 44 = .ok (.goto (-40), 3) := by decide +kernel
theorem dX0_show_47 : decode cX0_show 47 = .ok (.iload_n 1, 1) := by decide +kernel
theorem dX0_show_48 : decode cX0_show 48 = .ok (.ireturn, 1) := by decide +kernel
theorem dX0_playNight_0 : decode cX0_playNight 0 = .ok (.aload_n 0, 1) := by decide +kernel
theorem dX0_playNight_1 : decode cX0_playNight 1 = .ok (.invokevirtual 80, 3) := by decide +kernel
theorem dX0_playNight_4 : decode cX0_playNight 4 = .ok (.aload_n 0, 1) := by decide +kernel
theorem dX0_playNight_5 : decode cX0_playNight 5 = .ok (.invokevirtual 83, 3) := by decide +kernel
theorem dX0_playNight_8 : decode cX0_playNight 8 = .ok (.istore_n 1, 1) := by decide +kernel
theorem dX0_playNight_9 : decode cX0_playNight 9 = .ok (.aload_n 0, 1) := by decide +kernel
theorem dX0_playNight_10 : decode cX0_playNight 10 = .ok (.aload_n 0, 1) := by decide +kernel
theorem dX0_playNight_11 : decode cX0_playNight 11 = .ok (.getfield 58, 3) := by decide +kernel
theorem dX0_playNight_14 : decode cX0_playNight 14 = .ok (.iload_n 1, 1) := by decide +kernel
theorem dX0_playNight_15 : decode cX0_playNight 15 = .ok (.iadd, 1) := by decide +kernel
theorem dX0_playNight_16 : decode cX0_playNight 16 = .ok (.ldc 87, 2) := by decide +kernel
theorem dX0_playNight_18 : decode cX0_playNight 18 = .ok (.invokestatic 88, 3) := by decide +kernel
theorem dX0_playNight_21 : decode cX0_playNight 21 = .ok (.putfield 58, 3) := by decide +kernel
theorem dX0_playNight_24 : decode cX0_playNight 24 = .ok (.iconst 0, 1) := by decide +kernel
theorem dX0_playNight_25 : decode cX0_playNight 25 = .ok (.istore_n 2, 1) := by decide +kernel
theorem dX0_playNight_26 : decode cX0_playNight 26 = .ok (.iload_n 2, 1) := by decide +kernel
theorem dX0_playNight_27 : decode cX0_playNight 27 = .ok (.aload_n 0, 1) := by decide +kernel
theorem dX0_playNight_28 : decode cX0_playNight 28 = .ok (.getfield 52, 3) := by decide +kernel
theorem dX0_playNight_31 : decode cX0_playNight 31 = .ok (.if_icmp .ge 36, 3) := by decide +kernel
theorem dX0_playNight_34 : decode cX0_playNight 34 = .ok (.aload_n 0, 1) := by decide +kernel
theorem dX0_playNight_35 : decode cX0_playNight 35 = .ok (.getfield 24, 3) := by decide +kernel
theorem dX0_playNight_38 : decode cX0_playNight 38 = .ok (.iload_n 2, 1) := by decide +kernel
theorem dX0_playNight_39 : decode cX0_playNight 39 = .ok (.iaload, 1) := by decide +kernel
theorem dX0_playNight_40 : decode cX0_playNight 40 = .ok (.ifCond .ne 11, 3) := by decide +kernel
theorem dX0_playNight_43 : decode cX0_playNight 43 = .ok (.aload_n 0, 1) := by decide +kernel
theorem dX0_playNight_44 : decode cX0_playNight 44 = .ok (.iload_n 2, 1) := by decide +kernel
theorem dX0_playNight_45 : decode cX0_playNight 45 = .ok (.invokevirtual 93, 3) := by decide +kernel
theorem dX0_playNight_48 : decode cX0_playNight 48 = .ok (.goto 13, 3) := by decide +kernel
theorem dX0_playNight_51 : decode cX0_playNight 51 = .ok (.aload_n 0, 1) := by decide +kernel
theorem dX0_playNight_52 : decode cX0_playNight 52 = .ok (.getfield 24, 3) := by decide +kernel
theorem dX0_playNight_55 : decode cX0_playNight 55 = .ok (.iload_n 2, 1) := by decide +kernel
theorem dX0_playNight_56 : decode cX0_playNight 56 = .ok (.dup2, 1) := by decide +kernel
theorem dX0_playNight_57 : decode cX0_playNight 57 = .ok (.iaload, 1) := by decide +kernel
theorem dX0_playNight_58 : decode cX0_playNight 58 = .ok (.iconst 1, 1) := by decide +kernel
theorem dX0_playNight_59 : decode cX0_playNight 59 = .ok (.isub, 1) := by decide +kernel
theorem dX0_playNight_60 : decode cX0_playNight 60 = .ok (.iastore, 1) := by decide +kernel
theorem dX0_playNight_61 : decode cX0_playNight 61 = .ok (.iinc 2 1, 3) := by decide +kernel
theorem dX0_playNight_64 : decode cX0_playNight 64 = .ok (.goto (-38), 3) := by decide +kernel
theorem dX0_playNight_67 : decode cX0_playNight 67 = .ok (.aload_n 0, 1) := by decide +kernel
theorem dX0_playNight_68 : decode cX0_playNight 68 = .ok (.dup, 1) := by decide +kernel
theorem dX0_playNight_69 : decode cX0_playNight 69 = .ok (.getfield 55, 3) := by decide +kernel
theorem dX0_playNight_72 : decode cX0_playNight 72 = .ok (.iconst 1, 1) := by decide +kernel
theorem dX0_playNight_73 : decode cX0_playNight 73 = .ok (.iadd, 1) := by decide +kernel
theorem dX0_playNight_74 : decode cX0_playNight 74 = .ok (.putfield 55, 3) := by decide +kernel
theorem dX0_playNight_77 : decode cX0_playNight 77 = .ok (.iload_n 1, 1) := by decide +kernel
theorem dX0_playNight_78 : decode cX0_playNight 78 = .ok (.ireturn, 1) := by decide +kernel
theorem dX0_learnAndForget_0 : decode cX0_learnAndForget 0 = .ok (.aload_n 0, 1) := by decide +kernel
theorem dX0_learnAndForget_1 : decode cX0_learnAndForget 1 = .ok (.getfield 37, 3) := by decide +kernel
theorem dX0_learnAndForget_4 : decode cX0_learnAndForget 4 = .ok (.iload_n 1, 1) := by decide +kernel
theorem dX0_learnAndForget_5 : decode cX0_learnAndForget 5 = .ok (.iaload, 1) := by decide +kernel
theorem dX0_learnAndForget_6 : decode cX0_learnAndForget 6 = .ok (.istore_n 2, 1) := by decide +kernel
theorem dX0_learnAndForget_7 : decode cX0_learnAndForget 7 = .ok (.aload_n 0, 1) := by decide +kernel
theorem dX0_learnAndForget_8 : decode cX0_learnAndForget 8 = .ok (.iload_n 1, 1) := by decide +kernel
theorem dX0_learnAndForget_9 : decode cX0_learnAndForget 9 = .ok (.invokevirtual 97, 3) := by decide +kernel
theorem dX0_learnAndForget_12 : decode cX0_learnAndForget 12 = .ok (.istore_n 3, 1) := by decide +kernel
theorem dX0_learnAndForget_13 : decode cX0_learnAndForget 13 = .ok (.aload_n 0, 1) := by decide +kernel
theorem dX0_learnAndForget_14 : decode cX0_learnAndForget 14 = .ok (.iload_n 1, 1) := by decide +kernel
theorem dX0_learnAndForget_15 : decode cX0_learnAndForget 15 = .ok (.invokevirtual 100, 3) := by decide +kernel
theorem dX0_learnAndForget_18 : decode cX0_learnAndForget 18 = .ok (.istore 4, 2) := by decide +kernel
theorem dX0_learnAndForget_20 : decode cX0_learnAndForget 20 = .ok (.iload_n 1, 1) := by decide +kernel
theorem dX0_learnAndForget_21 : decode cX0_learnAndForget 21 = .ok (.bipush 8, 2) := by decide +kernel
theorem dX0_learnAndForget_23 : decode cX0_learnAndForget 23 = .ok (.imul, 1) := by decide +kernel
theorem dX0_learnAndForget_24 : decode cX0_learnAndForget 24 = .ok (.istore 5, 2) := by decide +kernel
theorem dX0_learnAndForget_26 : decode cX0_learnAndForget 26 = .ok (.iconst 0, 1) := by decide +kernel
theorem dX0_learnAndForget_27 : decode cX0_learnAndForget 27 = .ok (.istore 6, 2) := by decide +kernel
theorem dX0_learnAndForget_29 : decode cX0_learnAndForget 29 = .ok (.iload 6, 2) := by decide +kernel
theorem dX0_learnAndForget_31 : decode cX0_learnAndForget 31 = .ok (.bipush 8, 2) := by decide +kernel
theorem dX0_learnAndForget_33 : decode cX0_learnAndForget 33 = .ok (.if_icmp .ge 52, 3) := by decide +kernel
theorem dX0_learnAndForget_36 : decode cX0_learnAndForget 36 = .ok (.iload 6, 2) := by decide +kernel
theorem dX0_learnAndForget_38 : decode cX0_learnAndForget 38 = .ok (.iload_n 2, 1) := by decide +kernel
theorem dX0_learnAndForget_39 : decode cX0_learnAndForget 39 = .ok (.if_icmp .ne 7, 3) := by decide +kernel
theorem dX0_learnAndForget_42 : decode cX0_learnAndForget 42 = .ok (.iload_n 3, 1) := by decide +kernel
theorem dX0_learnAndForget_43 : decode cX0_learnAndForget 43 = .ok (.goto 6, 3) := by decide +kernel
theorem dX0_learnAndForget_46 : decode cX0_learnAndForget 46 = .ok (.iload 4, 2) := by decide +kernel
theorem dX0_learnAndForget_48 : decode cX0_learnAndForget 48 = .ok (.ineg, 1) := by decide +kernel
theorem dX0_learnAndForget_49 : decode cX0_learnAndForget 49 = .ok (.istore 7, 2) := by decide +kernel
theorem dX0_learnAndForget_51 : decode cX0_learnAndForget 51 = .ok (.aload_n 0, 1) := by decide +kernel
theorem dX0_learnAndForget_52 : decode cX0_learnAndForget 52 = .ok (.getfield 27, 3) := by decide +kernel
theorem dX0_learnAndForget_55 : decode cX0_learnAndForget 55 = .ok (.iload 5, 2) := by decide +kernel
theorem dX0_learnAndForget_57 : decode cX0_learnAndForget 57 = .ok (.iload 6, 2) := by decide +kernel
theorem dX0_learnAndForget_59 : decode cX0_learnAndForget 59 = .ok (.iadd, 1) := by decide +kernel
theorem dX0_learnAndForget_60 : decode cX0_learnAndForget 60 = .ok (.aload_n 0, 1) := by decide +kernel
theorem dX0_learnAndForget_61 : decode cX0_learnAndForget 61 = .ok (.getfield 27, 3) := by decide +kernel
theorem dX0_learnAndForget_64 : decode cX0_learnAndForget 64 = .ok (.iload 5, 2) := by decide +kernel
theorem dX0_learnAndForget_66 : decode cX0_learnAndForget 66 = .ok (.iload 6, 2) := by decide +kernel
theorem dX0_learnAndForget_68 : decode cX0_learnAndForget 68 = .ok (.iadd, 1) := by decide +kernel
theorem dX0_learnAndForget_69 : decode cX0_learnAndForget 69 = .ok (.iaload, 1) := by decide +kernel
theorem dX0_learnAndForget_70 : decode cX0_learnAndForget 70 = .ok (.iload 7, 2) := by decide +kernel
theorem dX0_learnAndForget_72 : decode cX0_learnAndForget 72 = .ok (.iadd, 1) := by decide +kernel
theorem dX0_learnAndForget_73 : decode cX0_learnAndForget 73 = .ok (.bipush 99, 2) := by decide +kernel
theorem dX0_learnAndForget_75 : decode cX0_learnAndForget 75 = .ok (.invokestatic 65, 3) := by decide +kernel
theorem dX0_learnAndForget_78 : decode cX0_learnAndForget 78 = .ok (.iastore, 1) := by decide +kernel
theorem dX0_learnAndForget_79 : decode cX0_learnAndForget 79 = .ok (.iinc 6 1, 3) := by decide +kernel
theorem dX0_learnAndForget_82 : decode cX0_learnAndForget 82 = .ok (.goto (-53), 3) := by decide +kernel
theorem dX0_learnAndForget_85 : decode cX0_learnAndForget 85 = .ok (.return_, 1) := by decide +kernel
theorem dX0_draw_0 : decode cX0_draw 0 = .ok (.aload_n 0, 1) := by decide +kernel
theorem dX0_draw_1 : decode cX0_draw 1 = .ok (.aload_n 0, 1) := by decide +kernel
theorem dX0_draw_2 : decode cX0_draw 2 = .ok (.getfield 30, 3) := by decide +kernel
theorem dX0_draw_5 : decode cX0_draw 5 = .ok (.ldc 103, 2) := by decide +kernel
theorem dX0_draw_7 : decode cX0_draw 7 = .ok (.imul, 1) := by decide +kernel
theorem dX0_draw_8 : decode cX0_draw 8 = .ok (.sipush 12345, 3) := by decide +kernel
theorem dX0_draw_11 : decode cX0_draw 11 = .ok (.iadd, 1) := by decide +kernel
theorem dX0_draw_12 : decode cX0_draw 12 = .ok (.putfield 30, 3) := by decide +kernel
theorem dX0_draw_15 : decode cX0_draw 15 = .ok (.aload_n 0, 1) := by decide +kernel
theorem dX0_draw_16 : decode cX0_draw 16 = .ok (.getfield 30, 3) := by decide +kernel
theorem dX0_draw_19 : decode cX0_draw 19 = .ok (.bipush 16, 2) := by decide +kernel
theorem dX0_draw_21 : decode cX0_draw 21 = .ok (.iushr, 1) := by decide +kernel
theorem dX0_draw_22 : decode cX0_draw 22 = .ok (.ireturn, 1) := by decide +kernel
theorem dX0_drawThroat_0 : decode cX0_drawThroat 0 = .ok (.aload_n 0, 1) := by decide +kernel
theorem dX0_drawThroat_1 : decode cX0_drawThroat 1 = .ok (.getfield 52, 3) := by decide +kernel
theorem dX0_drawThroat_4 : decode cX0_drawThroat 4 = .ok (.ifCond .le 51, 3) := by decide +kernel
theorem dX0_drawThroat_7 : decode cX0_drawThroat 7 = .ok (.aload_n 0, 1) := by decide +kernel
theorem dX0_drawThroat_8 : decode cX0_drawThroat 8 = .ok (.invokevirtual 104, 3) := by decide +kernel
theorem dX0_drawThroat_11 : decode cX0_drawThroat 11 = .ok (.aload_n 0, 1) := by decide +kernel
theorem dX0_drawThroat_12 : decode cX0_drawThroat 12 = .ok (.getfield 52, 3) := by decide +kernel
theorem dX0_drawThroat_15 : decode cX0_drawThroat 15 = .ok (.irem, 1) := by decide +kernel
theorem dX0_drawThroat_16 : decode cX0_drawThroat 16 = .ok (.istore_n 1, 1) := by decide +kernel
theorem dX0_drawThroat_17 : decode cX0_drawThroat 17 = .ok (.aload_n 0, 1) := by decide +kernel
theorem dX0_drawThroat_18 : decode cX0_drawThroat 18 = .ok (.invokevirtual 104, 3) := by decide +kernel
theorem dX0_drawThroat_21 : decode cX0_drawThroat 21 = .ok (.bipush 100, 2) := by decide +kernel
theorem dX0_drawThroat_23 : decode cX0_drawThroat 23 = .ok (.irem, 1) := by decide +kernel
theorem dX0_drawThroat_24 : decode cX0_drawThroat 24 = .ok (.aload_n 0, 1) := by decide +kernel
theorem dX0_drawThroat_25 : decode cX0_drawThroat 25 = .ok (.getfield 9, 3) := by decide +kernel
theorem dX0_drawThroat_28 : decode cX0_drawThroat 28 = .ok (.iconst 3, 1) := by decide +kernel
theorem dX0_drawThroat_29 : decode cX0_drawThroat 29 = .ok (.iaload, 1) := by decide +kernel
theorem dX0_drawThroat_30 : decode cX0_drawThroat 30 = .ok (.if_icmp .ge 25, 3) := by decide +kernel
theorem dX0_drawThroat_33 : decode cX0_drawThroat 33 = .ok (.aload_n 0, 1) := by decide +kernel
theorem dX0_drawThroat_34 : decode cX0_drawThroat 34 = .ok (.getfield 24, 3) := by decide +kernel
theorem dX0_drawThroat_37 : decode cX0_drawThroat 37 = .ok (.iload_n 1, 1) := by decide +kernel
theorem dX0_drawThroat_38 : decode cX0_drawThroat 38 = .ok (.aload_n 0, 1) := by decide +kernel
theorem dX0_drawThroat_39 : decode cX0_drawThroat 39 = .ok (.getfield 24, 3) := by decide +kernel
theorem dX0_drawThroat_42 : decode cX0_drawThroat 42 = .ok (.iload_n 1, 1) := by decide +kernel
theorem dX0_drawThroat_43 : decode cX0_drawThroat 43 = .ok (.iaload, 1) := by decide +kernel
theorem dX0_drawThroat_44 : decode cX0_drawThroat 44 = .ok (.aload_n 0, 1) := by decide +kernel
theorem dX0_drawThroat_45 : decode cX0_drawThroat 45 = .ok (.invokevirtual 104, 3) := by decide +kernel
theorem dX0_drawThroat_48 : decode cX0_drawThroat 48 = .ok (.bipush 10, 2) := by decide +kernel
theorem dX0_drawThroat_50 : decode cX0_drawThroat 50 = .ok (.irem, 1) := by decide +kernel
theorem dX0_drawThroat_51 : decode cX0_drawThroat 51 = .ok (.invokestatic 107, 3) := by decide +kernel
theorem dX0_drawThroat_54 : decode cX0_drawThroat 54 = .ok (.iastore, 1) := by decide +kernel
theorem dX0_drawThroat_55 : decode cX0_drawThroat 55 = .ok (.return_, 1) := by decide +kernel
theorem dX0_cutParts_0 : decode cX0_cutParts 0 = .ok (.iconst 0, 1) := by decide +kernel
theorem dX0_cutParts_1 : decode cX0_cutParts 1 = .ok (.istore_n 1, 1) := by decide +kernel
theorem dX0_cutParts_2 : decode cX0_cutParts 2 = .ok (.iconst 0, 1) := by decide +kernel
theorem dX0_cutParts_3 : decode cX0_cutParts 3 = .ok (.istore_n 2, 1) := by decide +kernel
theorem dX0_cutParts_4 : decode cX0_cutParts 4 = .ok (.iload_n 2, 1) := by decide +kernel
theorem dX0_cutParts_5 : decode cX0_cutParts 5 = .ok (.bipush 8, 2) := by decide +kernel
theorem dX0_cutParts_7 : decode cX0_cutParts 7 = .ok (.if_icmp .ge 25, 3) := by decide +kernel
theorem dX0_cutParts_10 : decode cX0_cutParts 10 = .ok (.aload_n 0, 1) := by decide +kernel
theorem dX0_cutParts_11 : decode cX0_cutParts 11 = .ok (.getfield 34, 3) := by decide +kernel
theorem dX0_cutParts_14 : decode cX0_cutParts 14 = .ok (.iload_n 2, 1) := by decide +kernel
theorem dX0_cutParts_15 : decode cX0_cutParts 15 = .ok (.iaload, 1) := by decide +kernel
theorem dX0_cutParts_16 : decode cX0_cutParts 16 = .ok (.iconst (-1), 1) := by decide +kernel
theorem dX0_cutParts_17 : decode cX0_cutParts 17 = .ok (.if_icmp .ne 9, 3) := by decide +kernel
theorem dX0_cutParts_20 : decode cX0_cutParts 20 = .ok (.iload_n 1, 1) := by decide +kernel
theorem dX0_cutParts_21 : decode cX0_cutParts 21 = .ok (.iconst 1, 1) := by decide +kernel
theorem dX0_cutParts_22 : decode cX0_cutParts 22 = .ok (.iload_n 2, 1) := by decide +kernel
theorem dX0_cutParts_23 : decode cX0_cutParts 23 = .ok (.ishl, 1) := by decide +kernel
theorem dX0_cutParts_24 : decode cX0_cutParts 24 = .ok (.ior, 1) := by decide +kernel
theorem dX0_cutParts_25 : decode cX0_cutParts 25 = .ok (.istore_n 1, 1) := by decide +kernel
theorem dX0_cutParts_26 : decode cX0_cutParts 26 = .ok (.iinc 2 1, 3) := by decide +kernel
theorem dX0_cutParts_29 : decode cX0_cutParts 29 = .ok (.goto (-25), 3) := by decide +kernel
theorem dX0_cutParts_32 : decode cX0_cutParts 32 = .ok (.iload_n 1, 1) := by decide +kernel
theorem dX0_cutParts_33 : decode cX0_cutParts 33 = .ok (.ireturn, 1) := by decide +kernel
theorem dX0_illPlayers_0 : decode cX0_illPlayers 0 = .ok (.iconst 0, 1) := by decide +kernel
theorem dX0_illPlayers_1 : decode cX0_illPlayers 1 = .ok (.istore_n 1, 1) := by decide +kernel
theorem dX0_illPlayers_2 : decode cX0_illPlayers 2 = .ok (.iconst 0, 1) := by decide +kernel
theorem dX0_illPlayers_3 : decode cX0_illPlayers 3 = .ok (.istore_n 2, 1) := by decide +kernel
theorem dX0_illPlayers_4 : decode cX0_illPlayers 4 = .ok (.iload_n 2, 1) := by decide +kernel
theorem dX0_illPlayers_5 : decode cX0_illPlayers 5 = .ok (.aload_n 0, 1) := by decide +kernel
theorem dX0_illPlayers_6 : decode cX0_illPlayers 6 = .ok (.getfield 52, 3) := by decide +kernel
theorem dX0_illPlayers_9 : decode cX0_illPlayers 9 = .ok (.if_icmp .ge 24, 3) := by decide +kernel
theorem dX0_illPlayers_12 : decode cX0_illPlayers 12 = .ok (.aload_n 0, 1) := by decide +kernel
theorem dX0_illPlayers_13 : decode cX0_illPlayers 13 = .ok (.getfield 24, 3) := by decide +kernel
theorem dX0_illPlayers_16 : decode cX0_illPlayers 16 = .ok (.iload_n 2, 1) := by decide +kernel
theorem dX0_illPlayers_17 : decode cX0_illPlayers 17 = .ok (.iaload, 1) := by decide +kernel
theorem dX0_illPlayers_18 : decode cX0_illPlayers 18 = .ok (.ifCond .le 9, 3) := by decide +kernel
theorem dX0_illPlayers_21 : decode cX0_illPlayers 21 = .ok (.iload_n 1, 1) := by decide +kernel
theorem dX0_illPlayers_22 : decode cX0_illPlayers 22 = .ok (.iconst 1, 1) := by decide +kernel
theorem dX0_illPlayers_23 : decode cX0_illPlayers 23 = .ok (.iload_n 2, 1) := by decide +kernel
theorem dX0_illPlayers_24 : decode cX0_illPlayers 24 = .ok (.ishl, 1) := by decide +kernel
theorem dX0_illPlayers_25 : decode cX0_illPlayers 25 = .ok (.ior, 1) := by decide +kernel
theorem dX0_illPlayers_26 : decode cX0_illPlayers 26 = .ok (.istore_n 1, 1) := by decide +kernel
theorem dX0_illPlayers_27 : decode cX0_illPlayers 27 = .ok (.iinc 2 1, 3) := by decide +kernel
theorem dX0_illPlayers_30 : decode cX0_illPlayers 30 = .ok (.goto (-26), 3) := by decide +kernel
theorem dX0_illPlayers_33 : decode cX0_illPlayers 33 = .ok (.iload_n 1, 1) := by decide +kernel
theorem dX0_illPlayers_34 : decode cX0_illPlayers 34 = .ok (.ireturn, 1) := by decide +kernel
theorem dX0_moved_0 : decode cX0_moved 0 = .ok (.iconst 0, 1) := by decide +kernel
theorem dX0_moved_1 : decode cX0_moved 1 = .ok (.istore_n 1, 1) := by decide +kernel
theorem dX0_moved_2 : decode cX0_moved 2 = .ok (.iconst 0, 1) := by decide +kernel
theorem dX0_moved_3 : decode cX0_moved 3 = .ok (.istore_n 2, 1) := by decide +kernel
theorem dX0_moved_4 : decode cX0_moved 4 = .ok (.iload_n 2, 1) := by decide +kernel
theorem dX0_moved_5 : decode cX0_moved 5 = .ok (.aload_n 0, 1) := by decide +kernel
theorem dX0_moved_6 : decode cX0_moved 6 = .ok (.getfield 52, 3) := by decide +kernel
theorem dX0_moved_9 : decode cX0_moved 9 = .ok (.if_icmp .ge 38, 3) := by decide +kernel
theorem dX0_moved_12 : decode cX0_moved 12 = .ok (.aload_n 0, 1) := by decide +kernel
theorem dX0_moved_13 : decode cX0_moved 13 = .ok (.getfield 37, 3) := by decide +kernel
theorem dX0_moved_16 : decode cX0_moved 16 = .ok (.iload_n 2, 1) := by decide +kernel
theorem dX0_moved_17 : decode cX0_moved 17 = .ok (.iaload, 1) := by decide +kernel
theorem dX0_moved_18 : decode cX0_moved 18 = .ok (.bipush 8, 2) := by decide +kernel
theorem dX0_moved_20 : decode cX0_moved 20 = .ok (.if_icmp .eq 21, 3) := by decide +kernel
theorem dX0_moved_23 : decode cX0_moved 23 = .ok (.aload_n 0, 1) := by decide +kernel
theorem dX0_moved_24 : decode cX0_moved 24 = .ok (.getfield 37, 3) := by decide +kernel
theorem dX0_moved_27 : decode cX0_moved 27 = .ok (.iload_n 2, 1) := by decide +kernel
theorem dX0_moved_28 : decode cX0_moved 28 = .ok (.iaload, 1) := by decide +kernel
theorem dX0_moved_29 : decode cX0_moved 29 = .ok (.aload_n 0, 1) := by decide +kernel
theorem dX0_moved_30 : decode cX0_moved 30 = .ok (.getfield 21, 3) := by decide +kernel
theorem dX0_moved_33 : decode cX0_moved 33 = .ok (.iload_n 2, 1) := by decide +kernel
theorem dX0_moved_34 : decode cX0_moved 34 = .ok (.iaload, 1) := by decide +kernel
theorem dX0_moved_35 : decode cX0_moved 35 = .ok (.if_icmp .eq 6, 3) := by decide +kernel
theorem dX0_moved_38 : decode cX0_moved 38 = .ok (.iinc 1 1, 3) := by decide +kernel
theorem dX0_moved_41 : decode cX0_moved 41 = .ok (.iinc 2 1, 3) := by decide +kernel
theorem dX0_moved_44 : decode cX0_moved 44 = .ok (.goto (-40), 3) := by decide +kernel
theorem dX0_moved_47 : decode cX0_moved 47 = .ok (.iload_n 1, 1) := by decide +kernel
theorem dX0_moved_48 : decode cX0_moved 48 = .ok (.ireturn, 1) := by decide +kernel
theorem dX0_ownersOf_0 : decode cX0_ownersOf 0 = .ok (.iconst 0, 1) := by decide +kernel
theorem dX0_ownersOf_1 : decode cX0_ownersOf 1 = .ok (.istore_n 2, 1) := by decide +kernel
theorem dX0_ownersOf_2 : decode cX0_ownersOf 2 = .ok (.iconst 0, 1) := by decide +kernel
theorem dX0_ownersOf_3 : decode cX0_ownersOf 3 = .ok (.istore_n 3, 1) := by decide +kernel
theorem dX0_ownersOf_4 : decode cX0_ownersOf 4 = .ok (.iload_n 3, 1) := by decide +kernel
theorem dX0_ownersOf_5 : decode cX0_ownersOf 5 = .ok (.aload_n 0, 1) := by decide +kernel
theorem dX0_ownersOf_6 : decode cX0_ownersOf 6 = .ok (.getfield 52, 3) := by decide +kernel
theorem dX0_ownersOf_9 : decode cX0_ownersOf 9 = .ok (.if_icmp .ge 25, 3) := by decide +kernel
theorem dX0_ownersOf_12 : decode cX0_ownersOf 12 = .ok (.aload_n 0, 1) := by decide +kernel
theorem dX0_ownersOf_13 : decode cX0_ownersOf 13 = .ok (.getfield 21, 3) := by decide +kernel
theorem dX0_ownersOf_16 : decode cX0_ownersOf 16 = .ok (.iload_n 3, 1) := by decide +kernel
theorem dX0_ownersOf_17 : decode cX0_ownersOf 17 = .ok (.iaload, 1) := by decide +kernel
theorem dX0_ownersOf_18 : decode cX0_ownersOf 18 = .ok (.iload_n 1, 1) := by decide +kernel
theorem dX0_ownersOf_19 : decode cX0_ownersOf 19 = .ok (.if_icmp .ne 9, 3) := by decide +kernel
theorem dX0_ownersOf_22 : decode cX0_ownersOf 22 = .ok (.iload_n 2, 1) := by decide +kernel
theorem dX0_ownersOf_23 : decode cX0_ownersOf 23 = .ok (.iconst 1, 1) := by decide +kernel
theorem dX0_ownersOf_24 : decode cX0_ownersOf 24 = .ok (.iload_n 3, 1) := by decide +kernel
theorem dX0_ownersOf_25 : decode cX0_ownersOf 25 = .ok (.ishl, 1) := by decide +kernel
theorem dX0_ownersOf_26 : decode cX0_ownersOf 26 = .ok (.ior, 1) := by decide +kernel
theorem dX0_ownersOf_27 : decode cX0_ownersOf 27 = .ok (.istore_n 2, 1) := by decide +kernel
theorem dX0_ownersOf_28 : decode cX0_ownersOf 28 = .ok (.iinc 3 1, 3) := by decide +kernel
theorem dX0_ownersOf_31 : decode cX0_ownersOf 31 = .ok (.goto (-27), 3) := by decide +kernel
theorem dX0_ownersOf_34 : decode cX0_ownersOf 34 = .ok (.iload_n 2, 1) := by decide +kernel
theorem dX0_ownersOf_35 : decode cX0_ownersOf 35 = .ok (.ireturn, 1) := by decide +kernel
theorem dX0_partsOwned_0 : decode cX0_partsOwned 0 = .ok (.iconst 0, 1) := by decide +kernel
theorem dX0_partsOwned_1 : decode cX0_partsOwned 1 = .ok (.istore_n 1, 1) := by decide +kernel
theorem dX0_partsOwned_2 : decode cX0_partsOwned 2 = .ok (.iconst 0, 1) := by decide +kernel
theorem dX0_partsOwned_3 : decode cX0_partsOwned 3 = .ok (.istore_n 2, 1) := by decide +kernel
theorem dX0_partsOwned_4 : decode cX0_partsOwned 4 = .ok (.iload_n 2, 1) := by decide +kernel
theorem dX0_partsOwned_5 : decode cX0_partsOwned 5 = .ok (.aload_n 0, 1) := by decide +kernel
theorem dX0_partsOwned_6 : decode cX0_partsOwned 6 = .ok (.getfield 52, 3) := by decide +kernel
theorem dX0_partsOwned_9 : decode cX0_partsOwned 9 = .ok (.if_icmp .ge 20, 3) := by decide +kernel
theorem dX0_partsOwned_12 : decode cX0_partsOwned 12 = .ok (.iload_n 1, 1) := by decide +kernel
theorem dX0_partsOwned_13 : decode cX0_partsOwned 13 = .ok (.iconst 1, 1) := by decide +kernel
theorem dX0_partsOwned_14 : decode cX0_partsOwned 14 = .ok (.aload_n 0, 1) := by decide +kernel
theorem dX0_partsOwned_15 : decode cX0_partsOwned 15 = .ok (.getfield 21, 3) := by decide +kernel
theorem dX0_partsOwned_18 : decode cX0_partsOwned 18 = .ok (.iload_n 2, 1) := by decide +kernel
theorem dX0_partsOwned_19 : decode cX0_partsOwned 19 = .ok (.iaload, 1) := by decide +kernel
theorem dX0_partsOwned_20 : decode cX0_partsOwned 20 = .ok (.ishl, 1) := by decide +kernel
theorem dX0_partsOwned_21 : decode cX0_partsOwned 21 = .ok (.ior, 1) := by decide +kernel
theorem dX0_partsOwned_22 : decode cX0_partsOwned 22 = .ok (.istore_n 1, 1) := by decide +kernel
theorem dX0_partsOwned_23 : decode cX0_partsOwned 23 = .ok (.iinc 2 1, 3) := by decide +kernel
theorem dX0_partsOwned_26 : decode cX0_partsOwned 26 = .ok (.goto (-22), 3) := by decide +kernel
theorem dX0_partsOwned_29 : decode cX0_partsOwned 29 = .ok (.iload_n 1, 1) := by decide +kernel
theorem dX0_partsOwned_30 : decode cX0_partsOwned 30 = .ok (.invokestatic 110, 3) := by decide +kernel
theorem dX0_partsOwned_33 : decode cX0_partsOwned 33 = .ok (.ireturn, 1) := by decide +kernel
