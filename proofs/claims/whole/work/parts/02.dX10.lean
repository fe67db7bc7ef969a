theorem dX10_init_0 : decode cX10_init 0 = .ok (.aload_n 0, 1) := by decide +kernel
theorem dX10_init_1 : decode cX10_init 1 = .ok (.invokespecial 3, 3) := by decide +kernel
theorem dX10_init_4 : decode cX10_init 4 = .ok (.aload_n 0, 1) := by decide +kernel
theorem dX10_init_5 : decode cX10_init 5 = .ok (.aload_n 1, 1) := by decide +kernel
theorem dX10_init_6 : decode cX10_init 6 = .ok (.putfield 9, 3) := by decide +kernel
theorem dX10_init_9 : decode cX10_init 9 = .ok (.aload_n 0, 1) := by decide +kernel
theorem dX10_init_10 : decode cX10_init 10 = .ok (.aload_n 2, 1) := by decide +kernel
theorem dX10_init_11 : decode cX10_init 11 = .ok (.putfield 15, 3) := by decide +kernel
theorem dX10_init_14 : decode cX10_init 14 = .ok (.return_, 1) := by decide +kernel
theorem dX10_takeFor_0 : decode cX10_takeFor 0 = .ok (.aload_n 0, 1) := by decide +kernel
theorem dX10_takeFor_1 : decode cX10_takeFor 1 = .ok (.getfield 15, 3) := by decide +kernel
theorem dX10_takeFor_4 : decode cX10_takeFor 4 = .ok (.getfield 18, 3) := by decide +kernel
theorem dX10_takeFor_7 : decode cX10_takeFor 7 = .ok (.istore_n 2, 1) := by decide +kernel
theorem dX10_takeFor_8 : decode cX10_takeFor 8 = .ok (.iconst 0, 1) := by decide +kernel
theorem dX10_takeFor_9 : decode cX10_takeFor 9 = .ok (.istore_n 3, 1) := by decide +kernel
theorem dX10_takeFor_10 : decode cX10_takeFor 10 = .ok (.iload_n 3, 1) := by decide +kernel
theorem dX10_takeFor_11 : decode cX10_takeFor 11 = .ok (.iload_n 1, 1) := by decide +kernel
theorem dX10_takeFor_12 : decode cX10_takeFor 12 = .ok (.if_icmp .ge 19, 3) := by decide +kernel
theorem dX10_takeFor_15 : decode cX10_takeFor 15 = .ok (.iload_n 2, 1) := by decide +kernel
theorem dX10_takeFor_16 : decode cX10_takeFor 16 = .ok (.aload_n 0, 1) := by decide +kernel
theorem dX10_takeFor_17 : decode cX10_takeFor 17 = .ok (.getfield 15, 3) := by decide +kernel
theorem dX10_takeFor_20 : decode cX10_takeFor 20 = .ok (.invokevirtual 24, 3) := by decide +kernel
theorem dX10_takeFor_23 : decode cX10_takeFor 23 = .ok (.iadd, 1) := by decide +kernel
theorem dX10_takeFor_24 : decode cX10_takeFor 24 = .ok (.istore_n 2, 1) := by decide +kernel
theorem dX10_takeFor_25 : decode cX10_takeFor 25 = .ok (.iinc 3 1, 3) := by decide +kernel
theorem dX10_takeFor_28 : decode cX10_takeFor 28 = .ok (.goto (-18), 3) := by decide +kernel
theorem dX10_takeFor_31 : decode cX10_takeFor 31 = .ok (.iload_n 2, 1) := by decide +kernel
theorem dX10_takeFor_32 : decode cX10_takeFor 32 = .ok (.ireturn, 1) := by decide +kernel
theorem dX10_takenBehind_0 : decode cX10_takenBehind 0 = .ok (.aload_n 0, 1) := by decide +kernel
theorem dX10_takenBehind_1 : decode cX10_takenBehind 1 = .ok (.getfield 15, 3) := by decide +kernel
theorem dX10_takenBehind_4 : decode cX10_takenBehind 4 = .ok (.aload_n 0, 1) := by decide +kernel
theorem dX10_takenBehind_5 : decode cX10_takenBehind 5 = .ok (.getfield 9, 3) := by decide +kernel
theorem dX10_takenBehind_8 : decode cX10_takenBehind 8 = .ok (.invokevirtual 28, 3) := by decide +kernel
theorem dX10_takenBehind_11 : decode cX10_takenBehind 11 = .ok (.aload_n 0, 1) := by decide +kernel
theorem dX10_takenBehind_12 : decode cX10_takenBehind 12 = .ok (.iload_n 1, 1) := by decide +kernel
theorem dX10_takenBehind_13 : decode cX10_takenBehind 13 = .ok (.invokevirtual 32, 3) := by decide +kernel
theorem dX10_takenBehind_16 : decode cX10_takenBehind 16 = .ok (.ireturn, 1) := by decide +kernel
theorem dX10_knowingBehind_0 : decode cX10_knowingBehind 0 = .ok (.aload_n 0, 1) := by decide +kernel
theorem dX10_knowingBehind_1 : decode cX10_knowingBehind 1 = .ok (.getfield 15, 3) := by decide +kernel
theorem dX10_knowingBehind_4 : decode cX10_knowingBehind 4 = .ok (.aload_n 0, 1) := by decide +kernel
theorem dX10_knowingBehind_5 : decode cX10_knowingBehind 5 = .ok (.getfield 9, 3) := by decide +kernel
theorem dX10_knowingBehind_8 : decode cX10_knowingBehind 8 = .ok (.invokevirtual 28, 3) := by decide +kernel
theorem dX10_knowingBehind_11 : decode cX10_knowingBehind 11 = .ok (.aload_n 0, 1) := by decide +kernel
theorem dX10_knowingBehind_12 : decode cX10_knowingBehind 12 = .ok (.iload_n 3, 1) := by decide +kernel
theorem dX10_knowingBehind_13 : decode cX10_knowingBehind 13 = .ok (.invokevirtual 32, 3) := by decide +kernel
theorem dX10_knowingBehind_16 : decode cX10_knowingBehind 16 = .ok (.pop, 1) := by decide +kernel
theorem dX10_knowingBehind_17 : decode cX10_knowingBehind 17 = .ok (.aload_n 0, 1) := by decide +kernel
theorem dX10_knowingBehind_18 : decode cX10_knowingBehind 18 = .ok (.getfield 15, 3) := by decide +kernel
theorem dX10_knowingBehind_21 : decode cX10_knowingBehind 21 = .ok (.iload_n 1, 1) := by decide +kernel
theorem dX10_knowingBehind_22 : decode cX10_knowingBehind 22 = .ok (.iload_n 2, 1) := by decide +kernel
theorem dX10_knowingBehind_23 : decode cX10_knowingBehind 23 = .ok (.invokevirtual 36, 3) := by decide +kernel
theorem dX10_knowingBehind_26 : decode cX10_knowingBehind 26 = .ok (.ireturn, 1) := by decide +kernel
theorem dX10_firstOnBill_0 : decode cX10_firstOnBill 0 = .ok (.aload_n 0, 1) := by decide +kernel
theorem dX10_firstOnBill_1 : decode cX10_firstOnBill 1 = .ok (.getfield 15, 3) := by decide +kernel
theorem dX10_firstOnBill_4 : decode cX10_firstOnBill 4 = .ok (.aload_n 0, 1) := by decide +kernel
theorem dX10_firstOnBill_5 : decode cX10_firstOnBill 5 = .ok (.getfield 9, 3) := by decide +kernel
theorem dX10_firstOnBill_8 : decode cX10_firstOnBill 8 = .ok (.invokevirtual 28, 3) := by decide +kernel
theorem dX10_firstOnBill_11 : decode cX10_firstOnBill 11 = .ok (.iconst 0, 1) := by decide +kernel
theorem dX10_firstOnBill_12 : decode cX10_firstOnBill 12 = .ok (.istore_n 3, 1) := by decide +kernel
theorem dX10_firstOnBill_13 : decode cX10_firstOnBill 13 = .ok (.iload_n 3, 1) := by decide +kernel
theorem dX10_firstOnBill_14 : decode cX10_firstOnBill 14 = .ok (.bipush 60, 2) := by decide +kernel
theorem dX10_firstOnBill_16 : decode cX10_firstOnBill 16 = .ok (.if_icmp .gt 32, 3) := by decide +kernel
theorem dX10_firstOnBill_19 : decode cX10_firstOnBill 19 = .ok (.aload_n 0, 1) := by decide +kernel
theorem dX10_firstOnBill_20 : decode cX10_firstOnBill 20 = .ok (.getfield 15, 3) := by decide +kernel
theorem dX10_firstOnBill_23 : decode cX10_firstOnBill 23 = .ok (.invokevirtual 24, 3) := by decide +kernel
theorem dX10_firstOnBill_26 : decode cX10_firstOnBill 26 = .ok (.pop, 1) := by decide +kernel
theorem dX10_firstOnBill_27 : decode cX10_firstOnBill 27 = .ok (.aload_n 0, 1) := by decide +kernel
theorem dX10_firstOnBill_28 : decode cX10_firstOnBill 28 = .ok (.getfield 15, 3) := by decide +kernel
theorem dX10_firstOnBill_31 : decode cX10_firstOnBill 31 = .ok (.getfield 40, 3) := by decide +kernel
theorem dX10_firstOnBill_34 : decode cX10_firstOnBill 34 = .ok (.iload_n 1, 1) := by decide +kernel
theorem dX10_firstOnBill_35 : decode cX10_firstOnBill 35 = .ok (.iaload, 1) := by decide +kernel
theorem dX10_firstOnBill_36 : decode cX10_firstOnBill 36 = .ok (.iload_n 2, 1) := by decide +kernel
theorem dX10_firstOnBill_37 : decode cX10_firstOnBill 37 = .ok (.if_icmp .ne 5, 3) := by decide +kernel
theorem dX10_firstOnBill_40 : decode cX10_firstOnBill 40 = .ok (.iload_n 3, 1) := by decide +kernel
theorem dX10_firstOnBill_41 : decode cX10_firstOnBill 41 = .ok (.ireturn, 1) := by decide +kernel
theorem dX10_firstOnBill_42 : decode cX10_firstOnBill 42 = .ok (.iinc 3 1, 3) := by decide +kernel
theorem dX10_firstOnBill_45 : decode cX10_firstOnBill 45 = .ok (.goto (-32), 3) := by decide +kernel
theorem dX10_firstOnBill_48 : decode cX10_firstOnBill 48 = .ok (.bipush (-3), 2) := by decide +kernel
theorem dX10_firstOnBill_50 : decode cX10_firstOnBill 50 = .ok (.ireturn, 1) := by decide +kernel
theorem dX10_firstFullHouse_0 : decode cX10_firstFullHouse 0 = .ok (.aload_n 0, 1) := by decide +kernel
theorem dX10_firstFullHouse_1 : decode cX10_firstFullHouse 1 = .ok (.getfield 15, 3) := by decide +kernel
theorem dX10_firstFullHouse_4 : decode cX10_firstFullHouse 4 = .ok (.aload_n 0, 1) := by decide +kernel
theorem dX10_firstFullHouse_5 : decode cX10_firstFullHouse 5 = .ok (.getfield 9, 3) := by decide +kernel
theorem dX10_firstFullHouse_8 : decode cX10_firstFullHouse 8 = .ok (.invokevirtual 28, 3) := by decide +kernel
theorem dX10_firstFullHouse_11 : decode cX10_firstFullHouse 11 = .ok (.iconst 0, 1) := by decide +kernel
theorem dX10_firstFullHouse_12 : decode cX10_firstFullHouse 12 = .ok (.istore_n 1, 1) := by decide +kernel
theorem dX10_firstFullHouse_13 : decode cX10_firstFullHouse 13 = .ok (.iload_n 1, 1) := by decide +kernel
theorem dX10_firstFullHouse_14 : decode cX10_firstFullHouse 14 = .ok (.bipush 60, 2) := by decide +kernel
theorem dX10_firstFullHouse_16 : decode cX10_firstFullHouse 16 = .ok (.if_icmp .gt 29, 3) := by decide +kernel
theorem dX10_firstFullHouse_19 : decode cX10_firstFullHouse 19 = .ok (.aload_n 0, 1) := by decide +kernel
theorem dX10_firstFullHouse_20 : decode cX10_firstFullHouse 20 = .ok (.getfield 15, 3) := by decide +kernel
theorem dX10_firstFullHouse_23 : decode cX10_firstFullHouse 23 = .ok (.invokevirtual 24, 3) := by decide +kernel
theorem dX10_firstFullHouse_26 : decode cX10_firstFullHouse 26 = .ok (.pop, 1) := by decide +kernel
theorem dX10_firstFullHouse_27 : decode cX10_firstFullHouse 27 = .ok (.aload_n 0, 1) := by decide +kernel
theorem dX10_firstFullHouse_28 : decode cX10_firstFullHouse 28 = .ok (.getfield 15, 3) := by decide +kernel
theorem dX10_firstFullHouse_31 : decode cX10_firstFullHouse 31 = .ok (.invokevirtual 44, 3) := by decide +kernel
theorem dX10_firstFullHouse_34 : decode cX10_firstFullHouse 34 = .ok (.ifCond .ne 5, 3) := by decide +kernel
theorem dX10_firstFullHouse_37 : decode cX10_firstFullHouse 37 = .ok (.iload_n 1, 1) := by decide +kernel
theorem dX10_firstFullHouse_38 : decode cX10_firstFullHouse 38 = .ok (.ireturn, 1) := by decide +kernel
theorem dX10_firstFullHouse_39 : decode cX10_firstFullHouse 39 = .ok (.iinc 1 1, 3) := by decide +kernel
theorem dX10_firstFullHouse_42 : decode cX10_firstFullHouse 42 = .ok (.goto (-29), 3) := by decide +kernel
theorem dX10_firstFullHouse_45 : decode cX10_firstFullHouse 45 = .ok (.bipush (-3), 2) := by decide +kernel
theorem dX10_firstFullHouse_47 : decode cX10_firstFullHouse 47 = .ok (.ireturn, 1) := by decide +kernel
theorem dX10_showOfTried_0 : decode cX10_showOfTried 0 = .ok (.aload_n 0, 1) := by decide +kernel
theorem dX10_showOfTried_1 : decode cX10_showOfTried 1 = .ok (.getfield 15, 3) := by decide +kernel
theorem dX10_showOfTried_4 : decode cX10_showOfTried 4 = .ok (.invokevirtual 47, 3) := by decide +kernel
theorem dX10_showOfTried_7 : decode cX10_showOfTried 7 = .ok (.aload_n 0, 1) := by decide +kernel
theorem dX10_showOfTried_8 : decode cX10_showOfTried 8 = .ok (.getfield 15, 3) := by decide +kernel
theorem dX10_showOfTried_11 : decode cX10_showOfTried 11 = .ok (.invokevirtual 50, 3) := by decide +kernel
theorem dX10_showOfTried_14 : decode cX10_showOfTried 14 = .ok (.ireturn, 1) := by decide +kernel
theorem dX10_spoiltOf_0 : decode cX10_spoiltOf 0 = .ok (.aload_n 0, 1) := by decide +kernel
theorem dX10_spoiltOf_1 : decode cX10_spoiltOf 1 = .ok (.getfield 15, 3) := by decide +kernel
theorem dX10_spoiltOf_4 : decode cX10_spoiltOf 4 = .ok (.aload_n 0, 1) := by decide +kernel
theorem dX10_spoiltOf_5 : decode cX10_spoiltOf 5 = .ok (.getfield 9, 3) := by decide +kernel
theorem dX10_spoiltOf_8 : decode cX10_spoiltOf 8 = .ok (.invokevirtual 28, 3) := by decide +kernel
theorem dX10_spoiltOf_11 : decode cX10_spoiltOf 11 = .ok (.aload_n 0, 1) := by decide +kernel
theorem dX10_spoiltOf_12 : decode cX10_spoiltOf 12 = .ok (.invokevirtual 53, 3) := by decide +kernel
theorem dX10_spoiltOf_15 : decode cX10_spoiltOf 15 = .ok (.istore_n 2, 1) := by decide +kernel
theorem dX10_spoiltOf_16 : decode cX10_spoiltOf 16 = .ok (.iconst 0, 1) := by decide +kernel
theorem dX10_spoiltOf_17 : decode cX10_spoiltOf 17 = .ok (.istore_n 3, 1) := by decide +kernel
theorem dX10_spoiltOf_18 : decode cX10_spoiltOf 18 = .ok (.iconst 0, 1) := by decide +kernel
theorem dX10_spoiltOf_19 : decode cX10_spoiltOf 19 = .ok (.istore 4, 2) := by decide +kernel
theorem dX10_spoiltOf_21 : decode cX10_spoiltOf 21 = .ok (.iload 4, 2) := by decide +kernel
theorem dX10_spoiltOf_23 : decode cX10_spoiltOf 23 = .ok (.iload_n 1, 1) := by decide +kernel
theorem dX10_spoiltOf_24 : decode cX10_spoiltOf 24 = .ok (.if_icmp .ge 56, 3) := by decide +kernel
theorem dX10_spoiltOf_27 : decode cX10_spoiltOf 27 = .ok (.aload_n 0, 1) := by decide +kernel
theorem dX10_spoiltOf_28 : decode cX10_spoiltOf 28 = .ok (.getfield 15, 3) := by decide +kernel
theorem dX10_spoiltOf_31 : decode cX10_spoiltOf 31 = .ok (.getfield 56, 3) := by decide +kernel
theorem dX10_spoiltOf_34 : decode cX10_spoiltOf 34 = .ok (.istore 5, 2) := by decide +kernel
theorem dX10_spoiltOf_36 : decode cX10_spoiltOf 36 = .ok (.aload_n 0, 1) := by decide +kernel
theorem dX10_spoiltOf_37 : decode cX10_spoiltOf 37 = .ok (.getfield 15, 3) := by decide +kernel
theorem dX10_spoiltOf_40 : decode cX10_spoiltOf 40 = .ok (.aload_n 0, 1) := by decide +kernel
theorem dX10_spoiltOf_41 : decode cX10_spoiltOf 41 = .ok (.getfield 9, 3) := by decide +kernel
theorem dX10_spoiltOf_44 : decode cX10_spoiltOf 44 = .ok (.invokevirtual 28, 3) := by decide +kernel
theorem dX10_spoiltOf_47 : decode cX10_spoiltOf 47 = .ok (.aload_n 0, 1) := by decide +kernel
theorem dX10_spoiltOf_48 : decode cX10_spoiltOf 48 = .ok (.getfield 15, 3) := by decide +kernel
theorem dX10_spoiltOf_51 : decode cX10_spoiltOf 51 = .ok (.iload 5, 2) := by decide +kernel
theorem dX10_spoiltOf_53 : decode cX10_spoiltOf 53 = .ok (.putfield 56, 3) := by decide +kernel
theorem dX10_spoiltOf_56 : decode cX10_spoiltOf 56 = .ok (.aload_n 0, 1) := by decide +kernel
theorem dX10_spoiltOf_57 : decode cX10_spoiltOf 57 = .ok (.getfield 15, 3) := by decide +kernel
theorem dX10_spoiltOf_60 : decode cX10_spoiltOf 60 = .ok (.invokevirtual 59, 3) := by decide +kernel
theorem dX10_spoiltOf_63 : decode cX10_spoiltOf 63 = .ok (.aload_n 0, 1) := by decide +kernel
theorem dX10_spoiltOf_64 : decode cX10_spoiltOf 64 = .ok (.invokevirtual 53, 3) := by decide +kernel
theorem dX10_spoiltOf_67 : decode cX10_spoiltOf 67 = .ok (.iload_n 2, 1) := by decide +kernel
theorem dX10_spoiltOf_68 : decode cX10_spoiltOf 68 = .ok (.if_icmp .ge 6, 3) := by decide +kernel
theorem dX10_spoiltOf_71 : decode cX10_spoiltOf 71 = .ok (.iinc 3 1, 3) := by decide +kernel
theorem dX10_spoiltOf_74 : decode cX10_spoiltOf 74 = .ok (.iinc 4 1, 3) := by decide +kernel
theorem dX10_spoiltOf_77 : decode cX10_spoiltOf 77 = .ok (.goto (-56), 3) := by decide +kernel
theorem dX10_spoiltOf_80 : decode cX10_spoiltOf 80 = .ok (.iload_n 3, 1) := by decide +kernel
theorem dX10_spoiltOf_81 : decode cX10_spoiltOf 81 = .ok (.ireturn, 1) := by decide +kernel
theorem dX10_worstIllness_0 : decode cX10_worstIllness 0 = .ok (.aload_n 0, 1) := by decide +kernel
theorem dX10_worstIllness_1 : decode cX10_worstIllness 1 = .ok (.getfield 15, 3) := by decide +kernel
theorem dX10_worstIllness_4 : decode cX10_worstIllness 4 = .ok (.aload_n 0, 1) := by decide +kernel
theorem dX10_worstIllness_5 : decode cX10_worstIllness 5 = .ok (.getfield 9, 3) := by decide +kernel
theorem dX10_worstIllness_8 : decode cX10_worstIllness 8 = .ok (.invokevirtual 28, 3) := by decide +kernel
theorem dX10_worstIllness_11 : decode cX10_worstIllness 11 = .ok (.bipush (-3), 2) := by decide +kernel
theorem dX10_worstIllness_13 : decode cX10_worstIllness 13 = .ok (.istore_n 1, 1) := by decide +kernel
theorem dX10_worstIllness_14 : decode cX10_worstIllness 14 = .ok (.aload_n 0, 1) := by decide +kernel
theorem dX10_worstIllness_15 : decode cX10_worstIllness 15 = .ok (.invokevirtual 53, 3) := by decide +kernel
theorem dX10_worstIllness_18 : decode cX10_worstIllness 18 = .ok (.istore_n 2, 1) := by decide +kernel
theorem dX10_worstIllness_19 : decode cX10_worstIllness 19 = .ok (.iconst 0, 1) := by decide +kernel
theorem dX10_worstIllness_20 : decode cX10_worstIllness 20 = .ok (.istore_n 3, 1) := by decide +kernel
theorem dX10_worstIllness_21 : decode cX10_worstIllness 21 = .ok (.iload_n 3, 1) := by decide +kernel
theorem dX10_worstIllness_22 : decode cX10_worstIllness 22 = .ok (.aload_n 0, 1) := by decide +kernel
theorem dX10_worstIllness_23 : decode cX10_worstIllness 23 = .ok (.getfield 9, 3) := by decide +kernel
theorem dX10_worstIllness_26 : decode cX10_worstIllness 26 = .ok (.getfield 62, 3) := by decide +kernel
theorem dX10_worstIllness_29 : decode cX10_worstIllness 29 = .ok (.if_icmp .ge 58, 3) := by decide +kernel
theorem dX10_worstIllness_32 : decode cX10_worstIllness 32 = .ok (.aload_n 0, 1) := by decide +kernel
theorem dX10_worstIllness_33 : decode cX10_worstIllness 33 = .ok (.getfield 9, 3) := by decide +kernel
theorem dX10_worstIllness_36 : decode cX10_worstIllness 36 = .ok (.getfield 65, 3) := by decide +kernel
theorem dX10_worstIllness_39 : decode cX10_worstIllness 39 = .ok (.iload_n 3, 1) := by decide +kernel
theorem dX10_worstIllness_40 : decode cX10_worstIllness 40 = .ok (.iaload, 1) := by decide +kernel
theorem dX10_worstIllness_41 : decode cX10_worstIllness 41 = .ok (.ifCond .ne 40, 3) := by decide +kernel
theorem dX10_worstIllness_44 : decode cX10_worstIllness 44 = .ok (.aload_n 0, 1) := by decide +kernel
theorem dX10_worstIllness_45 : decode cX10_worstIllness 45 = .ok (.getfield 15, 3) := by decide +kernel
theorem dX10_worstIllness_48 : decode cX10_worstIllness 48 = .ok (.getfield 65, 3) := by decide +kernel
theorem dX10_worstIllness_51 : decode cX10_worstIllness 51 = .ok (.iload_n 3, 1) := by decide +kernel
theorem dX10_worstIllness_52 : decode cX10_worstIllness 52 = .ok (.iconst 1, 1) := by decide +kernel
theorem dX10_worstIllness_53 : decode cX10_worstIllness 53 = .ok (.iastore, 1) := by decide +kernel
theorem dX10_worstIllness_54 : decode cX10_worstIllness 54 = .ok (.aload_n 0, 1) := by decide +kernel
theorem dX10_worstIllness_55 : decode cX10_worstIllness 55 = .ok (.invokevirtual 53, 3) := by decide +kernel
theorem dX10_worstIllness_58 : decode cX10_worstIllness 58 = .ok (.istore 4, 2) := by decide +kernel
theorem dX10_worstIllness_60 : decode cX10_worstIllness 60 = .ok (.aload_n 0, 1) := by decide +kernel
theorem dX10_worstIllness_61 : decode cX10_worstIllness 61 = .ok (.getfield 15, 3) := by decide +kernel
theorem dX10_worstIllness_64 : decode cX10_worstIllness 64 = .ok (.getfield 65, 3) := by decide +kernel
theorem dX10_worstIllness_67 : decode cX10_worstIllness 67 = .ok (.iload_n 3, 1) := by decide +kernel
theorem dX10_worstIllness_68 : decode cX10_worstIllness 68 = .ok (.iconst 0, 1) := by decide +kernel
theorem dX10_worstIllness_69 : decode cX10_worstIllness 69 = .ok (.iastore, 1) := by decide +kernel
theorem dX10_worstIllness_70 : decode cX10_worstIllness 70 = .ok (.iload 4, 2) := by decide +kernel
theorem dX10_worstIllness_72 : decode cX10_worstIllness 72 = .ok (.iload_n 2, 1) := by decide +kernel
theorem dX10_worstIllness_73 : decode cX10_worstIllness 73 = .ok (.if_icmp .ge 8, 3) := by decide +kernel
theorem dX10_worstIllness_76 : decode cX10_worstIllness 76 = .ok (.iload 4, 2) := by decide +kernel
theorem dX10_worstIllness_78 : decode cX10_worstIllness 78 = .ok (.istore_n 2, 1) := by decide +kernel
theorem dX10_worstIllness_79 : decode cX10_worstIllness 79 = .ok (.iload_n 3, 1) := by decide +kernel
theorem dX10_worstIllness_80 : decode cX10_worstIllness 80 = .ok (.istore_n 1, 1) := by decide +kernel
theorem dX10_worstIllness_81 : decode cX10_worstIllness 81 = .ok (.iinc 3 1, 3) := by decide +kernel
theorem dX10_worstIllness_84 : decode cX10_worstIllness 84 = .ok (.goto (-63), 3) := by decide +kernel
theorem dX10_worstIllness_87 : decode cX10_worstIllness 87 = .ok (.iload_n 1, 1) := by decide +kernel
theorem dX10_worstIllness_88 : decode cX10_worstIllness 88 = .ok (.ireturn, 1) := by decide +kernel
theorem dX10_bestKind_0 : decode cX10_bestKind 0 = .ok (.bipush (-3), 2) := by decide +kernel
theorem dX10_bestKind_2 : decode cX10_bestKind 2 = .ok (.istore_n 3, 1) := by decide +kernel
theorem dX10_bestKind_3 : decode cX10_bestKind 3 = .ok (.iconst (-1), 1) := by decide +kernel
theorem dX10_bestKind_4 : decode cX10_bestKind 4 = .ok (.istore 4, 2) := by decide +kernel
theorem dX10_bestKind_6 : decode cX10_bestKind 6 = .ok (.iconst 0, 1) := by decide +kernel
theorem dX10_bestKind_7 : decode cX10_bestKind 7 = .ok (.istore 5, 2) := by decide +kernel
theorem dX10_bestKind_9 : decode cX10_bestKind 9 = .ok (.iload 5, 2) := by decide +kernel
theorem dX10_bestKind_11 : decode cX10_bestKind 11 = .ok (.bipush 6, 2) := by decide +kernel
theorem dX10_bestKind_13 : decode cX10_bestKind 13 = .ok (.if_icmp .ge 52, 3) := by decide +kernel
theorem dX10_bestKind_16 : decode cX10_bestKind 16 = .ok (.aload_n 0, 1) := by decide +kernel
theorem dX10_bestKind_17 : decode cX10_bestKind 17 = .ok (.getfield 15, 3) := by decide +kernel
theorem dX10_bestKind_20 : decode cX10_bestKind 20 = .ok (.aload_n 0, 1) := by decide +kernel
theorem dX10_bestKind_21 : decode cX10_bestKind 21 = .ok (.getfield 9, 3) := by decide +kernel
theorem dX10_bestKind_24 : decode cX10_bestKind 24 = .ok (.invokevirtual 28, 3) := by decide +kernel
theorem dX10_bestKind_27 : decode cX10_bestKind 27 = .ok (.aload_n 0, 1) := by decide +kernel
theorem dX10_bestKind_28 : decode cX10_bestKind 28 = .ok (.getfield 15, 3) := by decide +kernel
theorem dX10_bestKind_31 : decode cX10_bestKind 31 = .ok (.getfield 68, 3) := by decide +kernel
theorem dX10_bestKind_34 : decode cX10_bestKind 34 = .ok (.iload_n 1, 1) := by decide +kernel
theorem dX10_bestKind_35 : decode cX10_bestKind 35 = .ok (.iload 5, 2) := by decide +kernel
theorem dX10_bestKind_37 : decode cX10_bestKind 37 = .ok (.iastore, 1) := by decide +kernel
theorem dX10_bestKind_38 : decode cX10_bestKind 38 = .ok (.aload_n 0, 1) := by decide +kernel
theorem dX10_bestKind_39 : decode cX10_bestKind 39 = .ok (.iload_n 2, 1) := by decide +kernel
theorem dX10_bestKind_40 : decode cX10_bestKind 40 = .ok (.invokevirtual 32, 3) := by decide +kernel
theorem dX10_bestKind_43 : decode cX10_bestKind 43 = .ok (.istore 6, 2) := by decide +kernel
theorem dX10_bestKind_45 : decode cX10_bestKind 45 = .ok (.iload 6, 2) := by decide +kernel
theorem dX10_bestKind_47 : decode cX10_bestKind 47 = .ok (.iload 4, 2) := by decide +kernel
theorem dX10_bestKind_49 : decode cX10_bestKind 49 = .ok (.if_icmp .le 10, 3) := by decide +kernel
theorem dX10_bestKind_52 : decode cX10_bestKind 52 = .ok (.iload 6, 2) := by decide +kernel
theorem dX10_bestKind_54 : decode cX10_bestKind 54 = .ok (.istore 4, 2) := by decide +kernel
theorem dX10_bestKind_56 : decode cX10_bestKind 56 = .ok (.iload 5, 2) := by decide +kernel
theorem dX10_bestKind_58 : decode cX10_bestKind 58 = .ok (.istore_n 3, 1) := by decide +kernel
theorem dX10_bestKind_59 : decode cX10_bestKind 59 = .ok (.iinc 5 1, 3) := by decide +kernel
theorem dX10_bestKind_62 : decode cX10_bestKind 62 = .ok (.goto (-53), 3) := by decide +kernel
theorem dX10_bestKind_65 : decode cX10_bestKind 65 = .ok (.iload_n 3, 1) := by decide +kernel
theorem dX10_bestKind_66 : decode cX10_bestKind 66 = .ok (.ireturn, 1) := by decide +kernel
theorem dX10_leastKnowing_0 : decode cX10_leastKnowing 0 = .ok (.aload_n 0, 1) := by decide +kernel
theorem dX10_leastKnowing_1 : decode cX10_leastKnowing 1 = .ok (.getfield 15, 3) := by decide +kernel
theorem dX10_leastKnowing_4 : decode cX10_leastKnowing 4 = .ok (.aload_n 0, 1) := by decide +kernel
theorem dX10_leastKnowing_5 : decode cX10_leastKnowing 5 = .ok (.getfield 9, 3) := by decide +kernel
theorem dX10_leastKnowing_8 : decode cX10_leastKnowing 8 = .ok (.invokevirtual 28, 3) := by decide +kernel
theorem dX10_leastKnowing_11 : decode cX10_leastKnowing 11 = .ok (.iconst 0, 1) := by decide +kernel
theorem dX10_leastKnowing_12 : decode cX10_leastKnowing 12 = .ok (.istore_n 3, 1) := by decide +kernel
theorem dX10_leastKnowing_13 : decode cX10_leastKnowing 13 = .ok (.iload_n 3, 1) := by decide +kernel
theorem dX10_leastKnowing_14 : decode cX10_leastKnowing 14 = .ok (.bipush 99, 2) := by decide +kernel
theorem dX10_leastKnowing_16 : decode cX10_leastKnowing 16 = .ok (.if_icmp .gt 41, 3) := by decide +kernel
theorem dX10_leastKnowing_19 : decode cX10_leastKnowing 19 = .ok (.aload_n 0, 1) := by decide +kernel
theorem dX10_leastKnowing_20 : decode cX10_leastKnowing 20 = .ok (.getfield 15, 3) := by decide +kernel
theorem dX10_leastKnowing_23 : decode cX10_leastKnowing 23 = .ok (.iload_n 1, 1) := by decide +kernel
theorem dX10_leastKnowing_24 : decode cX10_leastKnowing 24 = .ok (.iload_n 2, 1) := by decide +kernel
theorem dX10_leastKnowing_25 : decode cX10_leastKnowing 25 = .ok (.iload_n 3, 1) := by decide +kernel
theorem dX10_leastKnowing_26 : decode cX10_leastKnowing 26 = .ok (.invokevirtual 71, 3) := by decide +kernel
theorem dX10_leastKnowing_29 : decode cX10_leastKnowing 29 = .ok (.aload_n 0, 1) := by decide +kernel
theorem dX10_leastKnowing_30 : decode cX10_leastKnowing 30 = .ok (.getfield 15, 3) := by decide +kernel
theorem dX10_leastKnowing_33 : decode cX10_leastKnowing 33 = .ok (.invokevirtual 47, 3) := by decide +kernel
theorem dX10_leastKnowing_36 : decode cX10_leastKnowing 36 = .ok (.aload_n 0, 1) := by decide +kernel
theorem dX10_leastKnowing_37 : decode cX10_leastKnowing 37 = .ok (.getfield 15, 3) := by decide +kernel
theorem dX10_leastKnowing_40 : decode cX10_leastKnowing 40 = .ok (.getfield 40, 3) := by decide +kernel
theorem dX10_leastKnowing_43 : decode cX10_leastKnowing 43 = .ok (.iload_n 1, 1) := by decide +kernel
theorem dX10_leastKnowing_44 : decode cX10_leastKnowing 44 = .ok (.iaload, 1) := by decide +kernel
theorem dX10_leastKnowing_45 : decode cX10_leastKnowing 45 = .ok (.iload_n 2, 1) := by decide +kernel
theorem dX10_leastKnowing_46 : decode cX10_leastKnowing 46 = .ok (.if_icmp .ne 5, 3) := by decide +kernel
theorem dX10_leastKnowing_49 : decode cX10_leastKnowing 49 = .ok (.iload_n 3, 1) := by decide +kernel
theorem dX10_leastKnowing_50 : decode cX10_leastKnowing 50 = .ok (.ireturn, 1) := by decide +kernel
theorem dX10_leastKnowing_51 : decode cX10_leastKnowing 51 = .ok (.iinc 3 1, 3) := by decide +kernel
theorem dX10_leastKnowing_54 : decode cX10_leastKnowing 54 = .ok (.goto (-41), 3) := by decide +kernel
theorem dX10_leastKnowing_57 : decode cX10_leastKnowing 57 = .ok (.bipush (-3), 2) := by decide +kernel
theorem dX10_leastKnowing_59 : decode cX10_leastKnowing 59 = .ok (.ireturn, 1) := by decide +kernel
theorem dX10_bestLearner_0 : decode cX10_bestLearner 0 = .ok (.bipush (-3), 2) := by decide +kernel
theorem dX10_bestLearner_2 : decode cX10_bestLearner 2 = .ok (.istore_n 3, 1) := by decide +kernel
theorem dX10_bestLearner_3 : decode cX10_bestLearner 3 = .ok (.aload_n 0, 1) := by decide +kernel
theorem dX10_bestLearner_4 : decode cX10_bestLearner 4 = .ok (.getfield 15, 3) := by decide +kernel
theorem dX10_bestLearner_7 : decode cX10_bestLearner 7 = .ok (.aload_n 0, 1) := by decide +kernel
theorem dX10_bestLearner_8 : decode cX10_bestLearner 8 = .ok (.getfield 9, 3) := by decide +kernel
theorem dX10_bestLearner_11 : decode cX10_bestLearner 11 = .ok (.invokevirtual 28, 3) := by decide +kernel
theorem dX10_bestLearner_14 : decode cX10_bestLearner 14 = .ok (.aload_n 0, 1) := by decide +kernel
theorem dX10_bestLearner_15 : decode cX10_bestLearner 15 = .ok (.iload_n 2, 1) := by decide +kernel
theorem dX10_bestLearner_16 : decode cX10_bestLearner 16 = .ok (.invokevirtual 32, 3) := by decide +kernel
theorem dX10_bestLearner_19 : decode cX10_bestLearner 19 = .ok (.istore 4, 2) := by decide +kernel
theorem dX10_bestLearner_21 : decode cX10_bestLearner 21 = .ok (.iconst 0, 1) := by decide +kernel
theorem dX10_bestLearner_22 : decode cX10_bestLearner 22 = .ok (.istore 5, 2) := by decide +kernel
theorem dX10_bestLearner_24 : decode cX10_bestLearner 24 = .ok (.iload 5, 2) := by decide +kernel
theorem dX10_bestLearner_26 : decode cX10_bestLearner 26 = .ok (.aload_n 0, 1) := by decide +kernel
theorem dX10_bestLearner_27 : decode cX10_bestLearner 27 = .ok (.getfield 9, 3) := by decide +kernel
theorem dX10_bestLearner_30 : decode cX10_bestLearner 30 = .ok (.getfield 62, 3) := by decide +kernel
theorem dX10_bestLearner_33 : decode cX10_bestLearner 33 = .ok (.if_icmp .ge 53, 3) := by decide +kernel
theorem dX10_bestLearner_36 : decode cX10_bestLearner 36 = .ok (.aload_n 0, 1) := by decide +kernel
theorem dX10_bestLearner_37 : decode cX10_bestLearner 37 = .ok (.getfield 15, 3) := by decide +kernel
theorem dX10_bestLearner_40 : decode cX10_bestLearner 40 = .ok (.aload_n 0, 1) := by decide +kernel
theorem dX10_bestLearner_41 : decode cX10_bestLearner 41 = .ok (.getfield 9, 3) := by decide +kernel
theorem dX10_bestLearner_44 : decode cX10_bestLearner 44 = .ok (.invokevirtual 28, 3) := by decide +kernel
theorem dX10_bestLearner_47 : decode cX10_bestLearner 47 = .ok (.aload_n 0, 1) := by decide +kernel
theorem dX10_bestLearner_48 : decode cX10_bestLearner 48 = .ok (.getfield 15, 3) := by decide +kernel
theorem dX10_bestLearner_51 : decode cX10_bestLearner 51 = .ok (.iload 5, 2) := by decide +kernel
theorem dX10_bestLearner_53 : decode cX10_bestLearner 53 = .ok (.iload_n 1, 1) := by decide +kernel
theorem dX10_bestLearner_54 : decode cX10_bestLearner 54 = .ok (.bipush 99, 2) := by decide +kernel
theorem dX10_bestLearner_56 : decode cX10_bestLearner 56 = .ok (.invokevirtual 71, 3) := by decide +kernel
theorem dX10_bestLearner_59 : decode cX10_bestLearner 59 = .ok (.aload_n 0, 1) := by decide +kernel
theorem dX10_bestLearner_60 : decode cX10_bestLearner 60 = .ok (.iload_n 2, 1) := by decide +kernel
theorem dX10_bestLearner_61 : decode cX10_bestLearner 61 = .ok (.invokevirtual 32, 3) := by decide +kernel
theorem dX10_bestLearner_64 : decode cX10_bestLearner 64 = .ok (.istore 6, 2) := by decide +kernel
theorem dX10_bestLearner_66 : decode cX10_bestLearner 66 = .ok (.iload 6, 2) := by decide +kernel
theorem dX10_bestLearner_68 : decode cX10_bestLearner 68 = .ok (.iload 4, 2) := by decide +kernel
theorem dX10_bestLearner_70 : decode cX10_bestLearner 70 = .ok (.if_icmp .le 10, 3) := by decide +kernel
theorem dX10_bestLearner_73 : decode cX10_bestLearner 73 = .ok (.iload 6, 2) := by decide +kernel
theorem dX10_bestLearner_75 : decode cX10_bestLearner 75 = .ok (.istore 4, 2) := by decide +kernel
theorem dX10_bestLearner_77 : decode cX10_bestLearner 77 = .ok (.iload 5, 2) := by decide +kernel
theorem dX10_bestLearner_79 : decode cX10_bestLearner 79 = .ok (.istore_n 3, 1) := by decide +kernel
theorem dX10_bestLearner_80 : decode cX10_bestLearner 80 = .ok (.iinc 5 1, 3) := by decide +kernel
theorem dX10_bestLearner_83 : decode cX10_bestLearner 83 = .ok (.goto (-59), 3) := by decide +kernel
theorem dX10_bestLearner_86 : decode cX10_bestLearner 86 = .ok (.iload_n 3, 1) := by decide +kernel
theorem dX10_bestLearner_87 : decode cX10_bestLearner 87 = .ok (.ireturn, 1) := by decide +kernel
theorem dX10_fewestWell_0 : decode cX10_fewestWell 0 = .ok (.aload_n 0, 1) := by decide +kernel
theorem dX10_fewestWell_1 : decode cX10_fewestWell 1 = .ok (.getfield 15, 3) := by decide +kernel
theorem dX10_fewestWell_4 : decode cX10_fewestWell 4 = .ok (.aload_n 0, 1) := by decide +kernel
theorem dX10_fewestWell_5 : decode cX10_fewestWell 5 = .ok (.getfield 9, 3) := by decide +kernel
theorem dX10_fewestWell_8 : decode cX10_fewestWell 8 = .ok (.invokevirtual 28, 3) := by decide +kernel
theorem dX10_fewestWell_11 : decode cX10_fewestWell 11 = .ok (.aload_n 0, 1) := by decide +kernel
theorem dX10_fewestWell_12 : decode cX10_fewestWell 12 = .ok (.getfield 9, 3) := by decide +kernel
theorem dX10_fewestWell_15 : decode cX10_fewestWell 15 = .ok (.invokevirtual 75, 3) := by decide +kernel
theorem dX10_fewestWell_18 : decode cX10_fewestWell 18 = .ok (.istore_n 2, 1) := by decide +kernel
theorem dX10_fewestWell_19 : decode cX10_fewestWell 19 = .ok (.bipush (-3), 2) := by decide +kernel
theorem dX10_fewestWell_21 : decode cX10_fewestWell 21 = .ok (.istore_n 3, 1) := by decide +kernel
theorem dX10_fewestWell_22 : decode cX10_fewestWell 22 = .ok (.bipush 9, 2) := by decide +kernel
theorem dX10_fewestWell_24 : decode cX10_fewestWell 24 = .ok (.istore 4, 2) := by decide +kernel
theorem dX10_fewestWell_26 : decode cX10_fewestWell 26 = .ok (.iconst 0, 1) := by decide +kernel
theorem dX10_fewestWell_27 : decode cX10_fewestWell 27 = .ok (.istore 5, 2) := by decide +kernel
theorem dX10_fewestWell_29 : decode cX10_fewestWell 29 = .ok (.iload 5, 2) := by decide +kernel
theorem dX10_fewestWell_31 : decode cX10_fewestWell 31 = .ok (.iconst 1, 1) := by decide +kernel
theorem dX10_fewestWell_32 : decode cX10_fewestWell 32 = .ok (.aload_n 0, 1) := by decide +kernel
theorem dX10_fewestWell_33 : decode cX10_fewestWell 33 = .ok (.getfield 9, 3) := by decide +kernel
theorem dX10_fewestWell_36 : decode cX10_fewestWell 36 = .ok (.getfield 62, 3) := by decide +kernel
theorem dX10_fewestWell_39 : decode cX10_fewestWell 39 = .ok (.ishl, 1) := by decide +kernel
theorem dX10_fewestWell_40 : decode cX10_fewestWell 40 = .ok (.if_icmp .ge 47, 3) := by decide +kernel
theorem dX10_fewestWell_43 : decode cX10_fewestWell 43 = .ok (.iload 5, 2) := by decide +kernel
theorem dX10_fewestWell_45 : decode cX10_fewestWell 45 = .ok (.invokestatic 78, 3) := by decide +kernel
theorem dX10_fewestWell_48 : decode cX10_fewestWell 48 = .ok (.istore 6, 2) := by decide +kernel
theorem dX10_fewestWell_50 : decode cX10_fewestWell 50 = .ok (.iload 5, 2) := by decide +kernel
theorem dX10_fewestWell_52 : decode cX10_fewestWell 52 = .ok (.iload_n 2, 1) := by decide +kernel
theorem dX10_fewestWell_53 : decode cX10_fewestWell 53 = .ok (.iand, 1) := by decide +kernel
theorem dX10_fewestWell_54 : decode cX10_fewestWell 54 = .ok (.ifCond .ne 27, 3) := by decide +kernel
theorem dX10_fewestWell_57 : decode cX10_fewestWell 57 = .ok (.iload 6, 2) := by decide +kernel
theorem dX10_fewestWell_59 : decode cX10_fewestWell 59 = .ok (.iload 4, 2) := by decide +kernel
theorem dX10_fewestWell_61 : decode cX10_fewestWell 61 = .ok (.if_icmp .ge 20, 3) := by decide +kernel
theorem dX10_fewestWell_64 : decode cX10_fewestWell 64 = .ok (.aload_n 0, 1) := by decide +kernel
theorem dX10_fewestWell_65 : decode cX10_fewestWell 65 = .ok (.iload 5, 2) := by decide +kernel
theorem dX10_fewestWell_67 : decode cX10_fewestWell 67 = .ok (.invokevirtual 83, 3) := by decide +kernel
theorem dX10_fewestWell_70 : decode cX10_fewestWell 70 = .ok (.iload_n 1, 1) := by decide +kernel
theorem dX10_fewestWell_71 : decode cX10_fewestWell 71 = .ok (.if_icmp .lt 10, 3) := by decide +kernel
theorem dX10_fewestWell_74 : decode cX10_fewestWell 74 = .ok (.iload 6, 2) := by decide +kernel
theorem dX10_fewestWell_76 : decode cX10_fewestWell 76 = .ok (.istore 4, 2) := by decide +kernel
theorem dX10_fewestWell_78 : decode cX10_fewestWell 78 = .ok (.iload 5, 2) := by decide +kernel
theorem dX10_fewestWell_80 : decode cX10_fewestWell 80 = .ok (.istore_n 3, 1) := by decide +kernel
theorem dX10_fewestWell_81 : decode cX10_fewestWell 81 = .ok (.iinc 5 1, 3) := by decide +kernel
theorem dX10_fewestWell_84 : decode cX10_fewestWell 84 = .ok (.goto (-55), 3) := by decide +kernel
theorem dX10_fewestWell_87 : decode cX10_fewestWell 87 = .ok (.iload_n 3, 1) := by decide +kernel
theorem dX10_fewestWell_88 : decode cX10_fewestWell 88 = .ok (.ireturn, 1) := by decide +kernel
theorem dX10_showOfSet_0 : decode cX10_showOfSet 0 = .ok (.iconst 0, 1) := by decide +kernel
theorem dX10_showOfSet_1 : decode cX10_showOfSet 1 = .ok (.istore_n 2, 1) := by decide +kernel
theorem dX10_showOfSet_2 : decode cX10_showOfSet 2 = .ok (.iload_n 2, 1) := by decide +kernel
theorem dX10_showOfSet_3 : decode cX10_showOfSet 3 = .ok (.aload_n 0, 1) := by decide +kernel
theorem dX10_showOfSet_4 : decode cX10_showOfSet 4 = .ok (.getfield 15, 3) := by decide +kernel
theorem dX10_showOfSet_7 : decode cX10_showOfSet 7 = .ok (.getfield 62, 3) := by decide +kernel
theorem dX10_showOfSet_10 : decode cX10_showOfSet 10 = .ok (.if_icmp .ge 32, 3) := by decide +kernel
theorem dX10_showOfSet_13 : decode cX10_showOfSet 13 = .ok (.aload_n 0, 1) := by decide +kernel
theorem dX10_showOfSet_14 : decode cX10_showOfSet 14 = .ok (.getfield 15, 3) := by decide +kernel
theorem dX10_showOfSet_17 : decode cX10_showOfSet 17 = .ok (.getfield 65, 3) := by decide +kernel
theorem dX10_showOfSet_20 : decode cX10_showOfSet 20 = .ok (.iload_n 2, 1) := by decide +kernel
theorem dX10_showOfSet_21 : decode cX10_showOfSet 21 = .ok (.iload_n 1, 1) := by decide +kernel
theorem dX10_showOfSet_22 : decode cX10_showOfSet 22 = .ok (.iload_n 2, 1) := by decide +kernel
theorem dX10_showOfSet_23 : decode cX10_showOfSet 23 = .ok (.ishr, 1) := by decide +kernel
theorem dX10_showOfSet_24 : decode cX10_showOfSet 24 = .ok (.iconst 1, 1) := by decide +kernel
theorem dX10_showOfSet_25 : decode cX10_showOfSet 25 = .ok (.iand, 1) := by decide +kernel
theorem dX10_showOfSet_26 : decode cX10_showOfSet 26 = .ok (.iconst 1, 1) := by decide +kernel
theorem dX10_showOfSet_27 : decode cX10_showOfSet 27 = .ok (.if_icmp .ne 7, 3) := by decide +kernel
theorem dX10_showOfSet_30 : decode cX10_showOfSet 30 = .ok (.iconst 0, 1) := by decide +kernel
theorem dX10_showOfSet_31 : decode cX10_showOfSet 31 = .ok (.goto 4, 3) := by decide +kernel
theorem dX10_showOfSet_34 : decode cX10_showOfSet 34 = .ok (.iconst 1, 1) := by decide +kernel
theorem dX10_showOfSet_35 : decode cX10_showOfSet 35 = .ok (.iastore, 1) := by decide +kernel
theorem dX10_showOfSet_36 : decode cX10_showOfSet 36 = .ok (.iinc 2 1, 3) := by decide +kernel
theorem dX10_showOfSet_39 : decode cX10_showOfSet 39 = .ok (.goto (-37), 3) := by decide +kernel
theorem dX10_showOfSet_42 : decode cX10_showOfSet 42 = .ok (.aload_n 0, 1) := by decide +kernel
theorem dX10_showOfSet_43 : decode cX10_showOfSet 43 = .ok (.invokevirtual 53, 3) := by decide +kernel
theorem dX10_showOfSet_46 : decode cX10_showOfSet 46 = .ok (.ireturn, 1) := by decide +kernel
theorem dX10_howManyFit_0 : decode cX10_howManyFit 0 = .ok (.iconst 0, 1) := by decide +kernel
theorem dX10_howManyFit_1 : decode cX10_howManyFit 1 = .ok (.istore_n 3, 1) := by decide +kernel
theorem dX10_howManyFit_2 : decode cX10_howManyFit 2 = .ok (.iconst 0, 1) := by decide +kernel
theorem dX10_howManyFit_3 : decode cX10_howManyFit 3 = .ok (.istore 4, 2) := by decide +kernel
theorem dX10_howManyFit_5 : decode cX10_howManyFit 5 = .ok (.iload 4, 2) := by decide +kernel
theorem dX10_howManyFit_7 : decode cX10_howManyFit 7 = .ok (.bipush 99, 2) := by decide +kernel
theorem dX10_howManyFit_9 : decode cX10_howManyFit 9 = .ok (.if_icmp .gt 23, 3) := by decide +kernel
theorem dX10_howManyFit_12 : decode cX10_howManyFit 12 = .ok (.aload_n 0, 1) := by decide +kernel
theorem dX10_howManyFit_13 : decode cX10_howManyFit 13 = .ok (.aload_n 1, 1) := by decide +kernel
theorem dX10_howManyFit_14 : decode cX10_howManyFit 14 = .ok (.iload_n 2, 1) := by decide +kernel
theorem dX10_howManyFit_15 : decode cX10_howManyFit 15 = .ok (.iload 4, 2) := by decide +kernel
theorem dX10_howManyFit_17 : decode cX10_howManyFit 17 = .ok (.invokevirtual 86, 3) := by decide +kernel
theorem dX10_howManyFit_20 : decode cX10_howManyFit 20 = .ok (.ifCond .eq 6, 3) := by decide +kernel
theorem dX10_howManyFit_23 : decode cX10_howManyFit 23 = .ok (.iinc 3 1, 3) := by decide +kernel
theorem dX10_howManyFit_26 : decode cX10_howManyFit 26 = .ok (.iinc 4 1, 3) := by decide +kernel
theorem dX10_howManyFit_29 : decode cX10_howManyFit 29 = .ok (.goto (-24), 3) := by decide +kernel
theorem dX10_howManyFit_32 : decode cX10_howManyFit 32 = .ok (.iload_n 3, 1) := by decide +kernel
theorem dX10_howManyFit_33 : decode cX10_howManyFit 33 = .ok (.ireturn, 1) := by decide +kernel
theorem dX10_leastThatFits_0 : decode cX10_leastThatFits 0 = .ok (.iconst 0, 1) := by decide +kernel
theorem dX10_leastThatFits_1 : decode cX10_leastThatFits 1 = .ok (.istore_n 3, 1) := by decide +kernel
theorem dX10_leastThatFits_2 : decode cX10_leastThatFits 2 = .ok (.iload_n 3, 1) := by decide +kernel
theorem dX10_leastThatFits_3 : decode cX10_leastThatFits 3 = .ok (.bipush 99, 2) := by decide +kernel
theorem dX10_leastThatFits_5 : decode cX10_leastThatFits 5 = .ok (.if_icmp .gt 21, 3) := by decide +kernel
theorem dX10_leastThatFits_8 : decode cX10_leastThatFits 8 = .ok (.aload_n 0, 1) := by decide +kernel
theorem dX10_leastThatFits_9 : decode cX10_leastThatFits 9 = .ok (.aload_n 1, 1) := by decide +kernel
theorem dX10_leastThatFits_10 : decode cX10_leastThatFits 10 = .ok (.iload_n 2, 1) := by decide +kernel
theorem dX10_leastThatFits_11 : decode cX10_leastThatFits 11 = .ok (.iload_n 3, 1) := by decide +kernel
theorem dX10_leastThatFits_12 : decode cX10_leastThatFits 12 = .ok (.invokevirtual 86, 3) := by decide +kernel
theorem dX10_leastThatFits_15 : decode cX10_leastThatFits 15 = .ok (.ifCond .eq 5, 3) := by decide +kernel
theorem dX10_leastThatFits_18 : decode cX10_leastThatFits 18 = .ok (.iload_n 3, 1) := by decide +kernel
theorem dX10_leastThatFits_19 : decode cX10_leastThatFits 19 = .ok (.ireturn, 1) := by decide +kernel
theorem dX10_leastThatFits_20 : decode cX10_leastThatFits 20 = .ok (.iinc 3 1, 3) := by decide +kernel
theorem dX10_leastThatFits_23 : decode cX10_leastThatFits 23 = .ok (.goto (-21), 3) := by decide +kernel
theorem dX10_leastThatFits_26 : decode cX10_leastThatFits 26 = .ok (.bipush (-3), 2) := by decide +kernel
theorem dX10_leastThatFits_28 : decode cX10_leastThatFits 28 = .ok (.ireturn, 1) := by decide +kernel
theorem dX10_isFitting_0 : decode cX10_isFitting 0 = .ok (.aload_n 0, 1) := by decide +kernel
theorem dX10_isFitting_1 : decode cX10_isFitting 1 = .ok (.getfield 15, 3) := by decide +kernel
theorem dX10_isFitting_4 : decode cX10_isFitting 4 = .ok (.aload_n 0, 1) := by decide +kernel
theorem dX10_isFitting_5 : decode cX10_isFitting 5 = .ok (.getfield 9, 3) := by decide +kernel
theorem dX10_isFitting_8 : decode cX10_isFitting 8 = .ok (.invokevirtual 28, 3) := by decide +kernel
theorem dX10_isFitting_11 : decode cX10_isFitting 11 = .ok (.aload_n 0, 1) := by decide +kernel
theorem dX10_isFitting_12 : decode cX10_isFitting 12 = .ok (.getfield 15, 3) := by decide +kernel
theorem dX10_isFitting_15 : decode cX10_isFitting 15 = .ok (.iload_n 2, 1) := by decide +kernel
theorem dX10_isFitting_16 : decode cX10_isFitting 16 = .ok (.aload_n 0, 1) := by decide +kernel
theorem dX10_isFitting_17 : decode cX10_isFitting 17 = .ok (.getfield 15, 3) := by decide +kernel
theorem dX10_isFitting_20 : decode cX10_isFitting 20 = .ok (.getfield 90, 3) := by decide +kernel
theorem dX10_isFitting_23 : decode cX10_isFitting 23 = .ok (.iload_n 2, 1) := by decide +kernel
theorem dX10_isFitting_24 : decode cX10_isFitting 24 = .ok (.iaload, 1) := by decide +kernel
theorem dX10_isFitting_25 : decode cX10_isFitting 25 = .ok (.iload_n 3, 1) := by decide +kernel
theorem dX10_isFitting_26 : decode cX10_isFitting 26 = .ok (.invokevirtual 71, 3) := by decide +kernel
theorem dX10_isFitting_29 : decode cX10_isFitting 29 = .ok (.aload_n 1, 1) := by decide +kernel
theorem dX10_isFitting_30 : decode cX10_isFitting 30 = .ok (.invokevirtual 93, 3) := by decide +kernel
theorem dX10_isFitting_33 : decode cX10_isFitting 33 = .ok (.istore 4, 2) := by decide +kernel
theorem dX10_isFitting_35 : decode cX10_isFitting 35 = .ok (.iconst 0, 1) := by decide +kernel
theorem dX10_isFitting_36 : decode cX10_isFitting 36 = .ok (.istore 5, 2) := by decide +kernel
theorem dX10_isFitting_38 : decode cX10_isFitting 38 = .ok (.iload 5, 2) := by decide +kernel
theorem dX10_isFitting_40 : decode cX10_isFitting 40 = .ok (.iload 4, 2) := by decide +kernel
theorem dX10_isFitting_42 : decode cX10_isFitting 42 = .ok (.if_icmp .ge 43, 3) := by decide +kernel
theorem dX10_isFitting_45 : decode cX10_isFitting 45 = .ok (.aload_n 0, 1) := by decide +kernel
theorem dX10_isFitting_46 : decode cX10_isFitting 46 = .ok (.getfield 15, 3) := by decide +kernel
theorem dX10_isFitting_49 : decode cX10_isFitting 49 = .ok (.invokevirtual 24, 3) := by decide +kernel
theorem dX10_isFitting_52 : decode cX10_isFitting 52 = .ok (.istore 6, 2) := by decide +kernel
theorem dX10_isFitting_54 : decode cX10_isFitting 54 = .ok (.aload_n 1, 1) := by decide +kernel
theorem dX10_isFitting_55 : decode cX10_isFitting 55 = .ok (.getfield 98, 3) := by decide +kernel
theorem dX10_isFitting_58 : decode cX10_isFitting 58 = .ok (.iload 5, 2) := by decide +kernel
theorem dX10_isFitting_60 : decode cX10_isFitting 60 = .ok (.iaload, 1) := by decide +kernel
theorem dX10_isFitting_61 : decode cX10_isFitting 61 = .ok (.iconst (-1), 1) := by decide +kernel
theorem dX10_isFitting_62 : decode cX10_isFitting 62 = .ok (.if_icmp .eq 17, 3) := by decide +kernel
theorem dX10_isFitting_65 : decode cX10_isFitting 65 = .ok (.aload_n 1, 1) := by decide +kernel
theorem dX10_isFitting_66 : decode cX10_isFitting 66 = .ok (.getfield 98, 3) := by decide +kernel
theorem dX10_isFitting_69 : decode cX10_isFitting 69 = .ok (.iload 5, 2) := by decide +kernel
theorem dX10_isFitting_71 : decode cX10_isFitting 71 = .ok (.iaload, 1) := by decide +kernel
theorem dX10_isFitting_72 : decode cX10_isFitting 72 = .ok (.iload 6, 2) := by decide +kernel
theorem dX10_isFitting_74 : decode cX10_isFitting 74 = .ok (.if_icmp .eq 5, 3) := by decide +kernel
theorem dX10_isFitting_77 : decode cX10_isFitting 77 = .ok (.iconst 0, 1) := by decide +kernel
theorem dX10_isFitting_78 : decode cX10_isFitting 78 = .ok (.ireturn, 1) := by decide +kernel
theorem dX10_isFitting_79 : decode cX10_isFitting 79 = .ok (.iinc 5 1, 3) := by decide +kernel
theorem dX10_isFitting_82 : decode cX10_isFitting 82 = .ok (.goto (-44), 3) := by decide +kernel
theorem dX10_isFitting_85 : decode cX10_isFitting 85 = .ok (.iconst 1, 1) := by decide +kernel
theorem dX10_isFitting_86 : decode cX10_isFitting 86 = .ok (.ireturn, 1) := by decide +kernel
theorem dX10_makeRows_0 : decode cX10_makeRows 0 = .ok (.aload_n 0, 1) := by decide +kernel
theorem dX10_makeRows_1 : decode cX10_makeRows 1 = .ok (.getfield 15, 3) := by decide +kernel
theorem dX10_makeRows_4 : decode cX10_makeRows 4 = .ok (.aload_n 0, 1) := by decide +kernel
theorem dX10_makeRows_5 : decode cX10_makeRows 5 = .ok (.getfield 9, 3) := by decide +kernel
theorem dX10_makeRows_8 : decode cX10_makeRows 8 = .ok (.invokevirtual 28, 3) := by decide +kernel
theorem dX10_makeRows_11 : decode cX10_makeRows 11 = .ok (.iconst 0, 1) := by decide +kernel
theorem dX10_makeRows_12 : decode cX10_makeRows 12 = .ok (.istore 4, 2) := by decide +kernel
theorem dX10_makeRows_14 : decode cX10_makeRows 14 = .ok (.iload 4, 2) := by decide +kernel
theorem dX10_makeRows_16 : decode cX10_makeRows 16 = .ok (.iload_n 2, 1) := by decide +kernel
theorem dX10_makeRows_17 : decode cX10_makeRows 17 = .ok (.if_icmp .ge 79, 3) := by decide +kernel
theorem dX10_makeRows_20 : decode cX10_makeRows 20 = .ok (.iload 4, 2) := by decide +kernel
theorem dX10_makeRows_22 : decode cX10_makeRows 22 = .ok (.iconst 1, 1) := by decide +kernel
theorem dX10_makeRows_23 : decode cX10_makeRows 23 = .ok (.iadd, 1) := by decide +kernel
theorem dX10_makeRows_24 : decode cX10_makeRows 24 = .ok (.iconst 3, 1) := by decide +kernel
theorem dX10_makeRows_25 : decode cX10_makeRows 25 = .ok (.imul, 1) := by decide +kernel
theorem dX10_makeRows_26 : decode cX10_makeRows 26 = .ok (.aload_n 3, 1) := by decide +kernel
theorem dX10_makeRows_27 : decode cX10_makeRows 27 = .ok (.arraylength, 1) := by decide +kernel
theorem dX10_makeRows_28 : decode cX10_makeRows 28 = .ok (.if_icmp .gt 68, 3) := by decide +kernel
theorem dX10_makeRows_31 : decode cX10_makeRows 31 = .ok (.aload_n 0, 1) := by decide +kernel
theorem dX10_makeRows_32 : decode cX10_makeRows 32 = .ok (.getfield 15, 3) := by decide +kernel
theorem dX10_makeRows_35 : decode cX10_makeRows 35 = .ok (.invokevirtual 24, 3) := by decide +kernel
theorem dX10_makeRows_38 : decode cX10_makeRows 38 = .ok (.istore 5, 2) := by decide +kernel
theorem dX10_makeRows_40 : decode cX10_makeRows 40 = .ok (.aload_n 3, 1) := by decide +kernel
theorem dX10_makeRows_41 : decode cX10_makeRows 41 = .ok (.iload 4, 2) := by decide +kernel
theorem dX10_makeRows_43 : decode cX10_makeRows 43 = .ok (.iconst 3, 1) := by decide +kernel
theorem dX10_makeRows_44 : decode cX10_makeRows 44 = .ok (.imul, 1) := by decide +kernel
theorem dX10_makeRows_45 : decode cX10_makeRows 45 = .ok (.aload_n 0, 1) := by decide +kernel
theorem dX10_makeRows_46 : decode cX10_makeRows 46 = .ok (.getfield 15, 3) := by decide +kernel
theorem dX10_makeRows_49 : decode cX10_makeRows 49 = .ok (.getfield 40, 3) := by decide +kernel
theorem dX10_makeRows_52 : decode cX10_makeRows 52 = .ok (.iload_n 1, 1) := by decide +kernel
theorem dX10_makeRows_53 : decode cX10_makeRows 53 = .ok (.iaload, 1) := by decide +kernel
theorem dX10_makeRows_54 : decode cX10_makeRows 54 = .ok (.iastore, 1) := by decide +kernel
theorem dX10_makeRows_55 : decode cX10_makeRows 55 = .ok (.aload_n 3, 1) := by decide +kernel
theorem dX10_makeRows_56 : decode cX10_makeRows 56 = .ok (.iload 4, 2) := by decide +kernel
theorem dX10_makeRows_58 : decode cX10_makeRows 58 = .ok (.iconst 3, 1) := by decide +kernel
theorem dX10_makeRows_59 : decode cX10_makeRows 59 = .ok (.imul, 1) := by decide +kernel
theorem dX10_makeRows_60 : decode cX10_makeRows 60 = .ok (.iconst 1, 1) := by decide +kernel
theorem dX10_makeRows_61 : decode cX10_makeRows 61 = .ok (.iadd, 1) := by decide +kernel
theorem dX10_makeRows_62 : decode cX10_makeRows 62 = .ok (.aload_n 0, 1) := by decide +kernel
theorem dX10_makeRows_63 : decode cX10_makeRows 63 = .ok (.getfield 15, 3) := by decide +kernel
theorem dX10_makeRows_66 : decode cX10_makeRows 66 = .ok (.iload_n 1, 1) := by decide +kernel
theorem dX10_makeRows_67 : decode cX10_makeRows 67 = .ok (.aload_n 0, 1) := by decide +kernel
theorem dX10_makeRows_68 : decode cX10_makeRows 68 = .ok (.getfield 15, 3) := by decide +kernel
theorem dX10_makeRows_71 : decode cX10_makeRows 71 = .ok (.getfield 90, 3) := by decide +kernel
theorem dX10_makeRows_74 : decode cX10_makeRows 74 = .ok (.iload_n 1, 1) := by decide +kernel
theorem dX10_makeRows_75 : decode cX10_makeRows 75 = .ok (.iaload, 1) := by decide +kernel
theorem dX10_makeRows_76 : decode cX10_makeRows 76 = .ok (.invokevirtual 36, 3) := by decide +kernel
theorem dX10_makeRows_79 : decode cX10_makeRows 79 = .ok (.iastore, 1) := by decide +kernel
theorem dX10_makeRows_80 : decode cX10_makeRows 80 = .ok (.aload_n 3, 1) := by decide +kernel
theorem dX10_makeRows_81 : decode cX10_makeRows 81 = .ok (.iload 4, 2) := by decide +kernel
theorem dX10_makeRows_83 : decode cX10_makeRows 83 = .ok (.iconst 3, 1) := by decide +kernel
theorem dX10_makeRows_84 : decode cX10_makeRows 84 = .ok (.imul, 1) := by decide +kernel
theorem dX10_makeRows_85 : decode cX10_makeRows 85 = .ok (.iconst 2, 1) := by decide +kernel
theorem dX10_makeRows_86 : decode cX10_makeRows 86 = .ok (.iadd, 1) := by decide +kernel
theorem dX10_makeRows_87 : decode cX10_makeRows 87 = .ok (.iload 5, 2) := by decide +kernel
theorem dX10_makeRows_89 : decode cX10_makeRows 89 = .ok (.iastore, 1) := by decide +kernel
theorem dX10_makeRows_90 : decode cX10_makeRows 90 = .ok (.iinc 4 1, 3) := by decide +kernel
theorem dX10_makeRows_93 : decode cX10_makeRows 93 = .ok (.goto (-79), 3) := by decide +kernel
theorem dX10_makeRows_96 : decode cX10_makeRows 96 = .ok (.return_, 1) := by decide +kernel
