theorem dX4_init_0 : decode cX4_init 0 = .ok (.aload_n 0, 1) := by decide +kernel
theorem dX4_init_1 : decode cX4_init 1 = .ok (.aload_n 1, 1) := by decide +kernel
theorem dX4_init_2 : decode cX4_init 2 = .ok (.invokespecial 1, 3) := by decide +kernel
theorem dX4_init_5 : decode cX4_init 5 = .ok (.return_, 1) := by decide +kernel
theorem dX4_bows_0 : decode cX4_bows 0 = .ok (.aload_n 0, 1) := by decide +kernel
theorem dX4_bows_1 : decode cX4_bows 1 = .ok (.getfield 7, 3) := by decide +kernel
theorem dX4_bows_4 : decode cX4_bows 4 = .ok (.getfield 13, 3) := by decide +kernel
theorem dX4_bows_7 : decode cX4_bows 7 = .ok (.bipush 30, 2) := by decide +kernel
theorem dX4_bows_9 : decode cX4_bows 9 = .ok (.if_icmp .ge 27, 3) := by decide +kernel
theorem dX4_bows_12 : decode cX4_bows 12 = .ok (.aload_n 0, 1) := by decide +kernel
theorem dX4_bows_13 : decode cX4_bows 13 = .ok (.getfield 7, 3) := by decide +kernel
theorem dX4_bows_16 : decode cX4_bows 16 = .ok (.getfield 19, 3) := by decide +kernel
theorem dX4_bows_19 : decode cX4_bows 19 = .ok (.aload_n 0, 1) := by decide +kernel
theorem dX4_bows_20 : decode cX4_bows 20 = .ok (.getfield 7, 3) := by decide +kernel
theorem dX4_bows_23 : decode cX4_bows 23 = .ok (.dup, 1) := by decide +kernel
theorem dX4_bows_24 : decode cX4_bows 24 = .ok (.getfield 13, 3) := by decide +kernel
theorem dX4_bows_27 : decode cX4_bows 27 = .ok (.dup_x1, 1) := by decide +kernel
theorem dX4_bows_28 : decode cX4_bows 28 = .ok (.iconst 1, 1) := by decide +kernel
theorem dX4_bows_29 : decode cX4_bows 29 = .ok (.iadd, 1) := by decide +kernel
theorem dX4_bows_30 : decode cX4_bows 30 = .ok (.putfield 13, 3) := by decide +kernel
theorem dX4_bows_33 : decode cX4_bows 33 = .ok (.bipush 40, 2) := by decide +kernel
theorem dX4_bows_35 : decode cX4_bows 35 = .ok (.iastore, 1) := by decide +kernel
theorem dX4_bows_36 : decode cX4_bows 36 = .ok (.aload_n 0, 1) := by decide +kernel
theorem dX4_bows_37 : decode cX4_bows 37 = .ok (.iload_n 1, 1) := by decide +kernel
theorem dX4_bows_38 : decode cX4_bows 38 = .ok (.invokespecial 23, 3) := by decide +kernel
theorem dX4_bows_41 : decode cX4_bows 41 = .ok (.iconst 5, 1) := by decide +kernel
theorem dX4_bows_42 : decode cX4_bows 42 = .ok (.iadd, 1) := by decide +kernel
theorem dX4_bows_43 : decode cX4_bows 43 = .ok (.ireturn, 1) := by decide +kernel
theorem dX4_sings_0 : decode cX4_sings 0 = .ok (.aload_n 0, 1) := by decide +kernel
theorem dX4_sings_1 : decode cX4_sings 1 = .ok (.getfield 7, 3) := by decide +kernel
theorem dX4_sings_4 : decode cX4_sings 4 = .ok (.getfield 13, 3) := by decide +kernel
theorem dX4_sings_7 : decode cX4_sings 7 = .ok (.bipush 30, 2) := by decide +kernel
theorem dX4_sings_9 : decode cX4_sings 9 = .ok (.if_icmp .ge 27, 3) := by decide +kernel
theorem dX4_sings_12 : decode cX4_sings 12 = .ok (.aload_n 0, 1) := by decide +kernel
theorem dX4_sings_13 : decode cX4_sings 13 = .ok (.getfield 7, 3) := by decide +kernel
theorem dX4_sings_16 : decode cX4_sings 16 = .ok (.getfield 19, 3) := by decide +kernel
theorem dX4_sings_19 : decode cX4_sings 19 = .ok (.aload_n 0, 1) := by decide +kernel
theorem dX4_sings_20 : decode cX4_sings 20 = .ok (.getfield 7, 3) := by decide +kernel
theorem dX4_sings_23 : decode cX4_sings 23 = .ok (.dup, 1) := by decide +kernel
theorem dX4_sings_24 : decode cX4_sings 24 = .ok (.getfield 13, 3) := by decide +kernel
theorem dX4_sings_27 : decode cX4_sings 27 = .ok (.dup_x1, 1) := by decide +kernel
theorem dX4_sings_28 : decode cX4_sings 28 = .ok (.iconst 1, 1) := by decide +kernel
theorem dX4_sings_29 : decode cX4_sings 29 = .ok (.iadd, 1) := by decide +kernel
theorem dX4_sings_30 : decode cX4_sings 30 = .ok (.putfield 13, 3) := by decide +kernel
theorem dX4_sings_33 : decode cX4_sings 33 = .ok (.bipush 41, 2) := by decide +kernel
theorem dX4_sings_35 : decode cX4_sings 35 = .ok (.iastore, 1) := by decide +kernel
theorem dX4_sings_36 : decode cX4_sings 36 = .ok (.aload_n 0, 1) := by decide +kernel
theorem dX4_sings_37 : decode cX4_sings 37 = .ok (.iload_n 1, 1) := by decide +kernel
theorem dX4_sings_38 : decode cX4_sings 38 = .ok (.invokespecial 27, 3) := by decide +kernel
theorem dX4_sings_41 : decode cX4_sings 41 = .ok (.aload_n 0, 1) := by decide +kernel
theorem dX4_sings_42 : decode cX4_sings 42 = .ok (.aload_n 0, 1) := by decide +kernel
theorem dX4_sings_43 : decode cX4_sings 43 = .ok (.getfield 30, 3) := by decide +kernel
theorem dX4_sings_46 : decode cX4_sings 46 = .ok (.invokevirtual 33, 3) := by decide +kernel
theorem dX4_sings_49 : decode cX4_sings 49 = .ok (.ixor, 1) := by decide +kernel
theorem dX4_sings_50 : decode cX4_sings 50 = .ok (.ireturn, 1) := by decide +kernel
