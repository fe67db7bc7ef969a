theorem dX2_init_0 : decode cX2_init 0 = .ok (.aload_n 0, 1) := by decide +kernel
theorem dX2_init_1 : decode cX2_init 1 = .ok (.aload_n 1, 1) := by decide +kernel
theorem dX2_init_2 : decode cX2_init 2 = .ok (.invokespecial 1, 3) := by decide +kernel
theorem dX2_init_5 : decode cX2_init 5 = .ok (.return_, 1) := by decide +kernel
theorem dX2_bows_0 : decode cX2_bows 0 = .ok (.aload_n 0, 1) := by decide +kernel
theorem dX2_bows_1 : decode cX2_bows 1 = .ok (.getfield 7, 3) := by decide +kernel
theorem dX2_bows_4 : decode cX2_bows 4 = .ok (.getfield 13, 3) := by decide +kernel
theorem dX2_bows_7 : decode cX2_bows 7 = .ok (.bipush 30, 2) := by decide +kernel
theorem dX2_bows_9 : decode cX2_bows 9 = .ok (.if_icmp .ge 27, 3) := by decide +kernel
theorem dX2_bows_12 : decode cX2_bows 12 = .ok (.aload_n 0, 1) := by decide +kernel
theorem dX2_bows_13 : decode cX2_bows 13 = .ok (.getfield 7, 3) := by decide +kernel
theorem dX2_bows_16 : decode cX2_bows 16 = .ok (.getfield 19, 3) := by decide +kernel
theorem dX2_bows_19 : decode cX2_bows 19 = .ok (.aload_n 0, 1) := by decide +kernel
theorem dX2_bows_20 : decode cX2_bows 20 = .ok (.getfield 7, 3) := by decide +kernel
theorem dX2_bows_23 : decode cX2_bows 23 = .ok (.dup, 1) := by decide +kernel
theorem dX2_bows_24 : decode cX2_bows 24 = .ok (.getfield 13, 3) := by decide +kernel
theorem dX2_bows_27 : decode cX2_bows 27 = .ok (.dup_x1, 1) := by decide +kernel
theorem dX2_bows_28 : decode cX2_bows 28 = .ok (.iconst 1, 1) := by decide +kernel
theorem dX2_bows_29 : decode cX2_bows 29 = .ok (.iadd, 1) := by decide +kernel
theorem dX2_bows_30 : decode cX2_bows 30 = .ok (.putfield 13, 3) := by decide +kernel
theorem dX2_bows_33 : decode cX2_bows 33 = .ok (.bipush 30, 2) := by decide +kernel
theorem dX2_bows_35 : decode cX2_bows 35 = .ok (.iastore, 1) := by decide +kernel
theorem dX2_bows_36 : decode cX2_bows 36 = .ok (.iconst 0, 1) := by decide +kernel
theorem dX2_bows_37 : decode cX2_bows 37 = .ok (.aload_n 0, 1) := by decide +kernel
theorem dX2_bows_38 : decode cX2_bows 38 = .ok (.iload_n 1, 1) := by decide +kernel
theorem dX2_bows_39 : decode cX2_bows 39 = .ok (.invokespecial 23, 3) := by decide +kernel
theorem dX2_bows_42 : decode cX2_bows 42 = .ok (.isub, 1) := by decide +kernel
theorem dX2_bows_43 : decode cX2_bows 43 = .ok (.ireturn, 1) := by decide +kernel
theorem dX2_moves_0 : decode cX2_moves 0 = .ok (.aload_n 0, 1) := by decide +kernel
theorem dX2_moves_1 : decode cX2_moves 1 = .ok (.getfield 7, 3) := by decide +kernel
theorem dX2_moves_4 : decode cX2_moves 4 = .ok (.getfield 13, 3) := by decide +kernel
theorem dX2_moves_7 : decode cX2_moves 7 = .ok (.bipush 30, 2) := by decide +kernel
theorem dX2_moves_9 : decode cX2_moves 9 = .ok (.if_icmp .ge 27, 3) := by decide +kernel
theorem dX2_moves_12 : decode cX2_moves 12 = .ok (.aload_n 0, 1) := by decide +kernel
theorem dX2_moves_13 : decode cX2_moves 13 = .ok (.getfield 7, 3) := by decide +kernel
theorem dX2_moves_16 : decode cX2_moves 16 = .ok (.getfield 19, 3) := by decide +kernel
theorem dX2_moves_19 : decode cX2_moves 19 = .ok (.aload_n 0, 1) := by decide +kernel
theorem dX2_moves_20 : decode cX2_moves 20 = .ok (.getfield 7, 3) := by decide +kernel
theorem dX2_moves_23 : decode cX2_moves 23 = .ok (.dup, 1) := by decide +kernel
theorem dX2_moves_24 : decode cX2_moves 24 = .ok (.getfield 13, 3) := by decide +kernel
theorem dX2_moves_27 : decode cX2_moves 27 = .ok (.dup_x1, 1) := by decide +kernel
theorem dX2_moves_28 : decode cX2_moves 28 = .ok (.iconst 1, 1) := by decide +kernel
theorem dX2_moves_29 : decode cX2_moves 29 = .ok (.iadd, 1) := by decide +kernel
theorem dX2_moves_30 : decode cX2_moves 30 = .ok (.putfield 13, 3) := by decide +kernel
theorem dX2_moves_33 : decode cX2_moves 33 = .ok (.bipush 31, 2) := by decide +kernel
theorem dX2_moves_35 : decode cX2_moves 35 = .ok (.iastore, 1) := by decide +kernel
theorem dX2_moves_36 : decode cX2_moves 36 = .ok (.aload_n 0, 1) := by decide +kernel
theorem dX2_moves_37 : decode cX2_moves 37 = .ok (.iload_n 1, 1) := by decide +kernel
theorem dX2_moves_38 : decode cX2_moves 38 = .ok (.invokespecial 27, 3) := by decide +kernel
theorem dX2_moves_41 : decode cX2_moves 41 = .ok (.aload_n 0, 1) := by decide +kernel
theorem dX2_moves_42 : decode cX2_moves 42 = .ok (.aload_n 0, 1) := by decide +kernel
theorem dX2_moves_43 : decode cX2_moves 43 = .ok (.getfield 30, 3) := by decide +kernel
theorem dX2_moves_46 : decode cX2_moves 46 = .ok (.invokevirtual 33, 3) := by decide +kernel
theorem dX2_moves_49 : decode cX2_moves 49 = .ok (.iadd, 1) := by decide +kernel
theorem dX2_moves_50 : decode cX2_moves 50 = .ok (.ireturn, 1) := by decide +kernel
