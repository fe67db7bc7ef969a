theorem dX7_init_0 : decode cX7_init 0 = .ok (.aload_n 0, 1) := by decide +kernel
theorem dX7_init_1 : decode cX7_init 1 = .ok (.aload_n 1, 1) := by decide +kernel
theorem dX7_init_2 : decode cX7_init 2 = .ok (.invokespecial 1, 3) := by decide +kernel
theorem dX7_init_5 : decode cX7_init 5 = .ok (.return_, 1) := by decide +kernel
theorem dX7_moves_0 : decode cX7_moves 0 = .ok (.aload_n 0, 1) := by decide +kernel
theorem dX7_moves_1 : decode cX7_moves 1 = .ok (.getfield 7, 3) := by decide +kernel
theorem dX7_moves_4 : decode cX7_moves 4 = .ok (.getfield 13, 3) := by decide +kernel
theorem dX7_moves_7 : decode cX7_moves 7 = .ok (.bipush 30, 2) := by decide +kernel
theorem dX7_moves_9 : decode cX7_moves 9 = .ok (.if_icmp .ge 27, 3) := by decide +kernel
theorem dX7_moves_12 : decode cX7_moves 12 = .ok (.aload_n 0, 1) := by decide +kernel
theorem dX7_moves_13 : decode cX7_moves 13 = .ok (.getfield 7, 3) := by decide +kernel
theorem dX7_moves_16 : decode cX7_moves 16 = .ok (.getfield 19, 3) := by decide +kernel
theorem dX7_moves_19 : decode cX7_moves 19 = .ok (.aload_n 0, 1) := by decide +kernel
theorem dX7_moves_20 : decode cX7_moves 20 = .ok (.getfield 7, 3) := by decide +kernel
theorem dX7_moves_23 : decode cX7_moves 23 = .ok (.dup, 1) := by decide +kernel
theorem dX7_moves_24 : decode cX7_moves 24 = .ok (.getfield 13, 3) := by decide +kernel
theorem dX7_moves_27 : decode cX7_moves 27 = .ok (.dup_x1, 1) := by decide +kernel
theorem dX7_moves_28 : decode cX7_moves 28 = .ok (.iconst 1, 1) := by decide +kernel
theorem dX7_moves_29 : decode cX7_moves 29 = .ok (.iadd, 1) := by decide +kernel
theorem dX7_moves_30 : decode cX7_moves 30 = .ok (.putfield 13, 3) := by decide +kernel
theorem dX7_moves_33 : decode cX7_moves 33 = .ok (.bipush 60, 2) := by decide +kernel
theorem dX7_moves_35 : decode cX7_moves 35 = .ok (.iastore, 1) := by decide +kernel
theorem dX7_moves_36 : decode cX7_moves 36 = .ok (.aload_n 0, 1) := by decide +kernel
theorem dX7_moves_37 : decode cX7_moves 37 = .ok (.iload_n 1, 1) := by decide +kernel
theorem dX7_moves_38 : decode cX7_moves 38 = .ok (.invokespecial 23, 3) := by decide +kernel
theorem dX7_moves_41 : decode cX7_moves 41 = .ok (.iconst 1, 1) := by decide +kernel
theorem dX7_moves_42 : decode cX7_moves 42 = .ok (.isub, 1) := by decide +kernel
theorem dX7_moves_43 : decode cX7_moves 43 = .ok (.ireturn, 1) := by decide +kernel
theorem dX7_parts_0 : decode cX7_parts 0 = .ok (.aload_n 0, 1) := by decide +kernel
theorem dX7_parts_1 : decode cX7_parts 1 = .ok (.getfield 7, 3) := by decide +kernel
theorem dX7_parts_4 : decode cX7_parts 4 = .ok (.getfield 13, 3) := by decide +kernel
theorem dX7_parts_7 : decode cX7_parts 7 = .ok (.bipush 30, 2) := by decide +kernel
theorem dX7_parts_9 : decode cX7_parts 9 = .ok (.if_icmp .ge 27, 3) := by decide +kernel
theorem dX7_parts_12 : decode cX7_parts 12 = .ok (.aload_n 0, 1) := by decide +kernel
theorem dX7_parts_13 : decode cX7_parts 13 = .ok (.getfield 7, 3) := by decide +kernel
theorem dX7_parts_16 : decode cX7_parts 16 = .ok (.getfield 19, 3) := by decide +kernel
theorem dX7_parts_19 : decode cX7_parts 19 = .ok (.aload_n 0, 1) := by decide +kernel
theorem dX7_parts_20 : decode cX7_parts 20 = .ok (.getfield 7, 3) := by decide +kernel
theorem dX7_parts_23 : decode cX7_parts 23 = .ok (.dup, 1) := by decide +kernel
theorem dX7_parts_24 : decode cX7_parts 24 = .ok (.getfield 13, 3) := by decide +kernel
theorem dX7_parts_27 : decode cX7_parts 27 = .ok (.dup_x1, 1) := by decide +kernel
theorem dX7_parts_28 : decode cX7_parts 28 = .ok (.iconst 1, 1) := by decide +kernel
theorem dX7_parts_29 : decode cX7_parts 29 = .ok (.iadd, 1) := by decide +kernel
theorem dX7_parts_30 : decode cX7_parts 30 = .ok (.putfield 13, 3) := by decide +kernel
theorem dX7_parts_33 : decode cX7_parts 33 = .ok (.bipush 61, 2) := by decide +kernel
theorem dX7_parts_35 : decode cX7_parts 35 = .ok (.iastore, 1) := by decide +kernel
theorem dX7_parts_36 : decode cX7_parts 36 = .ok (.aload_n 0, 1) := by decide +kernel
theorem dX7_parts_37 : decode cX7_parts 37 = .ok (.iload_n 1, 1) := by decide +kernel
theorem dX7_parts_38 : decode cX7_parts 38 = .ok (.invokespecial 27, 3) := by decide +kernel
theorem dX7_parts_41 : decode cX7_parts 41 = .ok (.istore_n 2, 1) := by decide +kernel
theorem dX7_parts_42 : decode cX7_parts 42 = .ok (.aload_n 0, 1) := by decide +kernel
theorem dX7_parts_43 : decode cX7_parts 43 = .ok (.getfield 7, 3) := by decide +kernel
theorem dX7_parts_46 : decode cX7_parts 46 = .ok (.getfield 30, 3) := by decide +kernel
theorem dX7_parts_49 : decode cX7_parts 49 = .ok (.ifCond .eq 5, 3) := by decide +kernel
theorem dX7_parts_52 : decode cX7_parts 52 = .ok (.iconst 0, 1) := by decide +kernel
theorem dX7_parts_53 : decode cX7_parts 53 = .ok (.ireturn, 1) := by decide +kernel
theorem dX7_parts_54 : decode cX7_parts 54 = .ok (.iload_n 2, 1) := by decide +kernel
theorem dX7_parts_55 : decode cX7_parts 55 = .ok (.aload_n 0, 1) := by decide +kernel
theorem dX7_parts_56 : decode cX7_parts 56 = .ok (.aload_n 0, 1) := by decide +kernel
theorem dX7_parts_57 : decode cX7_parts 57 = .ok (.getfield 34, 3) := by decide +kernel
theorem dX7_parts_60 : decode cX7_parts 60 = .ok (.invokevirtual 37, 3) := by decide +kernel
theorem dX7_parts_63 : decode cX7_parts 63 = .ok (.imul, 1) := by decide +kernel
theorem dX7_parts_64 : decode cX7_parts 64 = .ok (.ireturn, 1) := by decide +kernel
