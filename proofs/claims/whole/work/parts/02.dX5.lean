theorem dX5_init_0 : decode cX5_init 0 = .ok (.aload_n 0, 1) := by decide +kernel
theorem dX5_init_1 : decode cX5_init 1 = .ok (.aload_n 1, 1) := by decide +kernel
theorem dX5_init_2 : decode cX5_init 2 = .ok (.invokespecial 1, 3) := by decide +kernel
theorem dX5_init_5 : decode cX5_init 5 = .ok (.return_, 1) := by decide +kernel
theorem dX5_parts_0 : decode cX5_parts 0 = .ok (.aload_n 0, 1) := by decide +kernel
theorem dX5_parts_1 : decode cX5_parts 1 = .ok (.getfield 7, 3) := by decide +kernel
theorem dX5_parts_4 : decode cX5_parts 4 = .ok (.getfield 13, 3) := by decide +kernel
theorem dX5_parts_7 : decode cX5_parts 7 = .ok (.bipush 30, 2) := by decide +kernel
theorem dX5_parts_9 : decode cX5_parts 9 = .ok (.if_icmp .ge 27, 3) := by decide +kernel
theorem dX5_parts_12 : decode cX5_parts 12 = .ok (.aload_n 0, 1) := by decide +kernel
theorem dX5_parts_13 : decode cX5_parts 13 = .ok (.getfield 7, 3) := by decide +kernel
theorem dX5_parts_16 : decode cX5_parts 16 = .ok (.getfield 19, 3) := by decide +kernel
theorem dX5_parts_19 : decode cX5_parts 19 = .ok (.aload_n 0, 1) := by decide +kernel
theorem dX5_parts_20 : decode cX5_parts 20 = .ok (.getfield 7, 3) := by decide +kernel
theorem dX5_parts_23 : decode cX5_parts 23 = .ok (.dup, 1) := by decide +kernel
theorem dX5_parts_24 : decode cX5_parts 24 = .ok (.getfield 13, 3) := by decide +kernel
theorem dX5_parts_27 : decode cX5_parts 27 = .ok (.dup_x1, 1) := by decide +kernel
theorem dX5_parts_28 : decode cX5_parts 28 = .ok (.iconst 1, 1) := by decide +kernel
theorem dX5_parts_29 : decode cX5_parts 29 = .ok (.iadd, 1) := by decide +kernel
theorem dX5_parts_30 : decode cX5_parts 30 = .ok (.putfield 13, 3) := by decide +kernel
theorem dX5_parts_33 : decode cX5_parts 33 = .ok (.bipush 50, 2) := by decide +kernel
theorem dX5_parts_35 : decode cX5_parts 35 = .ok (.iastore, 1) := by decide +kernel
theorem dX5_parts_36 : decode cX5_parts 36 = .ok (.aload_n 0, 1) := by decide +kernel
theorem dX5_parts_37 : decode cX5_parts 37 = .ok (.iload_n 1, 1) := by decide +kernel
theorem dX5_parts_38 : decode cX5_parts 38 = .ok (.bipush 7, 2) := by decide +kernel
theorem dX5_parts_40 : decode cX5_parts 40 = .ok (.isub, 1) := by decide +kernel
theorem dX5_parts_41 : decode cX5_parts 41 = .ok (.invokespecial 23, 3) := by decide +kernel
theorem dX5_parts_44 : decode cX5_parts 44 = .ok (.aload_n 0, 1) := by decide +kernel
theorem dX5_parts_45 : decode cX5_parts 45 = .ok (.getfield 27, 3) := by decide +kernel
theorem dX5_parts_48 : decode cX5_parts 48 = .ok (.isub, 1) := by decide +kernel
theorem dX5_parts_49 : decode cX5_parts 49 = .ok (.ireturn, 1) := by decide +kernel
theorem dX5_bows_0 : decode cX5_bows 0 = .ok (.aload_n 0, 1) := by decide +kernel
theorem dX5_bows_1 : decode cX5_bows 1 = .ok (.getfield 7, 3) := by decide +kernel
theorem dX5_bows_4 : decode cX5_bows 4 = .ok (.getfield 13, 3) := by decide +kernel
theorem dX5_bows_7 : decode cX5_bows 7 = .ok (.bipush 30, 2) := by decide +kernel
theorem dX5_bows_9 : decode cX5_bows 9 = .ok (.if_icmp .ge 27, 3) := by decide +kernel
theorem dX5_bows_12 : decode cX5_bows 12 = .ok (.aload_n 0, 1) := by decide +kernel
theorem dX5_bows_13 : decode cX5_bows 13 = .ok (.getfield 7, 3) := by decide +kernel
theorem dX5_bows_16 : decode cX5_bows 16 = .ok (.getfield 19, 3) := by decide +kernel
theorem dX5_bows_19 : decode cX5_bows 19 = .ok (.aload_n 0, 1) := by decide +kernel
theorem dX5_bows_20 : decode cX5_bows 20 = .ok (.getfield 7, 3) := by decide +kernel
theorem dX5_bows_23 : decode cX5_bows 23 = .ok (.dup, 1) := by decide +kernel
theorem dX5_bows_24 : decode cX5_bows 24 = .ok (.getfield 13, 3) := by decide +kernel
theorem dX5_bows_27 : decode cX5_bows 27 = .ok (.dup_x1, 1) := by decide +kernel
theorem dX5_bows_28 : decode cX5_bows 28 = .ok (.iconst 1, 1) := by decide +kernel
theorem dX5_bows_29 : decode cX5_bows 29 = .ok (.iadd, 1) := by decide +kernel
theorem dX5_bows_30 : decode cX5_bows 30 = .ok (.putfield 13, 3) := by decide +kernel
theorem dX5_bows_33 : decode cX5_bows 33 = .ok (.bipush 51, 2) := by decide +kernel
theorem dX5_bows_35 : decode cX5_bows 35 = .ok (.iastore, 1) := by decide +kernel
theorem dX5_bows_36 : decode cX5_bows 36 = .ok (.aload_n 0, 1) := by decide +kernel
theorem dX5_bows_37 : decode cX5_bows 37 = .ok (.iload_n 1, 1) := by decide +kernel
theorem dX5_bows_38 : decode cX5_bows 38 = .ok (.invokespecial 30, 3) := by decide +kernel
theorem dX5_bows_41 : decode cX5_bows 41 = .ok (.iconst 2, 1) := by decide +kernel
theorem dX5_bows_42 : decode cX5_bows 42 = .ok (.imul, 1) := by decide +kernel
theorem dX5_bows_43 : decode cX5_bows 43 = .ok (.ireturn, 1) := by decide +kernel
