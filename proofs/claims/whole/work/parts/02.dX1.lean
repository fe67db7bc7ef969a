theorem dX1_init_0 : decode cX1_init 0 = .ok (.aload_n 0, 1) := by decide +kernel
theorem dX1_init_1 : decode cX1_init 1 = .ok (.aload_n 1, 1) := by decide +kernel
theorem dX1_init_2 : decode cX1_init 2 = .ok (.invokespecial 1, 3) := by decide +kernel
theorem dX1_init_5 : decode cX1_init 5 = .ok (.return_, 1) := by decide +kernel
theorem dX1_sings_0 : decode cX1_sings 0 = .ok (.aload_n 0, 1) := by decide +kernel
theorem dX1_sings_1 : decode cX1_sings 1 = .ok (.getfield 7, 3) := by decide +kernel
theorem dX1_sings_4 : decode cX1_sings 4 = .ok (.getfield 13, 3) := by decide +kernel
theorem dX1_sings_7 : decode cX1_sings 7 = .ok (.bipush 30, 2) := by decide +kernel
theorem dX1_sings_9 : decode cX1_sings 9 = .ok (.if_icmp .ge 27, 3) := by decide +kernel
theorem dX1_sings_12 : decode cX1_sings 12 = .ok (.aload_n 0, 1) := by decide +kernel
theorem dX1_sings_13 : decode cX1_sings 13 = .ok (.getfield 7, 3) := by decide +kernel
theorem dX1_sings_16 : decode cX1_sings 16 = .ok (.getfield 19, 3) := by decide +kernel
theorem dX1_sings_19 : decode cX1_sings 19 = .ok (.aload_n 0, 1) := by decide +kernel
theorem dX1_sings_20 : decode cX1_sings 20 = .ok (.getfield 7, 3) := by decide +kernel
theorem dX1_sings_23 : decode cX1_sings 23 = .ok (.dup, 1) := by decide +kernel
theorem dX1_sings_24 : decode cX1_sings 24 = .ok (.getfield 13, 3) := by decide +kernel
theorem dX1_sings_27 : decode cX1_sings 27 = .ok (.dup_x1, 1) := by decide +kernel
theorem dX1_sings_28 : decode cX1_sings 28 = .ok (.iconst 1, 1) := by decide +kernel
theorem dX1_sings_29 : decode cX1_sings 29 = .ok (.iadd, 1) := by decide +kernel
theorem dX1_sings_30 : decode cX1_sings 30 = .ok (.putfield 13, 3) := by decide +kernel
theorem dX1_sings_33 : decode cX1_sings 33 = .ok (.bipush 20, 2) := by decide +kernel
theorem dX1_sings_35 : decode cX1_sings 35 = .ok (.iastore, 1) := by decide +kernel
theorem dX1_sings_36 : decode cX1_sings 36 = .ok (.aload_n 0, 1) := by decide +kernel
theorem dX1_sings_37 : decode cX1_sings 37 = .ok (.iload_n 1, 1) := by decide +kernel
theorem dX1_sings_38 : decode cX1_sings 38 = .ok (.invokespecial 23, 3) := by decide +kernel
theorem dX1_sings_41 : decode cX1_sings 41 = .ok (.iconst 3, 1) := by decide +kernel
theorem dX1_sings_42 : decode cX1_sings 42 = .ok (.imul, 1) := by decide +kernel
theorem dX1_sings_43 : decode cX1_sings 43 = .ok (.ireturn, 1) := by decide +kernel
