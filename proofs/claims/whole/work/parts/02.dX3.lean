theorem dX3_init_0 : decode cX3_init 0 = .ok (.aload_n 0, 1) := by decide +kernel
theorem dX3_init_1 : decode cX3_init 1 = .ok (.invokespecial 1, 3) := by decide +kernel
theorem dX3_init_4 : decode cX3_init 4 = .ok (.aload_n 0, 1) := by decide +kernel
theorem dX3_init_5 : decode cX3_init 5 = .ok (.aload_n 1, 1) := by decide +kernel
theorem dX3_init_6 : decode cX3_init 6 = .ok (.putfield 7, 3) := by decide +kernel
theorem dX3_init_9 : decode cX3_init 9 = .ok (.return_, 1) := by decide +kernel
theorem dX3_hold_0 : decode cX3_hold 0 = .ok (.aload_n 0, 1) := by decide +kernel
theorem dX3_hold_1 : decode cX3_hold 1 = .ok (.iload_n 1, 1) := by decide +kernel
theorem dX3_hold_2 : decode cX3_hold 2 = .ok (.putfield 13, 3) := by decide +kernel
theorem dX3_hold_5 : decode cX3_hold 5 = .ok (.aload_n 0, 1) := by decide +kernel
theorem dX3_hold_6 : decode cX3_hold 6 = .ok (.iload_n 2, 1) := by decide +kernel
theorem dX3_hold_7 : decode cX3_hold 7 = .ok (.putfield 17, 3) := by decide +kernel
theorem dX3_hold_10 : decode cX3_hold 10 = .ok (.return_, 1) := by decide +kernel
theorem dX3_bows_0 : decode cX3_bows 0 = .ok (.aload_n 0, 1) := by decide +kernel
theorem dX3_bows_1 : decode cX3_bows 1 = .ok (.getfield 7, 3) := by decide +kernel
theorem dX3_bows_4 : decode cX3_bows 4 = .ok (.getfield 20, 3) := by decide +kernel
theorem dX3_bows_7 : decode cX3_bows 7 = .ok (.bipush 30, 2) := by decide +kernel
theorem dX3_bows_9 : decode cX3_bows 9 = .ok (.if_icmp .ge 27, 3) := by decide +kernel
theorem dX3_bows_12 : decode cX3_bows 12 = .ok (.aload_n 0, 1) := by decide +kernel
theorem dX3_bows_13 : decode cX3_bows 13 = .ok (.getfield 7, 3) := by decide +kernel
theorem dX3_bows_16 : decode cX3_bows 16 = .ok (.getfield 25, 3) := by decide +kernel
theorem dX3_bows_19 : decode cX3_bows 19 = .ok (.aload_n 0, 1) := by decide +kernel
theorem dX3_bows_20 : decode cX3_bows 20 = .ok (.getfield 7, 3) := by decide +kernel
theorem dX3_bows_23 : decode cX3_bows 23 = .ok (.dup, 1) := by decide +kernel
theorem dX3_bows_24 : decode cX3_bows 24 = .ok (.getfield 20, 3) := by decide +kernel
theorem dX3_bows_27 : decode cX3_bows 27 = .ok (.dup_x1, 1) := by decide +kernel
theorem dX3_bows_28 : decode cX3_bows 28 = .ok (.iconst 1, 1) := by decide +kernel
theorem dX3_bows_29 : decode cX3_bows 29 = .ok (.iadd, 1) := by decide +kernel
theorem dX3_bows_30 : decode cX3_bows 30 = .ok (.putfield 20, 3) := by decide +kernel
theorem dX3_bows_33 : decode cX3_bows 33 = .ok (.bipush 10, 2) := by decide +kernel
theorem dX3_bows_35 : decode cX3_bows 35 = .ok (.iastore, 1) := by decide +kernel
theorem dX3_bows_36 : decode cX3_bows 36 = .ok (.iload_n 1, 1) := by decide +kernel
theorem dX3_bows_37 : decode cX3_bows 37 = .ok (.bipush 6, 2) := by decide +kernel
theorem dX3_bows_39 : decode cX3_bows 39 = .ok (.imul, 1) := by decide +kernel
theorem dX3_bows_40 : decode cX3_bows 40 = .ok (.aload_n 0, 1) := by decide +kernel
theorem dX3_bows_41 : decode cX3_bows 41 = .ok (.getfield 13, 3) := by decide +kernel
theorem dX3_bows_44 : decode cX3_bows 44 = .ok (.isub, 1) := by decide +kernel
theorem dX3_bows_45 : decode cX3_bows 45 = .ok (.ireturn, 1) := by decide +kernel
theorem dX3_sings_0 : decode cX3_sings 0 = .ok (.aload_n 0, 1) := by decide +kernel
theorem dX3_sings_1 : decode cX3_sings 1 = .ok (.getfield 7, 3) := by decide +kernel
theorem dX3_sings_4 : decode cX3_sings 4 = .ok (.getfield 20, 3) := by decide +kernel
theorem dX3_sings_7 : decode cX3_sings 7 = .ok (.bipush 30, 2) := by decide +kernel
theorem dX3_sings_9 : decode cX3_sings 9 = .ok (.if_icmp .ge 27, 3) := by decide +kernel
theorem dX3_sings_12 : decode cX3_sings 12 = .ok (.aload_n 0, 1) := by decide +kernel
theorem dX3_sings_13 : decode cX3_sings 13 = .ok (.getfield 7, 3) := by decide +kernel
theorem dX3_sings_16 : decode cX3_sings 16 = .ok (.getfield 25, 3) := by decide +kernel
theorem dX3_sings_19 : decode cX3_sings 19 = .ok (.aload_n 0, 1) := by decide +kernel
theorem dX3_sings_20 : decode cX3_sings 20 = .ok (.getfield 7, 3) := by decide +kernel
theorem dX3_sings_23 : decode cX3_sings 23 = .ok (.dup, 1) := by decide +kernel
theorem dX3_sings_24 : decode cX3_sings 24 = .ok (.getfield 20, 3) := by decide +kernel
theorem dX3_sings_27 : decode cX3_sings 27 = .ok (.dup_x1, 1) := by decide +kernel
theorem dX3_sings_28 : decode cX3_sings 28 = .ok (.iconst 1, 1) := by decide +kernel
theorem dX3_sings_29 : decode cX3_sings 29 = .ok (.iadd, 1) := by decide +kernel
theorem dX3_sings_30 : decode cX3_sings 30 = .ok (.putfield 20, 3) := by decide +kernel
theorem dX3_sings_33 : decode cX3_sings 33 = .ok (.bipush 11, 2) := by decide +kernel
theorem dX3_sings_35 : decode cX3_sings 35 = .ok (.iastore, 1) := by decide +kernel
theorem dX3_sings_36 : decode cX3_sings 36 = .ok (.aload_n 0, 1) := by decide +kernel
theorem dX3_sings_37 : decode cX3_sings 37 = .ok (.iload_n 1, 1) := by decide +kernel
theorem dX3_sings_38 : decode cX3_sings 38 = .ok (.invokevirtual 29, 3) := by decide +kernel
theorem dX3_sings_41 : decode cX3_sings 41 = .ok (.aload_n 0, 1) := by decide +kernel
theorem dX3_sings_42 : decode cX3_sings 42 = .ok (.getfield 17, 3) := by decide +kernel
theorem dX3_sings_45 : decode cX3_sings 45 = .ok (.iconst 2, 1) := by decide +kernel
theorem dX3_sings_46 : decode cX3_sings 46 = .ok (.imul, 1) := by decide +kernel
theorem dX3_sings_47 : decode cX3_sings 47 = .ok (.iadd, 1) := by decide +kernel
theorem dX3_sings_48 : decode cX3_sings 48 = .ok (.ireturn, 1) := by decide +kernel
theorem dX3_parts_0 : decode cX3_parts 0 = .ok (.aload_n 0, 1) := by decide +kernel
theorem dX3_parts_1 : decode cX3_parts 1 = .ok (.getfield 7, 3) := by decide +kernel
theorem dX3_parts_4 : decode cX3_parts 4 = .ok (.getfield 20, 3) := by decide +kernel
theorem dX3_parts_7 : decode cX3_parts 7 = .ok (.bipush 30, 2) := by decide +kernel
theorem dX3_parts_9 : decode cX3_parts 9 = .ok (.if_icmp .ge 27, 3) := by decide +kernel
theorem dX3_parts_12 : decode cX3_parts 12 = .ok (.aload_n 0, 1) := by decide +kernel
theorem dX3_parts_13 : decode cX3_parts 13 = .ok (.getfield 7, 3) := by decide +kernel
theorem dX3_parts_16 : decode cX3_parts 16 = .ok (.getfield 25, 3) := by decide +kernel
theorem dX3_parts_19 : decode cX3_parts 19 = .ok (.aload_n 0, 1) := by decide +kernel
theorem dX3_parts_20 : decode cX3_parts 20 = .ok (.getfield 7, 3) := by decide +kernel
theorem dX3_parts_23 : decode cX3_parts 23 = .ok (.dup, 1) := by decide +kernel
theorem dX3_parts_24 : decode cX3_parts 24 = .ok (.getfield 20, 3) := by decide +kernel
theorem dX3_parts_27 : decode cX3_parts 27 = .ok (.dup_x1, 1) := by decide +kernel
theorem dX3_parts_28 : decode cX3_parts 28 = .ok (.iconst 1, 1) := by decide +kernel
theorem dX3_parts_29 : decode cX3_parts 29 = .ok (.iadd, 1) := by decide +kernel
theorem dX3_parts_30 : decode cX3_parts 30 = .ok (.putfield 20, 3) := by decide +kernel
theorem dX3_parts_33 : decode cX3_parts 33 = .ok (.bipush 12, 2) := by decide +kernel
theorem dX3_parts_35 : decode cX3_parts 35 = .ok (.iastore, 1) := by decide +kernel
theorem dX3_parts_36 : decode cX3_parts 36 = .ok (.aload_n 0, 1) := by decide +kernel
theorem dX3_parts_37 : decode cX3_parts 37 = .ok (.getfield 17, 3) := by decide +kernel
theorem dX3_parts_40 : decode cX3_parts 40 = .ok (.aload_n 0, 1) := by decide +kernel
theorem dX3_parts_41 : decode cX3_parts 41 = .ok (.getfield 13, 3) := by decide +kernel
theorem dX3_parts_44 : decode cX3_parts 44 = .ok (.if_icmp .ne 13, 3) := by decide +kernel
theorem dX3_parts_47 : decode cX3_parts 47 = .ok (.aload_n 0, 1) := by decide +kernel
theorem dX3_parts_48 : decode cX3_parts 48 = .ok (.getfield 7, 3) := by decide +kernel
theorem dX3_parts_51 : decode cX3_parts 51 = .ok (.iconst 1, 1) := by decide +kernel
theorem dX3_parts_52 : decode cX3_parts 52 = .ok (.putfield 33, 3) := by decide +kernel
theorem dX3_parts_55 : decode cX3_parts 55 = .ok (.iconst 0, 1) := by decide +kernel
theorem dX3_parts_56 : decode cX3_parts 56 = .ok (.ireturn, 1) := by decide +kernel
theorem dX3_parts_57 : decode cX3_parts 57 = .ok (.iload_n 1, 1) := by decide +kernel
theorem dX3_parts_58 : decode cX3_parts 58 = .ok (.aload_n 0, 1) := by decide +kernel
theorem dX3_parts_59 : decode cX3_parts 59 = .ok (.getfield 17, 3) := by decide +kernel
theorem dX3_parts_62 : decode cX3_parts 62 = .ok (.aload_n 0, 1) := by decide +kernel
theorem dX3_parts_63 : decode cX3_parts 63 = .ok (.getfield 13, 3) := by decide +kernel
theorem dX3_parts_66 : decode cX3_parts 66 = .ok (.isub, 1) := by decide +kernel
theorem dX3_parts_67 : decode cX3_parts 67 = .ok (.idiv, 1) := by decide +kernel
theorem dX3_parts_68 : decode cX3_parts 68 = .ok (.ireturn, 1) := by decide +kernel
theorem dX3_moves_0 : decode cX3_moves 0 = .ok (.aload_n 0, 1) := by decide +kernel
theorem dX3_moves_1 : decode cX3_moves 1 = .ok (.getfield 7, 3) := by decide +kernel
theorem dX3_moves_4 : decode cX3_moves 4 = .ok (.getfield 20, 3) := by decide +kernel
theorem dX3_moves_7 : decode cX3_moves 7 = .ok (.bipush 30, 2) := by decide +kernel
theorem dX3_moves_9 : decode cX3_moves 9 = .ok (.if_icmp .ge 27, 3) := by decide +kernel
theorem dX3_moves_12 : decode cX3_moves 12 = .ok (.aload_n 0, 1) := by decide +kernel
theorem dX3_moves_13 : decode cX3_moves 13 = .ok (.getfield 7, 3) := by decide +kernel
theorem dX3_moves_16 : decode cX3_moves 16 = .ok (.getfield 25, 3) := by decide +kernel
theorem dX3_moves_19 : decode cX3_moves 19 = .ok (.aload_n 0, 1) := by decide +kernel
theorem dX3_moves_20 : decode cX3_moves 20 = .ok (.getfield 7, 3) := by decide +kernel
theorem dX3_moves_23 : decode cX3_moves 23 = .ok (.dup, 1) := by decide +kernel
theorem dX3_moves_24 : decode cX3_moves 24 = .ok (.getfield 20, 3) := by decide +kernel
theorem dX3_moves_27 : decode cX3_moves 27 = .ok (.dup_x1, 1) := by decide +kernel
theorem dX3_moves_28 : decode cX3_moves 28 = .ok (.iconst 1, 1) := by decide +kernel
theorem dX3_moves_29 : decode cX3_moves 29 = .ok (.iadd, 1) := by decide +kernel
theorem dX3_moves_30 : decode cX3_moves 30 = .ok (.putfield 20, 3) := by decide +kernel
theorem dX3_moves_33 : decode cX3_moves 33 = .ok (.bipush 13, 2) := by decide +kernel
theorem dX3_moves_35 : decode cX3_moves 35 = .ok (.iastore, 1) := by decide +kernel
theorem dX3_moves_36 : decode cX3_moves 36 = .ok (.aload_n 0, 1) := by decide +kernel
theorem dX3_moves_37 : decode cX3_moves 37 = .ok (.iload_n 1, 1) := by decide +kernel
theorem dX3_moves_38 : decode cX3_moves 38 = .ok (.invokevirtual 37, 3) := by decide +kernel
theorem dX3_moves_41 : decode cX3_moves 41 = .ok (.sipush 220, 3) := by decide +kernel
theorem dX3_moves_44 : decode cX3_moves 44 = .ok (.ixor, 1) := by decide +kernel
theorem dX3_moves_45 : decode cX3_moves 45 = .ok (.ireturn, 1) := by decide +kernel
