theorem dX6_init_0 : decode cX6_init 0 = .ok (.aload_n 0, 1) := by decide +kernel
theorem dX6_init_1 : decode cX6_init 1 = .ok (.invokespecial 3, 3) := by decide +kernel
theorem dX6_init_4 : decode cX6_init 4 = .ok (.aload_n 0, 1) := by decide +kernel
theorem dX6_init_5 : decode cX6_init 5 = .ok (.iconst (-1), 1) := by decide +kernel
theorem dX6_init_6 : decode cX6_init 6 = .ok (.putfield 9, 3) := by decide +kernel
theorem dX6_init_9 : decode cX6_init 9 = .ok (.aload_n 0, 1) := by decide +kernel
theorem dX6_init_10 : decode cX6_init 10 = .ok (.bipush 40, 2) := by decide +kernel
theorem dX6_init_12 : decode cX6_init 12 = .ok (.newarray .int, 2) := by decide +kernel
theorem dX6_init_14 : decode cX6_init 14 = .ok (.putfield 15, 3) := by decide +kernel
theorem dX6_init_17 : decode cX6_init 17 = .ok (.return_, 1) := by decide +kernel
theorem dX6_become_0 : decode cX6_become 0 = .ok (.aload_n 0, 1) := by decide +kernel
theorem dX6_become_1 : decode cX6_become 1 = .ok (.iload_n 1, 1) := by decide +kernel
theorem dX6_become_2 : decode cX6_become 2 = .ok (.putfield 9, 3) := by decide +kernel
theorem dX6_become_5 : decode cX6_become 5 = .ok (.aload_n 0, 1) := by decide +kernel
theorem dX6_become_6 : decode cX6_become 6 = .ok (.iload_n 2, 1) := by decide +kernel
theorem dX6_become_7 : decode cX6_become 7 = .ok (.putfield 19, 3) := by decide +kernel
theorem dX6_become_10 : decode cX6_become 10 = .ok (.iconst 0, 1) := by decide +kernel
theorem dX6_become_11 : decode cX6_become 11 = .ok (.istore_n 3, 1) := by decide +kernel
theorem dX6_become_12 : decode cX6_become 12 = .ok (.iload_n 3, 1) := by decide +kernel
theorem dX6_become_13 : decode cX6_become 13 = .ok (.bipush 40, 2) := by decide +kernel
theorem dX6_become_15 : decode cX6_become 15 = .ok (.if_icmp .ge 16, 3) := by decide +kernel
theorem dX6_become_18 : decode cX6_become 18 = .ok (.aload_n 0, 1) := by decide +kernel
theorem dX6_become_19 : decode cX6_become 19 = .ok (.getfield 15, 3) := by decide +kernel
theorem dX6_become_22 : decode cX6_become 22 = .ok (.iload_n 3, 1) := by decide +kernel
theorem dX6_become_23 : decode cX6_become 23 = .ok (.iconst 0, 1) := by decide +kernel
theorem dX6_become_24 : decode cX6_become 24 = .ok (.iastore, 1) := by decide +kernel
theorem dX6_become_25 : decode cX6_become 25 = .ok (.iinc 3 1, 3) := by decide +kernel
theorem dX6_become_28 : decode cX6_become 28 = .ok (.goto (-16), 3) := by decide +kernel
theorem dX6_become_31 : decode cX6_become 31 = .ok (.return_, 1) := by decide +kernel
theorem dX6_narrowed_0 : decode cX6_narrowed 0 = .ok (.aload_n 0, 1) := by decide +kernel
theorem dX6_narrowed_1 : decode cX6_narrowed 1 = .ok (.getfield 9, 3) := by decide +kernel
theorem dX6_narrowed_4 : decode cX6_narrowed 4 = .ok (.lookupswitch 34 #[(0, 28), (1, 31)], 28) := by decide +kernel
theorem dX6_narrowed_32 : decode cX6_narrowed 32 = .ok (.iload_n 1, 1) := by decide +kernel
theorem dX6_narrowed_33 : decode cX6_narrowed 33 = .ok (.i2b, 1) := by decide +kernel
theorem dX6_narrowed_34 : decode cX6_narrowed 34 = .ok (.ireturn, 1) := by decide +kernel
theorem dX6_narrowed_35 : decode cX6_narrowed 35 = .ok (.iload_n 1, 1) := by decide +kernel
theorem dX6_narrowed_36 : decode cX6_narrowed 36 = .ok (.i2s, 1) := by decide +kernel
theorem dX6_narrowed_37 : decode cX6_narrowed 37 = .ok (.ireturn, 1) := by decide +kernel
theorem dX6_narrowed_38 : decode cX6_narrowed 38 = .ok (.iload_n 1, 1) := by decide +kernel
theorem dX6_narrowed_39 : decode cX6_narrowed 39 = .ok (.ireturn, 1) := by decide +kernel
theorem dX6_toldUpTo_0 : decode cX6_toldUpTo 0 = .ok (.aload_n 0, 1) := by decide +kernel
theorem dX6_toldUpTo_1 : decode cX6_toldUpTo 1 = .ok (.getfield 19, 3) := by decide +kernel
theorem dX6_toldUpTo_4 : decode cX6_toldUpTo 4 = .ok (.istore_n 1, 1) := by decide +kernel
theorem dX6_toldUpTo_5 : decode cX6_toldUpTo 5 = .ok (.iload_n 1, 1) := by decide +kernel
theorem dX6_toldUpTo_6 : decode cX6_toldUpTo 6 = .ok (.ifCond .le 21, 3) := by decide +kernel
theorem dX6_toldUpTo_9 : decode cX6_toldUpTo 9 = .ok (.aload_n 0, 1) := by decide +kernel
theorem dX6_toldUpTo_10 : decode cX6_toldUpTo 10 = .ok (.getfield 15, 3) := by decide +kernel
theorem dX6_toldUpTo_13 : decode cX6_toldUpTo 13 = .ok (.iload_n 1, 1) := by decide +kernel
theorem dX6_toldUpTo_14 : decode cX6_toldUpTo 14 = .ok (.iconst 1, 1) := by decide +kernel
theorem dX6_toldUpTo_15 : decode cX6_toldUpTo 15 = .ok (.isub, 1) := by decide +kernel
theorem dX6_toldUpTo_16 : decode cX6_toldUpTo 16 = .ok (.iaload, 1) := by decide +kernel
theorem dX6_toldUpTo_17 : decode cX6_toldUpTo 17 = .ok (.iconst (-1), 1) := by decide +kernel
theorem dX6_toldUpTo_18 : decode cX6_toldUpTo 18 = .ok (.if_icmp .ne 9, 3) := by decide +kernel
theorem dX6_toldUpTo_21 : decode cX6_toldUpTo 21 = .ok (.iinc 1 (-1), 3) := by decide +kernel
theorem dX6_toldUpTo_24 : decode cX6_toldUpTo 24 = .ok (.goto (-19), 3) := by decide +kernel
theorem dX6_toldUpTo_27 : decode cX6_toldUpTo 27 = .ok (.iload_n 1, 1) := by decide +kernel
theorem dX6_toldUpTo_28 : decode cX6_toldUpTo 28 = .ok (.ireturn, 1) := by decide +kernel
