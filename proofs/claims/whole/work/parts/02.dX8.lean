theorem dX8_init_0 : decode cX8_init 0 = .ok (.aload_n 0, 1) := by decide +kernel
theorem dX8_init_1 : decode cX8_init 1 = .ok (.invokespecial 3, 3) := by decide +kernel
theorem dX8_init_4 : decode cX8_init 4 = .ok (.aload_n 0, 1) := by decide +kernel
theorem dX8_init_5 : decode cX8_init 5 = .ok (.sipush 200, 3) := by decide +kernel
theorem dX8_init_8 : decode cX8_init 8 = .ok (.newarray .byte, 2) := by decide +kernel
theorem dX8_init_10 : decode cX8_init 10 = .ok (.putfield 11, 3) := by decide +kernel
theorem dX8_init_13 : decode cX8_init 13 = .ok (.return_, 1) := by decide +kernel
theorem dX8_append_0 : decode cX8_append 0 = .ok (.iload_n 3, 1) := by decide +kernel
theorem dX8_append_1 : decode cX8_append 1 = .ok (.sipush 200, 3) := by decide +kernel
theorem dX8_append_4 : decode cX8_append 4 = .ok (.aload_n 0, 1) := by decide +kernel
theorem dX8_append_5 : decode cX8_append 5 = .ok (.getfield 15, 3) := by decide +kernel
theorem dX8_append_8 : decode cX8_append 8 = .ok (.isub, 1) := by decide +kernel
theorem dX8_append_9 : decode cX8_append 9 = .ok (.if_icmp .le 5, 3) := by decide +kernel
theorem dX8_append_12 : decode cX8_append 12 = .ok (.iconst 0, 1) := by decide +kernel
theorem dX8_append_13 : decode cX8_append 13 = .ok (.ireturn, 1) := by decide +kernel
theorem dX8_append_14 : decode cX8_append 14 = .ok (.iconst 0, 1) := by decide +kernel
theorem dX8_append_15 : decode cX8_append 15 = .ok (.istore 4, 2) := by decide +kernel
theorem dX8_append_17 : decode cX8_append 17 = .ok (.iload 4, 2) := by decide +kernel
theorem dX8_append_19 : decode cX8_append 19 = .ok (.iload_n 3, 1) := by decide +kernel
theorem dX8_append_20 : decode cX8_append 20 = .ok (.if_icmp .ge 30, 3) := by decide +kernel
theorem dX8_append_23 : decode cX8_append 23 = .ok (.aload_n 0, 1) := by decide +kernel
theorem dX8_append_24 : decode cX8_append 24 = .ok (.getfield 11, 3) := by decide +kernel
theorem dX8_append_27 : decode cX8_append 27 = .ok (.aload_n 0, 1) := by decide +kernel
theorem dX8_append_28 : decode cX8_append 28 = .ok (.getfield 15, 3) := by decide +kernel
theorem dX8_append_31 : decode cX8_append 31 = .ok (.iload 4, 2) := by decide +kernel
theorem dX8_append_33 : decode cX8_append 33 = .ok (.iadd, 1) := by decide +kernel
theorem dX8_append_34 : decode cX8_append 34 = .ok (.lload_n 1, 1) := by decide +kernel
theorem dX8_append_35 : decode cX8_append 35 = .ok (.bipush 8, 2) := by decide +kernel
theorem dX8_append_37 : decode cX8_append 37 = .ok (.iload 4, 2) := by decide +kernel
theorem dX8_append_39 : decode cX8_append 39 = .ok (.imul, 1) := by decide +kernel
theorem dX8_append_40 : decode cX8_append 40 = .ok (.lushr, 1) := by decide +kernel
theorem dX8_append_41 : decode cX8_append 41 = .ok (.l2i, 1) := by decide +kernel
theorem dX8_append_42 : decode cX8_append 42 = .ok (.i2b, 1) := by decide +kernel
theorem dX8_append_43 : decode cX8_append 43 = .ok (.bastore, 1) := by decide +kernel
theorem dX8_append_44 : decode cX8_append 44 = .ok (.iinc 4 1, 3) := by decide +kernel
theorem dX8_append_47 : decode cX8_append 47 = .ok (.goto (-30), 3) := by decide +kernel
theorem dX8_append_50 : decode cX8_append 50 = .ok (.aload_n 0, 1) := by decide +kernel
theorem dX8_append_51 : decode cX8_append 51 = .ok (.dup, 1) := by decide +kernel
theorem dX8_append_52 : decode cX8_append 52 = .ok (.getfield 15, 3) := by decide +kernel
theorem dX8_append_55 : decode cX8_append 55 = .ok (.iload_n 3, 1) := by decide +kernel
theorem dX8_append_56 : decode cX8_append 56 = .ok (.iadd, 1) := by decide +kernel
theorem dX8_append_57 : decode cX8_append 57 = .ok (.putfield 15, 3) := by decide +kernel
theorem dX8_append_60 : decode cX8_append 60 = .ok (.iconst 1, 1) := by decide +kernel
theorem dX8_append_61 : decode cX8_append 61 = .ok (.ireturn, 1) := by decide +kernel
theorem dX8_tell_0 : decode cX8_tell 0 = .ok (.aload_n 1, 1) := by decide +kernel
theorem dX8_tell_1 : decode cX8_tell 1 = .ok (.invokevirtual 19, 3) := by decide +kernel
theorem dX8_tell_4 : decode cX8_tell 4 = .ok (.aload_n 0, 1) := by decide +kernel
theorem dX8_tell_5 : decode cX8_tell 5 = .ok (.iconst 0, 1) := by decide +kernel
theorem dX8_tell_6 : decode cX8_tell 6 = .ok (.putfield 24, 3) := by decide +kernel
theorem dX8_tell_9 : decode cX8_tell 9 = .ok (.aload_n 0, 1) := by decide +kernel
theorem dX8_tell_10 : decode cX8_tell 10 = .ok (.iconst (-1), 1) := by decide +kernel
theorem dX8_tell_11 : decode cX8_tell 11 = .ok (.putfield 27, 3) := by decide +kernel
theorem dX8_tell_14 : decode cX8_tell 14 = .ok (.aload_n 0, 1) := by decide +kernel
theorem dX8_tell_15 : decode cX8_tell 15 = .ok (.invokevirtual 30, 3) := by decide +kernel
theorem dX8_tell_18 : decode cX8_tell 18 = .ok (.iconst 0, 1) := by decide +kernel
theorem dX8_tell_19 : decode cX8_tell 19 = .ok (.istore_n 2, 1) := by decide +kernel
theorem dX8_tell_20 : decode cX8_tell 20 = .ok (.iload_n 2, 1) := by decide +kernel
theorem dX8_tell_21 : decode cX8_tell 21 = .ok (.sipush 200, 3) := by decide +kernel
theorem dX8_tell_24 : decode cX8_tell 24 = .ok (.if_icmp .ge 37, 3) := by decide +kernel
theorem dX8_tell_27 : decode cX8_tell 27 = .ok (.aload_n 0, 1) := by decide +kernel
theorem dX8_tell_28 : decode cX8_tell 28 = .ok (.getfield 24, 3) := by decide +kernel
theorem dX8_tell_31 : decode cX8_tell 31 = .ok (.aload_n 0, 1) := by decide +kernel
theorem dX8_tell_32 : decode cX8_tell 32 = .ok (.getfield 15, 3) := by decide +kernel
theorem dX8_tell_35 : decode cX8_tell 35 = .ok (.if_icmp .ge 26, 3) := by decide +kernel
theorem dX8_tell_38 : decode cX8_tell 38 = .ok (.aload_n 0, 1) := by decide +kernel
theorem dX8_tell_39 : decode cX8_tell 39 = .ok (.getfield 27, 3) := by decide +kernel
theorem dX8_tell_42 : decode cX8_tell 42 = .ok (.iconst (-1), 1) := by decide +kernel
theorem dX8_tell_43 : decode cX8_tell 43 = .ok (.if_icmp .ne 18, 3) := by decide +kernel
theorem dX8_tell_46 : decode cX8_tell 46 = .ok (.aload_n 0, 1) := by decide +kernel
theorem dX8_tell_47 : decode cX8_tell 47 = .ok (.aload_n 1, 1) := by decide +kernel
theorem dX8_tell_48 : decode cX8_tell 48 = .ok (.invokevirtual 33, 3) := by decide +kernel
theorem dX8_tell_51 : decode cX8_tell 51 = .ok (.aload_n 0, 1) := by decide +kernel
theorem dX8_tell_52 : decode cX8_tell 52 = .ok (.invokevirtual 37, 3) := by decide +kernel
theorem dX8_tell_55 : decode cX8_tell 55 = .ok (.iinc 2 1, 3) := by decide +kernel
theorem dX8_tell_58 : decode cX8_tell 58 = .ok (.goto (-38), 3) := by decide +kernel
theorem dX8_tell_61 : decode cX8_tell 61 = .ok (.aload_n 0, 1) := by decide +kernel
theorem dX8_tell_62 : decode cX8_tell 62 = .ok (.getfield 27, 3) := by decide +kernel
theorem dX8_tell_65 : decode cX8_tell 65 = .ok (.ireturn, 1) := by decide +kernel
theorem dX8_tellOne_0 : decode cX8_tellOne 0 = .ok (.aload_n 0, 1) := by decide +kernel
theorem dX8_tellOne_1 : decode cX8_tellOne 1 = .ok (.getfield 24, 3) := by decide +kernel
theorem dX8_tellOne_4 : decode cX8_tellOne 4 = .ok (.istore_n 2, 1) := by decide +kernel
theorem dX8_tellOne_5 : decode cX8_tellOne 5 = .ok (.aload_n 0, 1) := by decide +kernel
theorem dX8_tellOne_6 : decode cX8_tellOne 6 = .ok (.invokevirtual 40, 3) := by decide +kernel
theorem dX8_tellOne_9 : decode cX8_tellOne 9 = .ok (.istore_n 3, 1) := by decide +kernel
theorem dX8_tellOne_10 : decode cX8_tellOne 10 = .ok (.iload_n 3, 1) := by decide +kernel
theorem dX8_tellOne_11 : decode cX8_tellOne 11 = .ok (.bipush (-3), 2) := by decide +kernel
theorem dX8_tellOne_13 : decode cX8_tellOne 13 = .ok (.if_icmp .eq 18, 3) := by decide +kernel
theorem dX8_tellOne_16 : decode cX8_tellOne 16 = .ok (.iload_n 3, 1) := by decide +kernel
theorem dX8_tellOne_17 : decode cX8_tellOne 17 = .ok (.bipush 6, 2) := by decide +kernel
theorem dX8_tellOne_19 : decode cX8_tellOne 19 = .ok (.if_icmp .ge 20, 3) := by decide +kernel
theorem dX8_tellOne_22 : decode cX8_tellOne 22 = .ok (.aload_n 1, 1) := by decide +kernel
theorem dX8_tellOne_23 : decode cX8_tellOne 23 = .ok (.getfield 44, 3) := by decide +kernel
theorem dX8_tellOne_26 : decode cX8_tellOne 26 = .ok (.bipush 8, 2) := by decide +kernel
theorem dX8_tellOne_28 : decode cX8_tellOne 28 = .ok (.if_icmp .ne 11, 3) := by decide +kernel
theorem dX8_tellOne_31 : decode cX8_tellOne 31 = .ok (.aload_n 0, 1) := by decide +kernel
theorem dX8_tellOne_32 : decode cX8_tellOne 32 = .ok (.iload_n 2, 1) := by decide +kernel
theorem dX8_tellOne_33 : decode cX8_tellOne 33 = .ok (.invokevirtual 47, 3) := by decide +kernel
theorem dX8_tellOne_36 : decode cX8_tellOne 36 = .ok (.goto 69, 3) := by decide +kernel
theorem dX8_tellOne_39 : decode cX8_tellOne 39 = .ok (.iload_n 3, 1) := by decide +kernel
theorem dX8_tellOne_40 : decode cX8_tellOne 40 = .ok (.bipush 6, 2) := by decide +kernel
theorem dX8_tellOne_42 : decode cX8_tellOne 42 = .ok (.if_icmp .ge 12, 3) := by decide +kernel
theorem dX8_tellOne_45 : decode cX8_tellOne 45 = .ok (.aload_n 0, 1) := by decide +kernel
theorem dX8_tellOne_46 : decode cX8_tellOne 46 = .ok (.aload_n 1, 1) := by decide +kernel
theorem dX8_tellOne_47 : decode cX8_tellOne 47 = .ok (.iload_n 3, 1) := by decide +kernel
theorem dX8_tellOne_48 : decode cX8_tellOne 48 = .ok (.invokevirtual 51, 3) := by decide +kernel
theorem dX8_tellOne_51 : decode cX8_tellOne 51 = .ok (.goto 54, 3) := by decide +kernel
theorem dX8_tellOne_54 : decode cX8_tellOne 54 = .ok (.iload_n 3, 1) := by decide +kernel
theorem dX8_tellOne_55 : decode cX8_tellOne 55 = .ok (.bipush 10, 2) := by decide +kernel
theorem dX8_tellOne_57 : decode cX8_tellOne 57 = .ok (.if_icmp .ne 27, 3) := by decide +kernel
theorem dX8_tellOne_60 : decode cX8_tellOne 60 = .ok (.aload_n 0, 1) := by decide +kernel
theorem dX8_tellOne_61 : decode cX8_tellOne 61 = .ok (.bipush 7, 2) := by decide +kernel
theorem dX8_tellOne_63 : decode cX8_tellOne 63 = .ok (.invokevirtual 55, 3) := by decide +kernel
theorem dX8_tellOne_66 : decode cX8_tellOne 66 = .ok (.istore 4, 2) := by decide +kernel
theorem dX8_tellOne_68 : decode cX8_tellOne 68 = .ok (.aload_n 1, 1) := by decide +kernel
theorem dX8_tellOne_69 : decode cX8_tellOne 69 = .ok (.getfield 59, 3) := by decide +kernel
theorem dX8_tellOne_72 : decode cX8_tellOne 72 = .ok (.iload 4, 2) := by decide +kernel
theorem dX8_tellOne_74 : decode cX8_tellOne 74 = .ok (.aload_n 0, 1) := by decide +kernel
theorem dX8_tellOne_75 : decode cX8_tellOne 75 = .ok (.bipush 9, 2) := by decide +kernel
theorem dX8_tellOne_77 : decode cX8_tellOne 77 = .ok (.invokevirtual 55, 3) := by decide +kernel
theorem dX8_tellOne_80 : decode cX8_tellOne 80 = .ok (.iastore, 1) := by decide +kernel
theorem dX8_tellOne_81 : decode cX8_tellOne 81 = .ok (.goto 24, 3) := by decide +kernel
theorem dX8_tellOne_84 : decode cX8_tellOne 84 = .ok (.aload_n 1, 1) := by decide +kernel
theorem dX8_tellOne_85 : decode cX8_tellOne 85 = .ok (.getfield 63, 3) := by decide +kernel
theorem dX8_tellOne_88 : decode cX8_tellOne 88 = .ok (.iload_n 3, 1) := by decide +kernel
theorem dX8_tellOne_89 : decode cX8_tellOne 89 = .ok (.bipush 6, 2) := by decide +kernel
theorem dX8_tellOne_91 : decode cX8_tellOne 91 = .ok (.isub, 1) := by decide +kernel
theorem dX8_tellOne_92 : decode cX8_tellOne 92 = .ok (.aload_n 0, 1) := by decide +kernel
theorem dX8_tellOne_93 : decode cX8_tellOne 93 = .ok (.getstatic 66, 3) := by decide +kernel
theorem dX8_tellOne_96 : decode cX8_tellOne 96 = .ok (.iload_n 3, 1) := by decide +kernel
theorem dX8_tellOne_97 : decode cX8_tellOne 97 = .ok (.bipush 6, 2) := by decide +kernel
theorem dX8_tellOne_99 : decode cX8_tellOne 99 = .ok (.isub, 1) := by decide +kernel
theorem dX8_tellOne_100 : decode cX8_tellOne 100 = .ok (.iaload, 1) := by decide +kernel
theorem dX8_tellOne_101 : decode cX8_tellOne 101 = .ok (.invokevirtual 55, 3) := by decide +kernel
theorem dX8_tellOne_104 : decode cX8_tellOne 104 = .ok (.iastore, 1) := by decide +kernel
theorem dX8_tellOne_105 : decode cX8_tellOne 105 = .ok (.return_, 1) := by decide +kernel
theorem dX8_tellPlayer_0 : decode cX8_tellPlayer 0 = .ok (.aload_n 0, 1) := by decide +kernel
theorem dX8_tellPlayer_1 : decode cX8_tellPlayer 1 = .ok (.bipush 11, 2) := by decide +kernel
theorem dX8_tellPlayer_3 : decode cX8_tellPlayer 3 = .ok (.invokevirtual 69, 3) := by decide +kernel
theorem dX8_tellPlayer_6 : decode cX8_tellPlayer 6 = .ok (.ifCond .ne 11, 3) := by decide +kernel
theorem dX8_tellPlayer_9 : decode cX8_tellPlayer 9 = .ok (.aload_n 0, 1) := by decide +kernel
theorem dX8_tellPlayer_10 : decode cX8_tellPlayer 10 = .ok (.aload_n 0, 1) := by decide +kernel
theorem dX8_tellPlayer_11 : decode cX8_tellPlayer 11 = .ok (.getfield 24, 3) := by decide +kernel
theorem dX8_tellPlayer_14 : decode cX8_tellPlayer 14 = .ok (.invokevirtual 47, 3) := by decide +kernel
theorem dX8_tellPlayer_17 : decode cX8_tellPlayer 17 = .ok (.aload_n 0, 1) := by decide +kernel
theorem dX8_tellPlayer_18 : decode cX8_tellPlayer 18 = .ok (.bipush 7, 2) := by decide +kernel
theorem dX8_tellPlayer_20 : decode cX8_tellPlayer 20 = .ok (.invokevirtual 55, 3) := by decide +kernel
theorem dX8_tellPlayer_23 : decode cX8_tellPlayer 23 = .ok (.istore_n 3, 1) := by decide +kernel
theorem dX8_tellPlayer_24 : decode cX8_tellPlayer 24 = .ok (.aload_n 1, 1) := by decide +kernel
theorem dX8_tellPlayer_25 : decode cX8_tellPlayer 25 = .ok (.iload_n 2, 1) := by decide +kernel
theorem dX8_tellPlayer_26 : decode cX8_tellPlayer 26 = .ok (.iload_n 3, 1) := by decide +kernel
theorem dX8_tellPlayer_27 : decode cX8_tellPlayer 27 = .ok (.invokevirtual 73, 3) := by decide +kernel
theorem dX8_tellPlayer_30 : decode cX8_tellPlayer 30 = .ok (.istore 4, 2) := by decide +kernel
theorem dX8_tellPlayer_32 : decode cX8_tellPlayer 32 = .ok (.aload_n 0, 1) := by decide +kernel
theorem dX8_tellPlayer_33 : decode cX8_tellPlayer 33 = .ok (.bipush 12, 2) := by decide +kernel
theorem dX8_tellPlayer_35 : decode cX8_tellPlayer 35 = .ok (.invokevirtual 69, 3) := by decide +kernel
theorem dX8_tellPlayer_38 : decode cX8_tellPlayer 38 = .ok (.ifCond .eq 16, 3) := by decide +kernel
theorem dX8_tellPlayer_41 : decode cX8_tellPlayer 41 = .ok (.aload_n 1, 1) := by decide +kernel
theorem dX8_tellPlayer_42 : decode cX8_tellPlayer 42 = .ok (.iload 4, 2) := by decide +kernel
theorem dX8_tellPlayer_44 : decode cX8_tellPlayer 44 = .ok (.iload_n 3, 1) := by decide +kernel
theorem dX8_tellPlayer_45 : decode cX8_tellPlayer 45 = .ok (.aload_n 0, 1) := by decide +kernel
theorem dX8_tellPlayer_46 : decode cX8_tellPlayer 46 = .ok (.bipush 99, 2) := by decide +kernel
theorem dX8_tellPlayer_48 : decode cX8_tellPlayer 48 = .ok (.invokevirtual 55, 3) := by decide +kernel
theorem dX8_tellPlayer_51 : decode cX8_tellPlayer 51 = .ok (.invokevirtual 77, 3) := by decide +kernel
theorem dX8_tellPlayer_54 : decode cX8_tellPlayer 54 = .ok (.aload_n 0, 1) := by decide +kernel
theorem dX8_tellPlayer_55 : decode cX8_tellPlayer 55 = .ok (.bipush 13, 2) := by decide +kernel
theorem dX8_tellPlayer_57 : decode cX8_tellPlayer 57 = .ok (.invokevirtual 69, 3) := by decide +kernel
theorem dX8_tellPlayer_60 : decode cX8_tellPlayer 60 = .ok (.ifCond .eq 16, 3) := by decide +kernel
theorem dX8_tellPlayer_63 : decode cX8_tellPlayer 63 = .ok (.aload_n 1, 1) := by decide +kernel
theorem dX8_tellPlayer_64 : decode cX8_tellPlayer 64 = .ok (.getfield 81, 3) := by decide +kernel
theorem dX8_tellPlayer_67 : decode cX8_tellPlayer 67 = .ok (.iload 4, 2) := by decide +kernel
theorem dX8_tellPlayer_69 : decode cX8_tellPlayer 69 = .ok (.aload_n 0, 1) := by decide +kernel
theorem dX8_tellPlayer_70 : decode cX8_tellPlayer 70 = .ok (.bipush 9, 2) := by decide +kernel
theorem dX8_tellPlayer_72 : decode cX8_tellPlayer 72 = .ok (.invokevirtual 55, 3) := by decide +kernel
theorem dX8_tellPlayer_75 : decode cX8_tellPlayer 75 = .ok (.iastore, 1) := by decide +kernel
theorem dX8_tellPlayer_76 : decode cX8_tellPlayer 76 = .ok (.return_, 1) := by decide +kernel
theorem dX8_passOpeningName_0 : decode cX8_passOpeningName 0 = .ok (.iconst 0, 1) := by decide +kernel
theorem dX8_passOpeningName_1 : decode cX8_passOpeningName 1 = .ok (.istore_n 1, 1) := by decide +kernel
theorem dX8_passOpeningName_2 : decode cX8_passOpeningName 2 = .ok (.iload_n 1, 1) := by decide +kernel
theorem dX8_passOpeningName_3 : decode cX8_passOpeningName 3 = .ok (.bipush 11, 2) := by decide +kernel
theorem dX8_passOpeningName_5 : decode cX8_passOpeningName 5 = .ok (.if_icmp .ge 19, 3) := by decide +kernel
theorem dX8_passOpeningName_8 : decode cX8_passOpeningName 8 = .ok (.aload_n 0, 1) := by decide +kernel
theorem dX8_passOpeningName_9 : decode cX8_passOpeningName 9 = .ok (.iload_n 1, 1) := by decide +kernel
theorem dX8_passOpeningName_10 : decode cX8_passOpeningName 10 = .ok (.invokevirtual 69, 3) := by decide +kernel
theorem dX8_passOpeningName_13 : decode cX8_passOpeningName 13 = .ok (.ifCond .eq 5, 3) := by decide +kernel
theorem dX8_passOpeningName_16 : decode cX8_passOpeningName 16 = .ok (.iload_n 1, 1) := by decide +kernel
theorem dX8_passOpeningName_17 : decode cX8_passOpeningName 17 = .ok (.ireturn, 1) := by decide +kernel
theorem dX8_passOpeningName_18 : decode cX8_passOpeningName 18 = .ok (.iinc 1 1, 3) := by decide +kernel
theorem dX8_passOpeningName_21 : decode cX8_passOpeningName 21 = .ok (.goto (-19), 3) := by decide +kernel
theorem dX8_passOpeningName_24 : decode cX8_passOpeningName 24 = .ok (.bipush (-3), 2) := by decide +kernel
theorem dX8_passOpeningName_26 : decode cX8_passOpeningName 26 = .ok (.ireturn, 1) := by decide +kernel
theorem dX8_passName_0 : decode cX8_passName 0 = .ok (.iload_n 1, 1) := by decide +kernel
theorem dX8_passName_1 : decode cX8_passName 1 = .ok (.invokestatic 84, 3) := by decide +kernel
theorem dX8_passName_4 : decode cX8_passName 4 = .ok (.astore_n 2, 1) := by decide +kernel
theorem dX8_passName_5 : decode cX8_passName 5 = .ok (.aload_n 0, 1) := by decide +kernel
theorem dX8_passName_6 : decode cX8_passName 6 = .ok (.getfield 24, 3) := by decide +kernel
theorem dX8_passName_9 : decode cX8_passName 9 = .ok (.aload_n 2, 1) := by decide +kernel
theorem dX8_passName_10 : decode cX8_passName 10 = .ok (.invokevirtual 88, 3) := by decide +kernel
theorem dX8_passName_13 : decode cX8_passName 13 = .ok (.iadd, 1) := by decide +kernel
theorem dX8_passName_14 : decode cX8_passName 14 = .ok (.istore_n 3, 1) := by decide +kernel
theorem dX8_passName_15 : decode cX8_passName 15 = .ok (.iload_n 3, 1) := by decide +kernel
theorem dX8_passName_16 : decode cX8_passName 16 = .ok (.aload_n 0, 1) := by decide +kernel
theorem dX8_passName_17 : decode cX8_passName 17 = .ok (.getfield 15, 3) := by decide +kernel
theorem dX8_passName_20 : decode cX8_passName 20 = .ok (.if_icmp .gt 23, 3) := by decide +kernel
theorem dX8_passName_23 : decode cX8_passName 23 = .ok (.iload_n 3, 1) := by decide +kernel
theorem dX8_passName_24 : decode cX8_passName 24 = .ok (.aload_n 0, 1) := by decide +kernel
theorem dX8_passName_25 : decode cX8_passName 25 = .ok (.getfield 15, 3) := by decide +kernel
theorem dX8_passName_28 : decode cX8_passName 28 = .ok (.if_icmp .ge 17, 3) := by decide +kernel
theorem dX8_passName_31 : decode cX8_passName 31 = .ok (.aload_n 0, 1) := by decide +kernel
theorem dX8_passName_32 : decode cX8_passName 32 = .ok (.getfield 11, 3) := by decide +kernel
theorem dX8_passName_35 : decode cX8_passName 35 = .ok (.iload_n 3, 1) := by decide +kernel
theorem dX8_passName_36 : decode cX8_passName 36 = .ok (.baload, 1) := by decide +kernel
theorem dX8_passName_37 : decode cX8_passName 37 = .ok (.invokestatic 92, 3) := by decide +kernel
theorem dX8_passName_40 : decode cX8_passName 40 = .ok (.ifCond .eq 5, 3) := by decide +kernel
theorem dX8_passName_43 : decode cX8_passName 43 = .ok (.iconst 0, 1) := by decide +kernel
theorem dX8_passName_44 : decode cX8_passName 44 = .ok (.ireturn, 1) := by decide +kernel
theorem dX8_passName_45 : decode cX8_passName 45 = .ok (.aload_n 0, 1) := by decide +kernel
theorem dX8_passName_46 : decode cX8_passName 46 = .ok (.getfield 24, 3) := by decide +kernel
theorem dX8_passName_49 : decode cX8_passName 49 = .ok (.istore 4, 2) := by decide +kernel
theorem dX8_passName_51 : decode cX8_passName 51 = .ok (.iload 4, 2) := by decide +kernel
theorem dX8_passName_53 : decode cX8_passName 53 = .ok (.iload_n 3, 1) := by decide +kernel
theorem dX8_passName_54 : decode cX8_passName 54 = .ok (.if_icmp .ge 32, 3) := by decide +kernel
theorem dX8_passName_57 : decode cX8_passName 57 = .ok (.aload_n 0, 1) := by decide +kernel
theorem dX8_passName_58 : decode cX8_passName 58 = .ok (.getfield 11, 3) := by decide +kernel
theorem dX8_passName_61 : decode cX8_passName 61 = .ok (.iload 4, 2) := by decide +kernel
theorem dX8_passName_63 : decode cX8_passName 63 = .ok (.baload, 1) := by decide +kernel
theorem dX8_passName_64 : decode cX8_passName 64 = .ok (.aload_n 2, 1) := by decide +kernel
theorem dX8_passName_65 : decode cX8_passName 65 = .ok (.iload 4, 2) := by decide +kernel
theorem dX8_passName_67 : decode cX8_passName 67 = .ok (.aload_n 0, 1) := by decide +kernel
theorem dX8_passName_68 : decode cX8_passName 68 = .ok (.getfield 24, 3) := by decide +kernel
theorem dX8_passName_71 : decode cX8_passName 71 = .ok (.isub, 1) := by decide +kernel
theorem dX8_passName_72 : decode cX8_passName 72 = .ok (.invokevirtual 96, 3) := by decide +kernel
theorem dX8_passName_75 : decode cX8_passName 75 = .ok (.if_icmp .eq 5, 3) := by decide +kernel
theorem dX8_passName_78 : decode cX8_passName 78 = .ok (.iconst 0, 1) := by decide +kernel
theorem dX8_passName_79 : decode cX8_passName 79 = .ok (.ireturn, 1) := by decide +kernel
theorem dX8_passName_80 : decode cX8_passName 80 = .ok (.iinc 4 1, 3) := by decide +kernel
theorem dX8_passName_83 : decode cX8_passName 83 = .ok (.goto (-32), 3) := by decide +kernel
theorem dX8_passName_86 : decode cX8_passName 86 = .ok (.aload_n 0, 1) := by decide +kernel
theorem dX8_passName_87 : decode cX8_passName 87 = .ok (.iload_n 3, 1) := by decide +kernel
theorem dX8_passName_88 : decode cX8_passName 88 = .ok (.putfield 24, 3) := by decide +kernel
theorem dX8_passName_91 : decode cX8_passName 91 = .ok (.aload_n 0, 1) := by decide +kernel
theorem dX8_passName_92 : decode cX8_passName 92 = .ok (.invokevirtual 30, 3) := by decide +kernel
theorem dX8_passName_95 : decode cX8_passName 95 = .ok (.iconst 1, 1) := by decide +kernel
theorem dX8_passName_96 : decode cX8_passName 96 = .ok (.ireturn, 1) := by decide +kernel
theorem dX8_lettersOf_0 : decode cX8_lettersOf 0 = .ok (.iload_n 0, 1) := by decide +kernel
theorem dX8_lettersOf_1 : decode cX8_lettersOf 1 = .ok (.tableswitch 106 0 12 #[67, 70, 73, 76, 79, 82, 85, 88, 91, 94, 97, 100, 103], 67) := by decide +kernel
theorem dX8_lettersOf_68 : decode cX8_lettersOf 68 = .ok (.ldc 100, 2) := by decide +kernel
theorem dX8_lettersOf_70 : decode cX8_lettersOf 70 = .ok (.areturn, 1) := by decide +kernel
theorem dX8_lettersOf_71 : decode cX8_lettersOf 71 = .ok (.ldc 102, 2) := by decide +kernel
theorem dX8_lettersOf_73 : decode cX8_lettersOf 73 = .ok (.areturn, 1) := by decide +kernel
theorem dX8_lettersOf_74 : decode cX8_lettersOf 74 = .ok (.ldc 104, 2) := by decide +kernel
theorem dX8_lettersOf_76 : decode cX8_lettersOf 76 = .ok (.areturn, 1) := by decide +kernel
theorem dX8_lettersOf_77 : decode cX8_lettersOf 77 = .ok (.ldc 106, 2) := by decide +kernel
theorem dX8_lettersOf_79 : decode cX8_lettersOf 79 = .ok (.areturn, 1) := by decide +kernel
theorem dX8_lettersOf_80 : decode cX8_lettersOf 80 = .ok (.ldc 108, 2) := by decide +kernel
theorem dX8_lettersOf_82 : decode cX8_lettersOf 82 = .ok (.areturn, 1) := by decide +kernel
theorem dX8_lettersOf_83 : decode cX8_lettersOf 83 = .ok (.ldc 110, 2) := by decide +kernel
theorem dX8_lettersOf_85 : decode cX8_lettersOf 85 = .ok (.areturn, 1) := by decide +kernel
theorem dX8_lettersOf_86 : decode cX8_lettersOf 86 = .ok (.ldc 112, 2) := by decide +kernel
theorem dX8_lettersOf_88 : decode cX8_lettersOf 88 = .ok (.areturn, 1) := by decide +kernel
theorem dX8_lettersOf_89 : decode cX8_lettersOf 89 = .ok (.ldc 114, 2) := by decide +kernel
theorem dX8_lettersOf_91 : decode cX8_lettersOf 91 = .ok (.areturn, 1) := by decide +kernel
theorem dX8_lettersOf_92 : decode cX8_lettersOf 92 = .ok (.ldc 116, 2) := by decide +kernel
theorem dX8_lettersOf_94 : decode cX8_lettersOf 94 = .ok (.areturn, 1) := by decide +kernel
theorem dX8_lettersOf_95 : decode cX8_lettersOf 95 = .ok (.ldc 118, 2) := by decide +kernel
theorem dX8_lettersOf_97 : decode cX8_lettersOf 97 = .ok (.areturn, 1) := by decide +kernel
theorem dX8_lettersOf_98 : decode cX8_lettersOf 98 = .ok (.ldc 120, 2) := by decide +kernel
theorem dX8_lettersOf_100 : decode cX8_lettersOf 100 = .ok (.areturn, 1) := by decide +kernel
theorem dX8_lettersOf_101 : decode cX8_lettersOf 101 = .ok (.ldc 122, 2) := by decide +kernel
theorem dX8_lettersOf_103 : decode cX8_lettersOf 103 = .ok (.areturn, 1) := by decide +kernel
theorem dX8_lettersOf_104 : decode cX8_lettersOf 104 = .ok (.ldc 124, 2) := by decide +kernel
theorem dX8_lettersOf_106 : decode cX8_lettersOf 106 = .ok (.areturn, 1) := by decide +kernel
theorem dX8_lettersOf_107 : decode cX8_lettersOf 107 = .ok (.ldc 126, 2) := by decide +kernel
theorem dX8_lettersOf_109 : decode cX8_lettersOf 109 = .ok (.areturn, 1) := by decide +kernel
theorem dX8_passNumber_0 : decode cX8_passNumber 0 = .ok (.aload_n 0, 1) := by decide +kernel
theorem dX8_passNumber_1 : decode cX8_passNumber 1 = .ok (.getfield 24, 3) := by decide +kernel
theorem dX8_passNumber_4 : decode cX8_passNumber 4 = .ok (.istore_n 2, 1) := by decide +kernel
theorem dX8_passNumber_5 : decode cX8_passNumber 5 = .ok (.iconst 0, 1) := by decide +kernel
theorem dX8_passNumber_6 : decode cX8_passNumber 6 = .ok (.istore_n 3, 1) := by decide +kernel
theorem dX8_passNumber_7 : decode cX8_passNumber 7 = .ok (.aload_n 0, 1) := by decide +kernel
theorem dX8_passNumber_8 : decode cX8_passNumber 8 = .ok (.getfield 24, 3) := by decide +kernel
theorem dX8_passNumber_11 : decode cX8_passNumber 11 = .ok (.aload_n 0, 1) := by decide +kernel
theorem dX8_passNumber_12 : decode cX8_passNumber 12 = .ok (.getfield 15, 3) := by decide +kernel
theorem dX8_passNumber_15 : decode cX8_passNumber 15 = .ok (.if_icmp .ge 49, 3) := by decide +kernel
theorem dX8_passNumber_18 : decode cX8_passNumber 18 = .ok (.aload_n 0, 1) := by decide +kernel
theorem dX8_passNumber_19 : decode cX8_passNumber 19 = .ok (.getfield 11, 3) := by decide +kernel
theorem dX8_passNumber_22 : decode cX8_passNumber 22 = .ok (.aload_n 0, 1) := by decide +kernel
theorem dX8_passNumber_23 : decode cX8_passNumber 23 = .ok (.getfield 24, 3) := by decide +kernel
theorem dX8_passNumber_26 : decode cX8_passNumber 26 = .ok (.baload, 1) := by decide +kernel
theorem dX8_passNumber_27 : decode cX8_passNumber 27 = .ok (.invokestatic 127, 3) := by decide +kernel
theorem dX8_passNumber_30 : decode cX8_passNumber 30 = .ok (.ifCond .eq 34, 3) := by decide +kernel
theorem dX8_passNumber_33 : decode cX8_passNumber 33 = .ok (.iload_n 3, 1) := by decide +kernel
theorem dX8_passNumber_34 : decode cX8_passNumber 34 = .ok (.bipush 10, 2) := by decide +kernel
theorem dX8_passNumber_36 : decode cX8_passNumber 36 = .ok (.imul, 1) := by decide +kernel
theorem dX8_passNumber_37 : decode cX8_passNumber 37 = .ok (.aload_n 0, 1) := by decide +kernel
theorem dX8_passNumber_38 : decode cX8_passNumber 38 = .ok (.getfield 11, 3) := by decide +kernel
theorem dX8_passNumber_41 : decode cX8_passNumber 41 = .ok (.aload_n 0, 1) := by decide +kernel
theorem dX8_passNumber_42 : decode cX8_passNumber 42 = .ok (.getfield 24, 3) := by decide +kernel
theorem dX8_passNumber_45 : decode cX8_passNumber 45 = .ok (.baload, 1) := by decide +kernel
theorem dX8_passNumber_46 : decode cX8_passNumber 46 = .ok (.bipush 48, 2) := by decide +kernel
theorem dX8_passNumber_48 : decode cX8_passNumber 48 = .ok (.isub, 1) := by decide +kernel
theorem dX8_passNumber_49 : decode cX8_passNumber 49 = .ok (.iadd, 1) := by decide +kernel
theorem dX8_passNumber_50 : decode cX8_passNumber 50 = .ok (.istore_n 3, 1) := by decide +kernel
theorem dX8_passNumber_51 : decode cX8_passNumber 51 = .ok (.aload_n 0, 1) := by decide +kernel
theorem dX8_passNumber_52 : decode cX8_passNumber 52 = .ok (.dup, 1) := by decide +kernel
theorem dX8_passNumber_53 : decode cX8_passNumber 53 = .ok (.getfield 24, 3) := by decide +kernel
theorem dX8_passNumber_56 : decode cX8_passNumber 56 = .ok (.iconst 1, 1) := by decide +kernel
theorem dX8_passNumber_57 : decode cX8_passNumber 57 = .ok (.iadd, 1) := by decide +kernel
theorem dX8_passNumber_58 : decode cX8_passNumber 58 = .ok (.putfield 24, 3) := by decide +kernel
theorem dX8_passNumber_61 : decode cX8_passNumber 61 = .ok (.goto (-54), 3) := by decide +kernel
theorem dX8_passNumber_64 : decode cX8_passNumber 64 = .ok (.aload_n 0, 1) := by decide +kernel
theorem dX8_passNumber_65 : decode cX8_passNumber 65 = .ok (.getfield 24, 3) := by decide +kernel
theorem dX8_passNumber_68 : decode cX8_passNumber 68 = .ok (.iload_n 2, 1) := by decide +kernel
theorem dX8_passNumber_69 : decode cX8_passNumber 69 = .ok (.isub, 1) := by decide +kernel
theorem dX8_passNumber_70 : decode cX8_passNumber 70 = .ok (.istore 4, 2) := by decide +kernel
theorem dX8_passNumber_72 : decode cX8_passNumber 72 = .ok (.iload 4, 2) := by decide +kernel
theorem dX8_passNumber_74 : decode cX8_passNumber 74 = .ok (.ifCond .eq 14, 3) := by decide +kernel
theorem dX8_passNumber_77 : decode cX8_passNumber 77 = .ok (.iload 4, 2) := by decide +kernel
theorem dX8_passNumber_79 : decode cX8_passNumber 79 = .ok (.iconst 3, 1) := by decide +kernel
theorem dX8_passNumber_80 : decode cX8_passNumber 80 = .ok (.if_icmp .gt 8, 3) := by decide +kernel
theorem dX8_passNumber_83 : decode cX8_passNumber 83 = .ok (.iload_n 3, 1) := by decide +kernel
theorem dX8_passNumber_84 : decode cX8_passNumber 84 = .ok (.iload_n 1, 1) := by decide +kernel
theorem dX8_passNumber_85 : decode cX8_passNumber 85 = .ok (.if_icmp .le 10, 3) := by decide +kernel
theorem dX8_passNumber_88 : decode cX8_passNumber 88 = .ok (.aload_n 0, 1) := by decide +kernel
theorem dX8_passNumber_89 : decode cX8_passNumber 89 = .ok (.iload_n 2, 1) := by decide +kernel
theorem dX8_passNumber_90 : decode cX8_passNumber 90 = .ok (.invokevirtual 47, 3) := by decide +kernel
theorem dX8_passNumber_93 : decode cX8_passNumber 93 = .ok (.iconst 0, 1) := by decide +kernel
theorem dX8_passNumber_94 : decode cX8_passNumber 94 = .ok (.ireturn, 1) := by decide +kernel
theorem dX8_passNumber_95 : decode cX8_passNumber 95 = .ok (.aload_n 0, 1) := by decide +kernel
theorem dX8_passNumber_96 : decode cX8_passNumber 96 = .ok (.invokevirtual 30, 3) := by decide +kernel
theorem dX8_passNumber_99 : decode cX8_passNumber 99 = .ok (.iload_n 3, 1) := by decide +kernel
theorem dX8_passNumber_100 : decode cX8_passNumber 100 = .ok (.ireturn, 1) := by decide +kernel
theorem dX8_passEnd_0 : decode cX8_passEnd 0 = .ok (.aload_n 0, 1) := by decide +kernel
theorem dX8_passEnd_1 : decode cX8_passEnd 1 = .ok (.getfield 24, 3) := by decide +kernel
theorem dX8_passEnd_4 : decode cX8_passEnd 4 = .ok (.aload_n 0, 1) := by decide +kernel
theorem dX8_passEnd_5 : decode cX8_passEnd 5 = .ok (.getfield 15, 3) := by decide +kernel
theorem dX8_passEnd_8 : decode cX8_passEnd 8 = .ok (.if_icmp .ge 34, 3) := by decide +kernel
theorem dX8_passEnd_11 : decode cX8_passEnd 11 = .ok (.aload_n 0, 1) := by decide +kernel
theorem dX8_passEnd_12 : decode cX8_passEnd 12 = .ok (.getfield 11, 3) := by decide +kernel
theorem dX8_passEnd_15 : decode cX8_passEnd 15 = .ok (.aload_n 0, 1) := by decide +kernel
theorem dX8_passEnd_16 : decode cX8_passEnd 16 = .ok (.getfield 24, 3) := by decide +kernel
theorem dX8_passEnd_19 : decode cX8_passEnd 19 = .ok (.baload, 1) := by decide +kernel
theorem dX8_passEnd_20 : decode cX8_passEnd 20 = .ok (.bipush 59, 2) := by decide +kernel
theorem dX8_passEnd_22 : decode cX8_passEnd 22 = .ok (.if_icmp .ne 20, 3) := by decide +kernel
theorem dX8_passEnd_25 : decode cX8_passEnd 25 = .ok (.aload_n 0, 1) := by decide +kernel
theorem dX8_passEnd_26 : decode cX8_passEnd 26 = .ok (.dup, 1) := by decide +kernel
theorem dX8_passEnd_27 : decode cX8_passEnd 27 = .ok (.getfield 24, 3) := by decide +kernel
theorem dX8_passEnd_30 : decode cX8_passEnd 30 = .ok (.iconst 1, 1) := by decide +kernel
theorem dX8_passEnd_31 : decode cX8_passEnd 31 = .ok (.iadd, 1) := by decide +kernel
theorem dX8_passEnd_32 : decode cX8_passEnd 32 = .ok (.putfield 24, 3) := by decide +kernel
theorem dX8_passEnd_35 : decode cX8_passEnd 35 = .ok (.aload_n 0, 1) := by decide +kernel
theorem dX8_passEnd_36 : decode cX8_passEnd 36 = .ok (.invokevirtual 30, 3) := by decide +kernel
theorem dX8_passEnd_39 : decode cX8_passEnd 39 = .ok (.goto 11, 3) := by decide +kernel
theorem dX8_passEnd_42 : decode cX8_passEnd 42 = .ok (.aload_n 0, 1) := by decide +kernel
theorem dX8_passEnd_43 : decode cX8_passEnd 43 = .ok (.aload_n 0, 1) := by decide +kernel
theorem dX8_passEnd_44 : decode cX8_passEnd 44 = .ok (.getfield 24, 3) := by decide +kernel
theorem dX8_passEnd_47 : decode cX8_passEnd 47 = .ok (.invokevirtual 47, 3) := by decide +kernel
theorem dX8_passEnd_50 : decode cX8_passEnd 50 = .ok (.return_, 1) := by decide +kernel
theorem dX8_passBlanks_0 : decode cX8_passBlanks 0 = .ok (.aload_n 0, 1) := by decide +kernel
theorem dX8_passBlanks_1 : decode cX8_passBlanks 1 = .ok (.getfield 24, 3) := by decide +kernel
theorem dX8_passBlanks_4 : decode cX8_passBlanks 4 = .ok (.aload_n 0, 1) := by decide +kernel
theorem dX8_passBlanks_5 : decode cX8_passBlanks 5 = .ok (.getfield 15, 3) := by decide +kernel
theorem dX8_passBlanks_8 : decode cX8_passBlanks 8 = .ok (.if_icmp .ge 30, 3) := by decide +kernel
theorem dX8_passBlanks_11 : decode cX8_passBlanks 11 = .ok (.aload_n 0, 1) := by decide +kernel
theorem dX8_passBlanks_12 : decode cX8_passBlanks 12 = .ok (.getfield 11, 3) := by decide +kernel
theorem dX8_passBlanks_15 : decode cX8_passBlanks 15 = .ok (.aload_n 0, 1) := by decide +kernel
theorem dX8_passBlanks_16 : decode cX8_passBlanks 16 = .ok (.getfield 24, 3) := by decide +kernel
theorem dX8_passBlanks_19 : decode cX8_passBlanks 19 = .ok (.baload, 1) := by decide +kernel
theorem dX8_passBlanks_20 : decode cX8_passBlanks 20 = .ok (.bipush 32, 2) := by decide +kernel
theorem dX8_passBlanks_22 : decode cX8_passBlanks 22 = .ok (.if_icmp .ne 16, 3) := by decide +kernel
theorem dX8_passBlanks_25 : decode cX8_passBlanks 25 = .ok (.aload_n 0, 1) := by decide +kernel
theorem dX8_passBlanks_26 : decode cX8_passBlanks 26 = .ok (.dup, 1) := by decide +kernel
theorem dX8_passBlanks_27 : decode cX8_passBlanks 27 = .ok (.getfield 24, 3) := by decide +kernel
theorem dX8_passBlanks_30 : decode cX8_passBlanks 30 = .ok (.iconst 1, 1) := by decide +kernel
theorem dX8_passBlanks_31 : decode cX8_passBlanks 31 = .ok (.iadd, 1) := by decide +kernel
theorem dX8_passBlanks_32 : decode cX8_passBlanks 32 = .ok (.putfield 24, 3) := by decide +kernel
theorem dX8_passBlanks_35 : decode cX8_passBlanks 35 = .ok (.goto (-35), 3) := by decide +kernel
theorem dX8_passBlanks_38 : decode cX8_passBlanks 38 = .ok (.return_, 1) := by decide +kernel
theorem dX8_fail_0 : decode cX8_fail 0 = .ok (.aload_n 0, 1) := by decide +kernel
theorem dX8_fail_1 : decode cX8_fail 1 = .ok (.getfield 27, 3) := by decide +kernel
theorem dX8_fail_4 : decode cX8_fail 4 = .ok (.iconst (-1), 1) := by decide +kernel
theorem dX8_fail_5 : decode cX8_fail 5 = .ok (.if_icmp .ne 8, 3) := by decide +kernel
theorem dX8_fail_8 : decode cX8_fail 8 = .ok (.aload_n 0, 1) := by decide +kernel
theorem dX8_fail_9 : decode cX8_fail 9 = .ok (.iload_n 1, 1) := by decide +kernel
theorem dX8_fail_10 : decode cX8_fail 10 = .ok (.putfield 27, 3) := by decide +kernel
theorem dX8_fail_13 : decode cX8_fail 13 = .ok (.return_, 1) := by decide +kernel
theorem dX8_isLetter_0 : decode cX8_isLetter 0 = .ok (.iload_n 0, 1) := by decide +kernel
theorem dX8_isLetter_1 : decode cX8_isLetter 1 = .ok (.bipush 97, 2) := by decide +kernel
theorem dX8_isLetter_3 : decode cX8_isLetter 3 = .ok (.if_icmp .lt 13, 3) := by decide +kernel
theorem dX8_isLetter_6 : decode cX8_isLetter 6 = .ok (.iload_n 0, 1) := by decide +kernel
theorem dX8_isLetter_7 : decode cX8_isLetter 7 = .ok (.bipush 122, 2) := by decide +kernel
theorem dX8_isLetter_9 : decode cX8_isLetter 9 = .ok (.if_icmp .gt 7, 3) := by decide +kernel
theorem dX8_isLetter_12 : decode cX8_isLetter 12 = .ok (.iconst 1, 1) := by decide +kernel
theorem dX8_isLetter_13 : decode cX8_isLetter 13 = .ok (.goto 4, 3) := by decide +kernel
theorem dX8_isLetter_16 : decode cX8_isLetter 16 = .ok (.iconst 0, 1) := by decide +kernel
theorem dX8_isLetter_17 : decode cX8_isLetter 17 = .ok (.ireturn, 1) := by decide +kernel
theorem dX8_isDigit_0 : decode cX8_isDigit 0 = .ok (.iload_n 0, 1) := by decide +kernel
theorem dX8_isDigit_1 : decode cX8_isDigit 1 = .ok (.bipush 48, 2) := by decide +kernel
theorem dX8_isDigit_3 : decode cX8_isDigit 3 = .ok (.if_icmp .lt 13, 3) := by decide +kernel
theorem dX8_isDigit_6 : decode cX8_isDigit 6 = .ok (.iload_n 0, 1) := by decide +kernel
theorem dX8_isDigit_7 : decode cX8_isDigit 7 = .ok (.bipush 57, 2) := by decide +kernel
theorem dX8_isDigit_9 : decode cX8_isDigit 9 = .ok (.if_icmp .gt 7, 3) := by decide +kernel
theorem dX8_isDigit_12 : decode cX8_isDigit 12 = .ok (.iconst 1, 1) := by decide +kernel
theorem dX8_isDigit_13 : decode cX8_isDigit 13 = .ok (.goto 4, 3) := by decide +kernel
theorem dX8_isDigit_16 : decode cX8_isDigit 16 = .ok (.iconst 0, 1) := by decide +kernel
theorem dX8_isDigit_17 : decode cX8_isDigit 17 = .ok (.ireturn, 1) := by decide +kernel
