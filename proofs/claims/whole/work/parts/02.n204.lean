theorem dX5_stones_2 : decode cX5_stones 2 = .ok (.bipush 9, 2) := by decide +kernel
theorem dX5_stones_4 : decode cX5_stones 4 = .ok (.invokestatic 68, 3) := by decide +kernel
theorem dX5_stones_7 : decode cX5_stones 7 = .ok (.ifCond .ne 5, 3) := by decide +kernel
theorem dX5_stones_10 : decode cX5_stones 10 = .ok (.iconst (-1), 1) := by decide +kernel
theorem dX5_stones_11 : decode cX5_stones 11 = .ok (.ireturn, 1) := by decide +kernel
theorem dX5_stones_12 : decode cX5_stones 12 = .ok (.aload_n 0, 1) := by decide +kernel
theorem dX5_stones_13 : decode cX5_stones 13 = .ok (.iload_n 1, 1) := by decide +kernel
theorem dX5_stones_14 : decode cX5_stones 14 = .ok (.invokevirtual 82, 3) := by decide +kernel
theorem dX5_stones_17 : decode cX5_stones 17 = .ok (.istore_n 3, 1) := by decide +kernel
theorem dX5_stones_18 : decode cX5_stones 18 = .ok (.iload_n 3, 1) := by decide +kernel
theorem dX5_stones_19 : decode cX5_stones 19 = .ok (.ifCond .ge 5, 3) := by decide +kernel
theorem dX5_stones_22 : decode cX5_stones 22 = .ok (.iload_n 3, 1) := by decide +kernel
theorem dX5_stones_23 : decode cX5_stones 23 = .ok (.ireturn, 1) := by decide +kernel
theorem dX5_stones_24 : decode cX5_stones 24 = .ok (.aload_n 0, 1) := by decide +kernel
theorem dX5_stones_25 : decode cX5_stones 25 = .ok (.getfield 19, 3) := by decide +kernel
theorem dX5_stones_28 : decode cX5_stones 28 = .ok (.iload_n 1, 1) := by decide +kernel
theorem dX5_stones_29 : decode cX5_stones 29 = .ok (.iaload, 1) := by decide +kernel
theorem dX5_stones_30 : decode cX5_stones 30 = .ok (.istore 4, 2) := by decide +kernel
theorem dX5_stones_32 : decode cX5_stones 32 = .ok (.aload_n 0, 1) := by decide +kernel
theorem dX5_stones_33 : decode cX5_stones 33 = .ok (.getfield 19, 3) := by decide +kernel
theorem dX5_stones_36 : decode cX5_stones 36 = .ok (.iload_n 1, 1) := by decide +kernel
theorem dX5_stones_37 : decode cX5_stones 37 = .ok (.iload_n 2, 1) := by decide +kernel
theorem dX5_stones_38 : decode cX5_stones 38 = .ok (.iastore, 1) := by decide +kernel
theorem dX5_stones_39 : decode cX5_stones 39 = .ok (.iload 4, 2) := by decide +kernel
theorem dX5_stones_41 : decode cX5_stones 41 = .ok (.ireturn, 1) := by decide +kernel
theorem dX5_tells_0 : decode cX5_tells 0 = .ok (.iload_n 2, 1) := by decide +kernel
theorem dX5_tells_1 : decode cX5_tells 1 = .ok (.ifCond .ne 12, 3) := by decide +kernel
theorem dX5_tells_4 : decode cX5_tells 4 = .ok (.aload_n 0, 1) := by decide +kernel
theorem dX5_tells_5 : decode cX5_tells 5 = .ok (.getfield 13, 3) := by decide +kernel
theorem dX5_tells_8 : decode cX5_tells 8 = .ok (.iload_n 1, 1) := by decide +kernel
theorem dX5_tells_9 : decode cX5_tells 9 = .ok (.iaload, 1) := by decide +kernel
theorem dX5_tells_10 : decode cX5_tells 10 = .ok (.goto 45, 3) := by decide +kernel
theorem dX5_tells_13 : decode cX5_tells 13 = .ok (.iload_n 2, 1) := by decide +kernel
theorem dX5_tells_14 : decode cX5_tells 14 = .ok (.iconst 1, 1) := by decide +kernel
theorem dX5_tells_15 : decode cX5_tells 15 = .ok (.if_icmp .ne 12, 3) := by decide +kernel
theorem dX5_tells_18 : decode cX5_tells 18 = .ok (.aload_n 0, 1) := by decide +kernel
theorem dX5_tells_19 : decode cX5_tells 19 = .ok (.getfield 19, 3) := by decide +kernel
theorem dX5_tells_22 : decode cX5_tells 22 = .ok (.iload_n 1, 1) := by decide +kernel
theorem dX5_tells_23 : decode cX5_tells 23 = .ok (.iaload, 1) := by decide +kernel
theorem dX5_tells_24 : decode cX5_tells 24 = .ok (.goto 31, 3) := by decide +kernel
theorem dX5_tells_27 : decode cX5_tells 27 = .ok (.iload_n 2, 1) := by decide +kernel
theorem dX5_tells_28 : decode cX5_tells 28 = .ok (.iconst 2, 1) := by decide +kernel
theorem dX5_tells_29 : decode cX5_tells 29 = .ok (.if_icmp .ne 12, 3) := by decide +kernel
theorem dX5_tells_32 : decode cX5_tells 32 = .ok (.aload_n 0, 1) := by decide +kernel
theorem dX5_tells_33 : decode cX5_tells 33 = .ok (.getfield 22, 3) := by decide +kernel
theorem dX5_tells_36 : decode cX5_tells 36 = .ok (.iload_n 1, 1) := by decide +kernel
theorem dX5_tells_37 : decode cX5_tells 37 = .ok (.iaload, 1) := by decide +kernel
theorem dX5_tells_38 : decode cX5_tells 38 = .ok (.goto 17, 3) := by decide +kernel
theorem dX5_tells_41 : decode cX5_tells 41 = .ok (.aload_n 0, 1) := by decide +kernel
theorem dX5_tells_42 : decode cX5_tells 42 = .ok (.getfield 28, 3) := by decide +kernel
theorem dX5_tells_45 : decode cX5_tells 45 = .ok (.iload_n 1, 1) := by decide +kernel
theorem dX5_tells_46 : decode cX5_tells 46 = .ok (.baload, 1) := by decide +kernel
theorem dX5_tells_47 : decode cX5_tells 47 = .ok (.ifCond .eq 7, 3) := by decide +kernel
theorem dX5_tells_50 : decode cX5_tells 50 = .ok (.iconst 1, 1) := by decide +kernel
theorem dX5_tells_51 : decode cX5_tells 51 = .ok (.goto 4, 3) := by decide +kernel
theorem dX5_tells_54 : decode cX5_tells 54 = .ok (.iconst 0, 1) := by decide +kernel
theorem dX5_tells_55 : decode cX5_tells 55 = .ok (.ireturn, 1) := by decide +kernel
theorem dX5_told_0 : decode cX5_told 0 = .ok (.aload_n 0, 1) := by decide +kernel
theorem dX5_told_1 : decode cX5_told 1 = .ok (.iload_n 1, 1) := by decide +kernel
theorem dX5_told_2 : decode cX5_told 2 = .ok (.invokevirtual 75, 3) := by decide +kernel
theorem dX5_told_5 : decode cX5_told 5 = .ok (.ifCond .eq 21, 3) := by decide +kernel
theorem dX5_told_8 : decode cX5_told 8 = .ok (.iload_n 2, 1) := by decide +kernel
theorem dX5_told_9 : decode cX5_told 9 = .ok (.iconst 0, 1) := by decide +kernel
theorem dX5_told_10 : decode cX5_told 10 = .ok (.iconst 3, 1) := by decide +kernel
theorem dX5_told_11 : decode cX5_told 11 = .ok (.invokestatic 68, 3) := by decide +kernel
theorem dX5_told_14 : decode cX5_told 14 = .ok (.ifCond .eq 12, 3) := by decide +kernel
theorem dX5_told_17 : decode cX5_told 17 = .ok (.aload_n 0, 1) := by decide +kernel
theorem dX5_told_18 : decode cX5_told 18 = .ok (.iload_n 1, 1) := by decide +kernel
theorem dX5_told_19 : decode cX5_told 19 = .ok (.iload_n 2, 1) := by decide +kernel
theorem dX5_told_20 : decode cX5_told 20 = .ok (.invokevirtual 85, 3) := by decide +kernel
theorem dX5_told_23 : decode cX5_told 23 = .ok (.goto 4, 3) := by decide +kernel
theorem dX5_told_26 : decode cX5_told 26 = .ok (.iconst (-1), 1) := by decide +kernel
theorem dX5_told_27 : decode cX5_told 27 = .ok (.ireturn, 1) := by decide +kernel
theorem dX5_mark_0 : decode cX5_mark 0 = .ok (.iload_n 2, 1) := by decide +kernel
theorem dX5_mark_1 : decode cX5_mark 1 = .ok (.iconst 1, 1) := by decide +kernel
theorem dX5_mark_2 : decode cX5_mark 2 = .ok (.iconst 3, 1) := by decide +kernel
theorem dX5_mark_3 : decode cX5_mark 3 = .ok (.invokestatic 68, 3) := by decide +kernel
theorem dX5_mark_6 : decode cX5_mark 6 = .ok (.ifCond .ne 5, 3) := by decide +kernel
theorem dX5_mark_9 : decode cX5_mark 9 = .ok (.iconst (-1), 1) := by decide +kernel
theorem dX5_mark_10 : decode cX5_mark 10 = .ok (.ireturn, 1) := by decide +kernel
theorem dX5_mark_11 : decode cX5_mark 11 = .ok (.aload_n 0, 1) := by decide +kernel
theorem dX5_mark_12 : decode cX5_mark 12 = .ok (.iload_n 1, 1) := by decide +kernel
theorem dX5_mark_13 : decode cX5_mark 13 = .ok (.invokevirtual 82, 3) := by decide +kernel
theorem dX5_mark_16 : decode cX5_mark 16 = .ok (.istore_n 3, 1) := by decide +kernel
theorem dX5_mark_17 : decode cX5_mark 17 = .ok (.iload_n 3, 1) := by decide +kernel
theorem dX5_mark_18 : decode cX5_mark 18 = .ok (.ifCond .ge 5, 3) := by decide +kernel
theorem dX5_mark_21 : decode cX5_mark 21 = .ok (.iload_n 3, 1) := by decide +kernel
theorem dX5_mark_22 : decode cX5_mark 22 = .ok (.ireturn, 1) := by decide +kernel
theorem dX5_mark_23 : decode cX5_mark 23 = .ok (.iload_n 2, 1) := by decide +kernel
theorem dX5_mark_24 : decode cX5_mark 24 = .ok (.aload_n 0, 1) := by decide +kernel
theorem dX5_mark_25 : decode cX5_mark 25 = .ok (.getfield 13, 3) := by decide +kernel
theorem dX5_mark_28 : decode cX5_mark 28 = .ok (.iload_n 1, 1) := by decide +kernel
theorem dX5_mark_29 : decode cX5_mark 29 = .ok (.iaload, 1) := by decide +kernel
theorem dX5_mark_30 : decode cX5_mark 30 = .ok (.if_icmp .eq 24, 3) := by decide +kernel
theorem dX5_mark_33 : decode cX5_mark 33 = .ok (.iload_n 2, 1) := by decide +kernel
theorem dX5_mark_34 : decode cX5_mark 34 = .ok (.iconst 1, 1) := by decide +kernel
theorem dX5_mark_35 : decode cX5_mark 35 = .ok (.if_icmp .ne 13, 3) := by decide +kernel
theorem dX5_mark_38 : decode cX5_mark 38 = .ok (.aload_n 0, 1) := by decide +kernel
theorem dX5_mark_39 : decode cX5_mark 39 = .ok (.getfield 13, 3) := by decide +kernel
theorem dX5_mark_42 : decode cX5_mark 42 = .ok (.iload_n 1, 1) := by decide +kernel
theorem dX5_mark_43 : decode cX5_mark 43 = .ok (.iaload, 1) := by decide +kernel
theorem dX5_mark_44 : decode cX5_mark 44 = .ok (.iconst 3, 1) := by decide +kernel
theorem dX5_mark_45 : decode cX5_mark 45 = .ok (.if_icmp .eq 9, 3) := by decide +kernel
theorem dX5_mark_48 : decode cX5_mark 48 = .ok (.aload_n 0, 1) := by decide +kernel
theorem dX5_mark_49 : decode cX5_mark 49 = .ok (.iconst 3, 1) := by decide +kernel
theorem dX5_mark_50 : decode cX5_mark 50 = .ok (.invokevirtual 79, 3) := by decide +kernel
theorem dX5_mark_53 : decode cX5_mark 53 = .ok (.ireturn, 1) := by decide +kernel
theorem dX5_mark_54 : decode cX5_mark 54 = .ok (.iload_n 2, 1) := by decide +kernel
theorem dX5_mark_55 : decode cX5_mark 55 = .ok (.iconst 1, 1) := by decide +kernel
theorem dX5_mark_56 : decode cX5_mark 56 = .ok (.if_icmp .ne 12, 3) := by decide +kernel
theorem dX5_mark_59 : decode cX5_mark 59 = .ok (.aload_n 0, 1) := by decide +kernel
theorem dX5_mark_60 : decode cX5_mark 60 = .ok (.getfield 22, 3) := by decide +kernel
theorem dX5_mark_63 : decode cX5_mark 63 = .ok (.iload_n 1, 1) := by decide +kernel
theorem dX5_mark_64 : decode cX5_mark 64 = .ok (.iaload, 1) := by decide +kernel
theorem dX5_mark_65 : decode cX5_mark 65 = .ok (.goto 23, 3) := by decide +kernel
theorem dX5_mark_68 : decode cX5_mark 68 = .ok (.iload_n 2, 1) := by decide +kernel
theorem dX5_mark_69 : decode cX5_mark 69 = .ok (.iconst 2, 1) := by decide +kernel
theorem dX5_mark_70 : decode cX5_mark 70 = .ok (.if_icmp .ne 12, 3) := by decide +kernel
theorem dX5_mark_73 : decode cX5_mark 73 = .ok (.aload_n 0, 1) := by decide +kernel
theorem dX5_mark_74 : decode cX5_mark 74 = .ok (.getfield 19, 3) := by decide +kernel
theorem dX5_mark_77 : decode cX5_mark 77 = .ok (.iload_n 1, 1) := by decide +kernel
theorem dX5_mark_78 : decode cX5_mark 78 = .ok (.iaload, 1) := by decide +kernel
theorem dX5_mark_79 : decode cX5_mark 79 = .ok (.goto 9, 3) := by decide +kernel
theorem dX5_mark_82 : decode cX5_mark 82 = .ok (.aload_n 0, 1) := by decide +kernel
theorem dX5_mark_83 : decode cX5_mark 83 = .ok (.getfield 25, 3) := by decide +kernel
theorem dX5_mark_86 : decode cX5_mark 86 = .ok (.iload_n 1, 1) := by decide +kernel
theorem dX5_mark_87 : decode cX5_mark 87 = .ok (.iaload, 1) := by decide +kernel
theorem dX5_mark_88 : decode cX5_mark 88 = .ok (.ireturn, 1) := by decide +kernel
theorem dX5_floor_0 : decode cX5_floor 0 = .ok (.lload_n 0, 1) := by decide +kernel
theorem dX5_floor_1 : decode cX5_floor 1 = .ok (.iload_n 2, 1) := by decide +kernel
theorem dX5_floor_2 : decode cX5_floor 2 = .ok (.i2l, 1) := by decide +kernel
theorem dX5_floor_3 : decode cX5_floor 3 = .ok (.ldiv, 1) := by decide +kernel
theorem dX5_floor_4 : decode cX5_floor 4 = .ok (.lstore_n 3, 1) := by decide +kernel
theorem dX5_floor_5 : decode cX5_floor 5 = .ok (.lload_n 0, 1) := by decide +kernel
theorem dX5_floor_6 : decode cX5_floor 6 = .ok (.iload_n 2, 1) := by decide +kernel
theorem dX5_floor_7 : decode cX5_floor 7 = .ok (.i2l, 1) := by decide +kernel
theorem dX5_floor_8 : decode cX5_floor 8 = .ok (.lrem, 1) := by decide +kernel
theorem dX5_floor_9 : decode cX5_floor 9 = .ok (.lconst 0, 1) := by decide +kernel
theorem dX5_floor_10 : decode cX5_floor 10 = .ok (.lcmp, 1) := by decide +kernel
theorem dX5_floor_11 : decode cX5_floor 11 = .ok (.ifCond .ge 9, 3) := by decide +kernel
theorem dX5_floor_14 : decode cX5_floor 14 = .ok (.lload_n 3, 1) := by decide +kernel
theorem dX5_floor_15 : decode cX5_floor 15 = .ok (.lconst 1, 1) := by decide +kernel
theorem dX5_floor_16 : decode cX5_floor 16 = .ok (.lsub, 1) := by decide +kernel
theorem dX5_floor_17 : decode cX5_floor 17 = .ok (.goto 4, 3) := by decide +kernel
theorem dX5_floor_20 : decode cX5_floor 20 = .ok (.lload_n 3, 1) := by decide +kernel
theorem dX5_floor_21 : decode cX5_floor 21 = .ok (.l2i, 1) := by decide +kernel
theorem dX5_floor_22 : decode cX5_floor 22 = .ok (.ireturn, 1) := by decide +kernel
theorem dX5_railAt_0 : decode cX5_railAt 0 = .ok (.iconst 0, 1) := by decide +kernel
theorem dX5_railAt_1 : decode cX5_railAt 1 = .ok (.istore_n 2, 1) := by decide +kernel
theorem dX5_railAt_2 : decode cX5_railAt 2 = .ok (.iconst 0, 1) := by decide +kernel
theorem dX5_railAt_3 : decode cX5_railAt 3 = .ok (.istore_n 3, 1) := by decide +kernel
theorem dX5_railAt_4 : decode cX5_railAt 4 = .ok (.iload_n 1, 1) := by decide +kernel
theorem dX5_railAt_5 : decode cX5_railAt 5 = .ok (.istore 4, 2) := by decide +kernel
theorem dX5_railAt_7 : decode cX5_railAt 7 = .ok (.iload 4, 2) := by decide +kernel
theorem dX5_railAt_9 : decode cX5_railAt 9 = .ok (.ifCond .lt 139, 3) := by decide +kernel
theorem dX5_railAt_12 : decode cX5_railAt 12 = .ok (.iload 4, 2) := by decide +kernel
theorem dX5_railAt_14 : decode cX5_railAt 14 = .ok (.iload_n 1, 1) := by decide +kernel
theorem dX5_railAt_15 : decode cX5_railAt 15 = .ok (.iconst 4, 1) := by decide +kernel
theorem dX5_railAt_16 : decode cX5_railAt 16 = .ok (.isub, 1) := by decide +kernel
theorem dX5_railAt_17 : decode cX5_railAt 17 = .ok (.if_icmp .lt 131, 3) := by decide +kernel
theorem dX5_railAt_20 : decode cX5_railAt 20 = .ok (.iload_n 1, 1) := by decide +kernel
theorem dX5_railAt_21 : decode cX5_railAt 21 = .ok (.istore 5, 2) := by decide +kernel
theorem dX5_railAt_23 : decode cX5_railAt 23 = .ok (.iload 5, 2) := by decide +kernel
theorem dX5_railAt_25 : decode cX5_railAt 25 = .ok (.aload_n 0, 1) := by decide +kernel
theorem dX5_railAt_26 : decode cX5_railAt 26 = .ok (.getfield 72, 3) := by decide +kernel
theorem dX5_railAt_29 : decode cX5_railAt 29 = .ok (.if_icmp .ge 113, 3) := by decide +kernel
theorem dX5_railAt_32 : decode cX5_railAt 32 = .ok (.iload 5, 2) := by decide +kernel
theorem dX5_railAt_34 : decode cX5_railAt 34 = .ok (.iload 4, 2) := by decide +kernel
theorem dX5_railAt_36 : decode cX5_railAt 36 = .ok (.iconst 4, 1) := by decide +kernel
theorem dX5_railAt_37 : decode cX5_railAt 37 = .ok (.iadd, 1) := by decide +kernel
theorem dX5_railAt_38 : decode cX5_railAt 38 = .ok (.if_icmp .gt 104, 3) := by decide +kernel
theorem dX5_railAt_41 : decode cX5_railAt 41 = .ok (.aload_n 0, 1) := by decide +kernel
theorem dX5_railAt_42 : decode cX5_railAt 42 = .ok (.getfield 28, 3) := by decide +kernel
theorem dX5_railAt_45 : decode cX5_railAt 45 = .ok (.iload 4, 2) := by decide +kernel
theorem dX5_railAt_47 : decode cX5_railAt 47 = .ok (.baload, 1) := by decide +kernel
theorem dX5_railAt_48 : decode cX5_railAt 48 = .ok (.ifCond .ne 88, 3) := by decide +kernel
theorem dX5_railAt_51 : decode cX5_railAt 51 = .ok (.aload_n 0, 1) := by decide +kernel
theorem dX5_railAt_52 : decode cX5_railAt 52 = .ok (.getfield 28, 3) := by decide +kernel
theorem dX5_railAt_55 : decode cX5_railAt 55 = .ok (.iload 5, 2) := by decide +kernel
theorem dX5_railAt_57 : decode cX5_railAt 57 = .ok (.baload, 1) := by decide +kernel
theorem dX5_railAt_58 : decode cX5_railAt 58 = .ok (.ifCond .ne 78, 3) := by decide +kernel
theorem dX5_railAt_61 : decode cX5_railAt 61 = .ok (.iload 4, 2) := by decide +kernel
theorem dX5_railAt_63 : decode cX5_railAt 63 = .ok (.iload 5, 2) := by decide +kernel
theorem dX5_railAt_65 : decode cX5_railAt 65 = .ok (.if_icmp .ne 13, 3) := by decide +kernel
theorem dX5_railAt_68 : decode cX5_railAt 68 = .ok (.aload_n 0, 1) := by decide +kernel
theorem dX5_railAt_69 : decode cX5_railAt 69 = .ok (.getfield 16, 3) := by decide +kernel
theorem dX5_railAt_72 : decode cX5_railAt 72 = .ok (.iload 4, 2) := by decide +kernel
theorem dX5_railAt_74 : decode cX5_railAt 74 = .ok (.iaload, 1) := by decide +kernel
theorem dX5_railAt_75 : decode cX5_railAt 75 = .ok (.goto 40, 3) := by decide +kernel
theorem dX5_railAt_78 : decode cX5_railAt 78 = .ok (.aload_n 0, 1) := by decide +kernel
theorem dX5_railAt_79 : decode cX5_railAt 79 = .ok (.getfield 16, 3) := by decide +kernel
theorem dX5_railAt_82 : decode cX5_railAt 82 = .ok (.iload 4, 2) := by decide +kernel
theorem dX5_railAt_84 : decode cX5_railAt 84 = .ok (.iaload, 1) := by decide +kernel
theorem dX5_railAt_85 : decode cX5_railAt 85 = .ok (.i2l, 1) := by decide +kernel
theorem dX5_railAt_86 : decode cX5_railAt 86 = .ok (.iload 5, 2) := by decide +kernel
theorem dX5_railAt_88 : decode cX5_railAt 88 = .ok (.iload_n 1, 1) := by decide +kernel
theorem dX5_railAt_89 : decode cX5_railAt 89 = .ok (.isub, 1) := by decide +kernel
theorem dX5_railAt_90 : decode cX5_railAt 90 = .ok (.i2l, 1) := by decide +kernel
theorem dX5_railAt_91 : decode cX5_railAt 91 = .ok (.lmul, 1) := by decide +kernel
theorem dX5_railAt_92 : decode cX5_railAt 92 = .ok (.aload_n 0, 1) := by decide +kernel
theorem dX5_railAt_93 : decode cX5_railAt 93 = .ok (.getfield 16, 3) := by decide +kernel
theorem dX5_railAt_96 : decode cX5_railAt 96 = .ok (.iload 5, 2) := by decide +kernel
theorem dX5_railAt_98 : decode cX5_railAt 98 = .ok (.iaload, 1) := by decide +kernel
theorem dX5_railAt_99 : decode cX5_railAt 99 = .ok (.i2l, 1) := by decide +kernel
theorem dX5_railAt_100 : decode cX5_railAt 100 = .ok (.iload_n 1, 1) := by decide +kernel
theorem dX5_railAt_101 : decode cX5_railAt 101 = .ok (.iload 4, 2) := by decide +kernel
theorem dX5_railAt_103 : decode cX5_railAt 103 = .ok (.isub, 1) := by decide +kernel
theorem dX5_railAt_104 : decode cX5_railAt 104 = .ok (.i2l, 1) := by decide +kernel
theorem dX5_railAt_105 : decode cX5_railAt 105 = .ok (.lmul, 1) := by decide +kernel
theorem dX5_railAt_106 : decode cX5_railAt 106 = .ok (.ladd, 1) := by decide +kernel
theorem dX5_railAt_107 : decode cX5_railAt 107 = .ok (.iload 5, 2) := by decide +kernel
theorem dX5_railAt_109 : decode cX5_railAt 109 = .ok (.iload 4, 2) := by decide +kernel
theorem dX5_railAt_111 : decode cX5_railAt 111 = .ok (.isub, 1) := by decide +kernel
theorem dX5_railAt_112 : decode cX5_railAt 112 = .ok (.invokestatic 89, 3) := by decide +kernel
theorem dX5_railAt_115 : decode cX5_railAt 115 = .ok (.istore 6, 2) := by decide +kernel
theorem dX5_railAt_117 : decode cX5_railAt 117 = .ok (.iload_n 2, 1) := by decide +kernel
theorem dX5_railAt_118 : decode cX5_railAt 118 = .ok (.ifCond .eq 9, 3) := by decide +kernel
theorem dX5_railAt_121 : decode cX5_railAt 121 = .ok (.iload 6, 2) := by decide +kernel
theorem dX5_railAt_123 : decode cX5_railAt 123 = .ok (.iload_n 3, 1) := by decide +kernel
theorem dX5_railAt_124 : decode cX5_railAt 124 = .ok (.if_icmp .le 8, 3) := by decide +kernel
theorem dX5_railAt_127 : decode cX5_railAt 127 = .ok (.iload 6, 2) := by decide +kernel
theorem dX5_railAt_129 : decode cX5_railAt 129 = .ok (.goto 4, 3) := by decide +kernel
theorem dX5_railAt_132 : decode cX5_railAt 132 = .ok (.iload_n 3, 1) := by decide +kernel
theorem dX5_railAt_133 : decode cX5_railAt 133 = .ok (.istore_n 3, 1) := by decide +kernel
theorem dX5_railAt_134 : decode cX5_railAt 134 = .ok (.iconst 1, 1) := by decide +kernel
theorem dX5_railAt_135 : decode cX5_railAt 135 = .ok (.istore_n 2, 1) := by decide +kernel
theorem dX5_railAt_136 : decode cX5_railAt 136 = .ok (.iinc 5 1, 3) := by decide +kernel
theorem dX5_railAt_139 : decode cX5_railAt 139 = .ok (.goto (-116), 3) := by decide +kernel
theorem dX5_railAt_142 : decode cX5_railAt 142 = .ok (.iinc 4 (-1), 3) := by decide +kernel
theorem dX5_railAt_145 : decode cX5_railAt 145 = .ok (.goto (-138), 3) := by decide +kernel
theorem dX5_railAt_148 : decode cX5_railAt 148 = .ok (.iconst 1, 1) := by decide +kernel
theorem dX5_railAt_149 : decode cX5_railAt 149 = .ok (.istore 4, 2) := by decide +kernel
theorem dX5_railAt_151 : decode cX5_railAt 151 = .ok (.iload 4, 2) := by decide +kernel
theorem dX5_railAt_153 : decode cX5_railAt 153 = .ok (.aload_n 0, 1) := by decide +kernel
theorem dX5_railAt_154 : decode cX5_railAt 154 = .ok (.getfield 72, 3) := by decide +kernel
theorem dX5_railAt_157 : decode cX5_railAt 157 = .ok (.if_icmp .ge 70, 3) := by decide +kernel
theorem dX5_railAt_160 : decode cX5_railAt 160 = .ok (.iload_n 2, 1) := by decide +kernel
theorem dX5_railAt_161 : decode cX5_railAt 161 = .ok (.ifCond .ne 66, 3) := by decide +kernel
theorem dX5_railAt_164 : decode cX5_railAt 164 = .ok (.iconst (-1), 1) := by decide +kernel
theorem dX5_railAt_165 : decode cX5_railAt 165 = .ok (.istore 5, 2) := by decide +kernel
theorem dX5_railAt_167 : decode cX5_railAt 167 = .ok (.iload 5, 2) := by decide +kernel
theorem dX5_railAt_169 : decode cX5_railAt 169 = .ok (.iconst 2, 1) := by decide +kernel
theorem dX5_railAt_170 : decode cX5_railAt 170 = .ok (.if_icmp .ge 51, 3) := by decide +kernel
theorem dX5_railAt_173 : decode cX5_railAt 173 = .ok (.iload_n 2, 1) := by decide +kernel
theorem dX5_railAt_174 : decode cX5_railAt 174 = .ok (.ifCond .ne 47, 3) := by decide +kernel
theorem dX5_railAt_177 : decode cX5_railAt 177 = .ok (.iload_n 1, 1) := by decide +kernel
theorem dX5_railAt_178 : decode cX5_railAt 178 = .ok (.iload 5, 2) := by decide +kernel
theorem dX5_railAt_180 : decode cX5_railAt 180 = .ok (.iload 4, 2) := by decide +kernel
theorem dX5_railAt_182 : decode cX5_railAt 182 = .ok (.imul, 1) := by decide +kernel
theorem dX5_railAt_183 : decode cX5_railAt 183 = .ok (.iadd, 1) := by decide +kernel
theorem dX5_railAt_184 : decode cX5_railAt 184 = .ok (.istore 6, 2) := by decide +kernel
theorem dX5_railAt_186 : decode cX5_railAt 186 = .ok (.aload_n 0, 1) := by decide +kernel
theorem dX5_railAt_187 : decode cX5_railAt 187 = .ok (.iload 6, 2) := by decide +kernel
theorem dX5_railAt_189 : decode cX5_railAt 189 = .ok (.invokevirtual 75, 3) := by decide +kernel
theorem dX5_railAt_192 : decode cX5_railAt 192 = .ok (.ifCond .eq 23, 3) := by decide +kernel
theorem dX5_railAt_195 : decode cX5_railAt 195 = .ok (.aload_n 0, 1) := by decide +kernel
theorem dX5_railAt_196 : decode cX5_railAt 196 = .ok (.getfield 28, 3) := by decide +kernel
theorem dX5_railAt_199 : decode cX5_railAt 199 = .ok (.iload 6, 2) := by decide +kernel
theorem dX5_railAt_201 : decode cX5_railAt 201 = .ok (.baload, 1) := by decide +kernel
theorem dX5_railAt_202 : decode cX5_railAt 202 = .ok (.ifCond .ne 13, 3) := by decide +kernel
theorem dX5_railAt_205 : decode cX5_railAt 205 = .ok (.aload_n 0, 1) := by decide +kernel
theorem dX5_railAt_206 : decode cX5_railAt 206 = .ok (.getfield 16, 3) := by decide +kernel
theorem dX5_railAt_209 : decode cX5_railAt 209 = .ok (.iload 6, 2) := by decide +kernel
theorem dX5_railAt_211 : decode cX5_railAt 211 = .ok (.iaload, 1) := by decide +kernel
theorem dX5_railAt_212 : decode cX5_railAt 212 = .ok (.istore_n 3, 1) := by decide +kernel
theorem dX5_railAt_213 : decode cX5_railAt 213 = .ok (.iconst 1, 1) := by decide +kernel
theorem dX5_railAt_214 : decode cX5_railAt 214 = .ok (.istore_n 2, 1) := by decide +kernel
theorem dX5_railAt_215 : decode cX5_railAt 215 = .ok (.iinc 5 2, 3) := by decide +kernel
theorem dX5_railAt_218 : decode cX5_railAt 218 = .ok (.goto (-51), 3) := by decide +kernel
theorem dX5_railAt_221 : decode cX5_railAt 221 = .ok (.iinc 4 1, 3) := by decide +kernel
theorem dX5_railAt_224 : decode cX5_railAt 224 = .ok (.goto (-73), 3) := by decide +kernel
theorem dX5_railAt_227 : decode cX5_railAt 227 = .ok (.iload_n 3, 1) := by decide +kernel
theorem dX5_railAt_228 : decode cX5_railAt 228 = .ok (.ireturn, 1) := by decide +kernel
theorem dX5_rail_0 : decode cX5_rail 0 = .ok (.aload_n 0, 1) := by decide +kernel
theorem dX5_rail_1 : decode cX5_rail 1 = .ok (.iload_n 1, 1) := by decide +kernel
theorem dX5_rail_2 : decode cX5_rail 2 = .ok (.invokevirtual 75, 3) := by decide +kernel
theorem dX5_rail_5 : decode cX5_rail 5 = .ok (.ifCond .eq 17, 3) := by decide +kernel
theorem dX5_rail_8 : decode cX5_rail 8 = .ok (.aload_n 0, 1) := by decide +kernel
theorem dX5_rail_9 : decode cX5_rail 9 = .ok (.aload_n 0, 1) := by decide +kernel
theorem dX5_rail_10 : decode cX5_rail 10 = .ok (.iload_n 1, 1) := by decide +kernel
theorem dX5_rail_11 : decode cX5_rail 11 = .ok (.invokevirtual 93, 3) := by decide +kernel
theorem dX5_rail_14 : decode cX5_rail 14 = .ok (.i2l, 1) := by decide +kernel
theorem dX5_rail_15 : decode cX5_rail 15 = .ok (.iconst 1, 1) := by decide +kernel
theorem dX5_rail_16 : decode cX5_rail 16 = .ok (.invokevirtual 96, 3) := by decide +kernel
theorem dX5_rail_19 : decode cX5_rail 19 = .ok (.goto 4, 3) := by decide +kernel
theorem dX5_rail_22 : decode cX5_rail 22 = .ok (.iconst (-1), 1) := by decide +kernel
theorem dX5_rail_23 : decode cX5_rail 23 = .ok (.ireturn, 1) := by decide +kernel
theorem dX5_gap_0 : decode cX5_gap 0 = .ok (.aload_n 0, 1) := by decide +kernel
theorem dX5_gap_1 : decode cX5_gap 1 = .ok (.iload_n 1, 1) := by decide +kernel
theorem dX5_gap_2 : decode cX5_gap 2 = .ok (.invokevirtual 82, 3) := by decide +kernel
theorem dX5_gap_5 : decode cX5_gap 5 = .ok (.istore_n 2, 1) := by decide +kernel
theorem dX5_gap_6 : decode cX5_gap 6 = .ok (.iload_n 2, 1) := by decide +kernel
theorem dX5_gap_7 : decode cX5_gap 7 = .ok (.ifCond .ge 7, 3) := by decide +kernel
theorem dX5_gap_10 : decode cX5_gap 10 = .ok (.iload_n 2, 1) := by decide +kernel
theorem dX5_gap_11 : decode cX5_gap 11 = .ok (.goto 15, 3) := by decide +kernel
theorem dX5_gap_14 : decode cX5_gap 14 = .ok (.aload_n 0, 1) := by decide +kernel
theorem dX5_gap_15 : decode cX5_gap 15 = .ok (.iload_n 1, 1) := by decide +kernel
theorem dX5_gap_16 : decode cX5_gap 16 = .ok (.invokevirtual 93, 3) := by decide +kernel
theorem dX5_gap_19 : decode cX5_gap 19 = .ok (.aload_n 0, 1) := by decide +kernel
theorem dX5_gap_20 : decode cX5_gap 20 = .ok (.getfield 16, 3) := by decide +kernel
theorem dX5_gap_23 : decode cX5_gap 23 = .ok (.iload_n 1, 1) := by decide +kernel
theorem dX5_gap_24 : decode cX5_gap 24 = .ok (.iaload, 1) := by decide +kernel
theorem dX5_gap_25 : decode cX5_gap 25 = .ok (.isub, 1) := by decide +kernel
theorem dX5_gap_26 : decode cX5_gap 26 = .ok (.ireturn, 1) := by decide +kernel
theorem dX5_axle_0 : decode cX5_axle 0 = .ok (.iload_n 1, 1) := by decide +kernel
theorem dX5_axle_1 : decode cX5_axle 1 = .ok (.iconst 1, 1) := by decide +kernel
theorem dX5_axle_2 : decode cX5_axle 2 = .ok (.sipush 250, 3) := by decide +kernel
theorem dX5_axle_5 : decode cX5_axle 5 = .ok (.invokestatic 68, 3) := by decide +kernel
theorem dX5_axle_8 : decode cX5_axle 8 = .ok (.ifCond .ne 5, 3) := by decide +kernel
theorem dX5_axle_11 : decode cX5_axle 11 = .ok (.iconst (-1), 1) := by decide +kernel
theorem dX5_axle_12 : decode cX5_axle 12 = .ok (.ireturn, 1) := by decide +kernel
theorem dX5_axle_13 : decode cX5_axle 13 = .ok (.aload_n 0, 1) := by decide +kernel
theorem dX5_axle_14 : decode cX5_axle 14 = .ok (.getfield 99, 3) := by decide +kernel
theorem dX5_axle_17 : decode cX5_axle 17 = .ok (.bipush 20, 2) := by decide +kernel
theorem dX5_axle_19 : decode cX5_axle 19 = .ok (.if_icmp .ne 6, 3) := by decide +kernel
theorem dX5_axle_22 : decode cX5_axle 22 = .ok (.bipush (-2), 2) := by decide +kernel
theorem dX5_axle_24 : decode cX5_axle 24 = .ok (.ireturn, 1) := by decide +kernel
theorem dX5_axle_25 : decode cX5_axle 25 = .ok (.aload_n 0, 1) := by decide +kernel
theorem dX5_axle_26 : decode cX5_axle 26 = .ok (.getfield 35, 3) := by decide +kernel
theorem dX5_axle_29 : decode cX5_axle 29 = .ok (.aload_n 0, 1) := by decide +kernel
theorem dX5_axle_30 : decode cX5_axle 30 = .ok (.getfield 99, 3) := by decide +kernel
theorem dX5_axle_33 : decode cX5_axle 33 = .ok (.iload_n 1, 1) := by decide +kernel
theorem dX5_axle_34 : decode cX5_axle 34 = .ok (.iastore, 1) := by decide +kernel
theorem dX5_axle_35 : decode cX5_axle 35 = .ok (.aload_n 0, 1) := by decide +kernel
theorem dX5_axle_36 : decode cX5_axle 36 = .ok (.dup, 1) := by decide +kernel
theorem dX5_axle_37 : decode cX5_axle 37 = .ok (.getfield 99, 3) := by decide +kernel
theorem dX5_axle_40 : decode cX5_axle 40 = .ok (.iconst 1, 1) := by decide +kernel
theorem dX5_axle_41 : decode cX5_axle 41 = .ok (.iadd, 1) := by decide +kernel
theorem dX5_axle_42 : decode cX5_axle 42 = .ok (.putfield 99, 3) := by decide +kernel
theorem dX5_axle_45 : decode cX5_axle 45 = .ok (.aload_n 0, 1) := by decide +kernel
theorem dX5_axle_46 : decode cX5_axle 46 = .ok (.getfield 99, 3) := by decide +kernel
theorem dX5_axle_49 : decode cX5_axle 49 = .ok (.ireturn, 1) := by decide +kernel
theorem dX5_uncouple_0 : decode cX5_uncouple 0 = .ok (.aload_n 0, 1) := by decide +kernel
theorem dX5_uncouple_1 : decode cX5_uncouple 1 = .ok (.getfield 99, 3) := by decide +kernel
theorem dX5_uncouple_4 : decode cX5_uncouple 4 = .ok (.istore_n 1, 1) := by decide +kernel
theorem dX5_uncouple_5 : decode cX5_uncouple 5 = .ok (.aload_n 0, 1) := by decide +kernel
theorem dX5_uncouple_6 : decode cX5_uncouple 6 = .ok (.iconst 0, 1) := by decide +kernel
theorem dX5_uncouple_7 : decode cX5_uncouple 7 = .ok (.putfield 99, 3) := by decide +kernel
theorem dX5_uncouple_10 : decode cX5_uncouple 10 = .ok (.iload_n 1, 1) := by decide +kernel
theorem dX5_uncouple_11 : decode cX5_uncouple 11 = .ok (.ireturn, 1) := by decide +kernel
theorem dX5_table_0 : decode cX5_table 0 = .ok (.iload_n 1, 1) := by decide +kernel
theorem dX5_table_1 : decode cX5_table 1 = .ok (.iconst 0, 1) := by decide +kernel
theorem dX5_table_2 : decode cX5_table 2 = .ok (.bipush 15, 2) := by decide +kernel
theorem dX5_table_4 : decode cX5_table 4 = .ok (.invokestatic 68, 3) := by decide +kernel
theorem dX5_table_7 : decode cX5_table 7 = .ok (.ifCond .ne 5, 3) := by decide +kernel
theorem dX5_table_10 : decode cX5_table 10 = .ok (.iconst (-1), 1) := by decide +kernel
theorem dX5_table_11 : decode cX5_table 11 = .ok (.ireturn, 1) := by decide +kernel
theorem dX5_table_12 : decode cX5_table 12 = .ok (.aload_n 0, 1) := by decide +kernel
theorem dX5_table_13 : decode cX5_table 13 = .ok (.getfield 38, 3) := by decide +kernel
theorem dX5_table_16 : decode cX5_table 16 = .ok (.iload_n 1, 1) := by decide +kernel
theorem dX5_table_17 : decode cX5_table 17 = .ok (.iaload, 1) := by decide +kernel
theorem dX5_table_18 : decode cX5_table 18 = .ok (.istore_n 3, 1) := by decide +kernel
theorem dX5_table_19 : decode cX5_table 19 = .ok (.aload_n 0, 1) := by decide +kernel
theorem dX5_table_20 : decode cX5_table 20 = .ok (.getfield 38, 3) := by decide +kernel
theorem dX5_table_23 : decode cX5_table 23 = .ok (.iload_n 1, 1) := by decide +kernel
theorem dX5_table_24 : decode cX5_table 24 = .ok (.iload_n 2, 1) := by decide +kernel
theorem dX5_table_25 : decode cX5_table 25 = .ok (.i2b, 1) := by decide +kernel
theorem dX5_table_26 : decode cX5_table 26 = .ok (.iastore, 1) := by decide +kernel
theorem dX5_table_27 : decode cX5_table 27 = .ok (.iload_n 3, 1) := by decide +kernel
theorem dX5_table_28 : decode cX5_table 28 = .ok (.sipush 1000, 3) := by decide +kernel
theorem dX5_table_31 : decode cX5_table 31 = .ok (.iadd, 1) := by decide +kernel
theorem dX5_table_32 : decode cX5_table 32 = .ok (.ireturn, 1) := by decide +kernel
theorem dX5_bears_0 : decode cX5_bears 0 = .ok (.aload_n 0, 1) := by decide +kernel
theorem dX5_bears_1 : decode cX5_bears 1 = .ok (.iload_n 1, 1) := by decide +kernel
theorem dX5_bears_2 : decode cX5_bears 2 = .ok (.invokevirtual 75, 3) := by decide +kernel
theorem dX5_bears_5 : decode cX5_bears 5 = .ok (.ifCond .eq 30, 3) := by decide +kernel
theorem dX5_bears_8 : decode cX5_bears 8 = .ok (.aload_n 0, 1) := by decide +kernel
theorem dX5_bears_9 : decode cX5_bears 9 = .ok (.getfield 28, 3) := by decide +kernel
theorem dX5_bears_12 : decode cX5_bears 12 = .ok (.iload_n 1, 1) := by decide +kernel
theorem dX5_bears_13 : decode cX5_bears 13 = .ok (.baload, 1) := by decide +kernel
theorem dX5_bears_14 : decode cX5_bears 14 = .ok (.ifCond .ne 21, 3) := by decide +kernel
theorem dX5_bears_17 : decode cX5_bears 17 = .ok (.aload_n 0, 1) := by decide +kernel
theorem dX5_bears_18 : decode cX5_bears 18 = .ok (.iload_n 1, 1) := by decide +kernel
theorem dX5_bears_19 : decode cX5_bears 19 = .ok (.invokevirtual 93, 3) := by decide +kernel
theorem dX5_bears_22 : decode cX5_bears 22 = .ok (.aload_n 0, 1) := by decide +kernel
theorem dX5_bears_23 : decode cX5_bears 23 = .ok (.getfield 16, 3) := by decide +kernel
theorem dX5_bears_26 : decode cX5_bears 26 = .ok (.iload_n 1, 1) := by decide +kernel
theorem dX5_bears_27 : decode cX5_bears 27 = .ok (.iaload, 1) := by decide +kernel
theorem dX5_bears_28 : decode cX5_bears 28 = .ok (.if_icmp .ne 7, 3) := by decide +kernel
theorem dX5_bears_31 : decode cX5_bears 31 = .ok (.iconst 1, 1) := by decide +kernel
theorem dX5_bears_32 : decode cX5_bears 32 = .ok (.goto 4, 3) := by decide +kernel
theorem dX5_bears_35 : decode cX5_bears 35 = .ok (.iconst 0, 1) := by decide +kernel
theorem dX5_bears_36 : decode cX5_bears 36 = .ok (.ireturn, 1) := by decide +kernel
theorem dX5_sink_0 : decode cX5_sink 0 = .ok (.iload_n 2, 1) := by decide +kernel
theorem dX5_sink_1 : decode cX5_sink 1 = .ok (.aload_n 0, 1) := by decide +kernel
theorem dX5_sink_2 : decode cX5_sink 2 = .ok (.getfield 19, 3) := by decide +kernel
theorem dX5_sink_5 : decode cX5_sink 5 = .ok (.iload_n 1, 1) := by decide +kernel
theorem dX5_sink_6 : decode cX5_sink 6 = .ok (.iaload, 1) := by decide +kernel
theorem dX5_sink_7 : decode cX5_sink 7 = .ok (.idiv, 1) := by decide +kernel
theorem dX5_sink_8 : decode cX5_sink 8 = .ok (.bipush 15, 2) := by decide +kernel
theorem dX5_sink_10 : decode cX5_sink 10 = .ok (.if_icmp .le 8, 3) := by decide +kernel
theorem dX5_sink_13 : decode cX5_sink 13 = .ok (.bipush 15, 2) := by decide +kernel
theorem dX5_sink_15 : decode cX5_sink 15 = .ok (.goto 11, 3) := by decide +kernel
theorem dX5_sink_18 : decode cX5_sink 18 = .ok (.iload_n 2, 1) := by decide +kernel
theorem dX5_sink_19 : decode cX5_sink 19 = .ok (.aload_n 0, 1) := by decide +kernel
theorem dX5_sink_20 : decode cX5_sink 20 = .ok (.getfield 19, 3) := by decide +kernel
theorem dX5_sink_23 : decode cX5_sink 23 = .ok (.iload_n 1, 1) := by decide +kernel
theorem dX5_sink_24 : decode cX5_sink 24 = .ok (.iaload, 1) := by decide +kernel
theorem dX5_sink_25 : decode cX5_sink 25 = .ok (.idiv, 1) := by decide +kernel
theorem dX5_sink_26 : decode cX5_sink 26 = .ok (.istore_n 3, 1) := by decide +kernel
theorem dX5_sink_27 : decode cX5_sink 27 = .ok (.aload_n 0, 1) := by decide +kernel
theorem dX5_sink_28 : decode cX5_sink 28 = .ok (.getfield 38, 3) := by decide +kernel
theorem dX5_sink_31 : decode cX5_sink 31 = .ok (.iload_n 3, 1) := by decide +kernel
theorem dX5_sink_32 : decode cX5_sink 32 = .ok (.iaload, 1) := by decide +kernel
theorem dX5_sink_33 : decode cX5_sink 33 = .ok (.ifCond .ge 7, 3) := by decide +kernel
theorem dX5_sink_36 : decode cX5_sink 36 = .ok (.iconst 0, 1) := by decide +kernel
theorem dX5_sink_37 : decode cX5_sink 37 = .ok (.goto 9, 3) := by decide +kernel
theorem dX5_sink_40 : decode cX5_sink 40 = .ok (.aload_n 0, 1) := by decide +kernel
theorem dX5_sink_41 : decode cX5_sink 41 = .ok (.getfield 38, 3) := by decide +kernel
theorem dX5_sink_44 : decode cX5_sink 44 = .ok (.iload_n 3, 1) := by decide +kernel
theorem dX5_sink_45 : decode cX5_sink 45 = .ok (.iaload, 1) := by decide +kernel
theorem dX5_sink_46 : decode cX5_sink 46 = .ok (.istore 4, 2) := by decide +kernel
theorem dX5_sink_48 : decode cX5_sink 48 = .ok (.iload 4, 2) := by decide +kernel
theorem dX5_sink_50 : decode cX5_sink 50 = .ok (.aload_n 0, 1) := by decide +kernel
theorem dX5_sink_51 : decode cX5_sink 51 = .ok (.getfield 13, 3) := by decide +kernel
theorem dX5_sink_54 : decode cX5_sink 54 = .ok (.iload_n 1, 1) := by decide +kernel
theorem dX5_sink_55 : decode cX5_sink 55 = .ok (.iaload, 1) := by decide +kernel
theorem dX5_sink_56 : decode cX5_sink 56 = .ok (.iconst 2, 1) := by decide +kernel
theorem dX5_sink_57 : decode cX5_sink 57 = .ok (.if_icmp .ne 10, 3) := by decide +kernel
theorem dX5_sink_60 : decode cX5_sink 60 = .ok (.iload 4, 2) := by decide +kernel
theorem dX5_sink_62 : decode cX5_sink 62 = .ok (.iconst 4, 1) := by decide +kernel
theorem dX5_sink_63 : decode cX5_sink 63 = .ok (.idiv, 1) := by decide +kernel
theorem dX5_sink_64 : decode cX5_sink 64 = .ok (.goto 21, 3) := by decide +kernel
theorem dX5_sink_67 : decode cX5_sink 67 = .ok (.aload_n 0, 1) := by decide +kernel
theorem dX5_sink_68 : decode cX5_sink 68 = .ok (.getfield 13, 3) := by decide +kernel
theorem dX5_sink_71 : decode cX5_sink 71 = .ok (.iload_n 1, 1) := by decide +kernel
theorem dX5_sink_72 : decode cX5_sink 72 = .ok (.iaload, 1) := by decide +kernel
theorem dX5_sink_73 : decode cX5_sink 73 = .ok (.ifCond .ne 7, 3) := by decide +kernel
theorem dX5_sink_76 : decode cX5_sink 76 = .ok (.iconst 0, 1) := by decide +kernel
theorem dX5_sink_77 : decode cX5_sink 77 = .ok (.goto 8, 3) := by decide +kernel
theorem dX5_sink_80 : decode cX5_sink 80 = .ok (.iload 4, 2) := by decide +kernel
theorem dX5_sink_82 : decode cX5_sink 82 = .ok (.iconst 4, 1) := by decide +kernel
theorem dX5_sink_83 : decode cX5_sink 83 = .ok (.idiv, 1) := by decide +kernel
theorem dX5_sink_84 : decode cX5_sink 84 = .ok (.ineg, 1) := by decide +kernel
theorem dX5_sink_85 : decode cX5_sink 85 = .ok (.iadd, 1) := by decide +kernel
theorem dX5_sink_86 : decode cX5_sink 86 = .ok (.istore 4, 2) := by decide +kernel
theorem dX5_sink_88 : decode cX5_sink 88 = .ok (.aload_n 0, 1) := by decide +kernel
theorem dX5_sink_89 : decode cX5_sink 89 = .ok (.getfield 22, 3) := by decide +kernel
theorem dX5_sink_92 : decode cX5_sink 92 = .ok (.iload_n 1, 1) := by decide +kernel
theorem dX5_sink_93 : decode cX5_sink 93 = .ok (.dup2, 1) := by decide +kernel
theorem dX5_sink_94 : decode cX5_sink 94 = .ok (.iaload, 1) := by decide +kernel
theorem dX5_sink_95 : decode cX5_sink 95 = .ok (.iload 4, 2) := by decide +kernel
theorem dX5_sink_97 : decode cX5_sink 97 = .ok (.iadd, 1) := by decide +kernel
theorem dX5_sink_98 : decode cX5_sink 98 = .ok (.iastore, 1) := by decide +kernel
theorem dX5_sink_99 : decode cX5_sink 99 = .ok (.aload_n 0, 1) := by decide +kernel
theorem dX5_sink_100 : decode cX5_sink 100 = .ok (.getfield 22, 3) := by decide +kernel
theorem dX5_sink_103 : decode cX5_sink 103 = .ok (.iload_n 1, 1) := by decide +kernel
theorem dX5_sink_104 : decode cX5_sink 104 = .ok (.iaload, 1) := by decide +kernel
theorem dX5_sink_105 : decode cX5_sink 105 = .ok (.bipush 100, 2) := by decide +kernel
theorem dX5_sink_107 : decode cX5_sink 107 = .ok (.idiv, 1) := by decide +kernel
theorem dX5_sink_108 : decode cX5_sink 108 = .ok (.istore 5, 2) := by decide +kernel
theorem dX5_sink_110 : decode cX5_sink 110 = .ok (.aload_n 0, 1) := by decide +kernel
theorem dX5_sink_111 : decode cX5_sink 111 = .ok (.getfield 22, 3) := by decide +kernel
theorem dX5_sink_114 : decode cX5_sink 114 = .ok (.iload_n 1, 1) := by decide +kernel
theorem dX5_sink_115 : decode cX5_sink 115 = .ok (.dup2, 1) := by decide +kernel
theorem dX5_sink_116 : decode cX5_sink 116 = .ok (.iaload, 1) := by decide +kernel
theorem dX5_sink_117 : decode cX5_sink 117 = .ok (.bipush 100, 2) := by decide +kernel
theorem dX5_sink_119 : decode cX5_sink 119 = .ok (.iload 5, 2) := by decide +kernel
theorem dX5_sink_121 : decode cX5_sink 121 = .ok (.imul, 1) := by decide +kernel
theorem dX5_sink_122 : decode cX5_sink 122 = .ok (.isub, 1) := by decide +kernel
theorem dX5_sink_123 : decode cX5_sink 123 = .ok (.iastore, 1) := by decide +kernel
theorem dX5_sink_124 : decode cX5_sink 124 = .ok (.aload_n 0, 1) := by decide +kernel
theorem dX5_sink_125 : decode cX5_sink 125 = .ok (.getfield 16, 3) := by decide +kernel
theorem dX5_sink_128 : decode cX5_sink 128 = .ok (.iload_n 1, 1) := by decide +kernel
theorem dX5_sink_129 : decode cX5_sink 129 = .ok (.dup2, 1) := by decide +kernel
theorem dX5_sink_130 : decode cX5_sink 130 = .ok (.iaload, 1) := by decide +kernel
theorem dX5_sink_131 : decode cX5_sink 131 = .ok (.iload 5, 2) := by decide +kernel
theorem dX5_sink_133 : decode cX5_sink 133 = .ok (.isub, 1) := by decide +kernel
theorem dX5_sink_134 : decode cX5_sink 134 = .ok (.iastore, 1) := by decide +kernel
theorem dX5_sink_135 : decode cX5_sink 135 = .ok (.iload 5, 2) := by decide +kernel
theorem dX5_sink_137 : decode cX5_sink 137 = .ok (.ireturn, 1) := by decide +kernel
theorem dX5_rolls_0 : decode cX5_rolls 0 = .ok (.aload_n 0, 1) := by decide +kernel
theorem dX5_rolls_1 : decode cX5_rolls 1 = .ok (.getfield 13, 3) := by decide +kernel
theorem dX5_rolls_4 : decode cX5_rolls 4 = .ok (.iload_n 1, 1) := by decide +kernel
theorem dX5_rolls_5 : decode cX5_rolls 5 = .ok (.iaload, 1) := by decide +kernel
theorem dX5_rolls_6 : decode cX5_rolls 6 = .ok (.iconst 3, 1) := by decide +kernel
theorem dX5_rolls_7 : decode cX5_rolls 7 = .ok (.if_icmp .ne 16, 3) := by decide +kernel
theorem dX5_rolls_10 : decode cX5_rolls 10 = .ok (.aload_n 0, 1) := by decide +kernel
theorem dX5_rolls_11 : decode cX5_rolls 11 = .ok (.getfield 28, 3) := by decide +kernel
theorem dX5_rolls_14 : decode cX5_rolls 14 = .ok (.iload_n 1, 1) := by decide +kernel
theorem dX5_rolls_15 : decode cX5_rolls 15 = .ok (.baload, 1) := by decide +kernel
theorem dX5_rolls_16 : decode cX5_rolls 16 = .ok (.ifCond .ne 7, 3) := by decide +kernel
theorem dX5_rolls_19 : decode cX5_rolls 19 = .ok (.iconst 1, 1) := by decide +kernel
theorem dX5_rolls_20 : decode cX5_rolls 20 = .ok (.goto 4, 3) := by decide +kernel
theorem dX5_rolls_23 : decode cX5_rolls 23 = .ok (.iconst 0, 1) := by decide +kernel
theorem dX5_rolls_24 : decode cX5_rolls 24 = .ok (.istore_n 3, 1) := by decide +kernel
theorem dX5_rolls_25 : decode cX5_rolls 25 = .ok (.iload_n 2, 1) := by decide +kernel
theorem dX5_rolls_26 : decode cX5_rolls 26 = .ok (.iload_n 3, 1) := by decide +kernel
theorem dX5_rolls_27 : decode cX5_rolls 27 = .ok (.ifCond .eq 9, 3) := by decide +kernel
theorem dX5_rolls_30 : decode cX5_rolls 30 = .ok (.iload_n 2, 1) := by decide +kernel
theorem dX5_rolls_31 : decode cX5_rolls 31 = .ok (.iconst 2, 1) := by decide +kernel
theorem dX5_rolls_32 : decode cX5_rolls 32 = .ok (.idiv, 1) := by decide +kernel
theorem dX5_rolls_33 : decode cX5_rolls 33 = .ok (.goto 4, 3) := by decide +kernel
theorem dX5_rolls_36 : decode cX5_rolls 36 = .ok (.iconst 0, 1) := by decide +kernel
theorem dX5_rolls_37 : decode cX5_rolls 37 = .ok (.iadd, 1) := by decide +kernel
theorem dX5_rolls_38 : decode cX5_rolls 38 = .ok (.istore 4, 2) := by decide +kernel
theorem dX5_rolls_40 : decode cX5_rolls 40 = .ok (.aload_n 0, 1) := by decide +kernel
theorem dX5_rolls_41 : decode cX5_rolls 41 = .ok (.getfield 25, 3) := by decide +kernel
theorem dX5_rolls_44 : decode cX5_rolls 44 = .ok (.iload_n 1, 1) := by decide +kernel
theorem dX5_rolls_45 : decode cX5_rolls 45 = .ok (.dup2, 1) := by decide +kernel
theorem dX5_rolls_46 : decode cX5_rolls 46 = .ok (.iaload, 1) := by decide +kernel
theorem dX5_rolls_47 : decode cX5_rolls 47 = .ok (.iload_n 3, 1) := by decide +kernel
theorem dX5_rolls_48 : decode cX5_rolls 48 = .ok (.ifCond .eq 7, 3) := by decide +kernel
theorem dX5_rolls_51 : decode cX5_rolls 51 = .ok (.iconst 1, 1) := by decide +kernel
theorem dX5_rolls_52 : decode cX5_rolls 52 = .ok (.goto 4, 3) := by decide +kernel
theorem dX5_rolls_55 : decode cX5_rolls 55 = .ok (.iconst 0, 1) := by decide +kernel
theorem dX5_rolls_56 : decode cX5_rolls 56 = .ok (.iadd, 1) := by decide +kernel
theorem dX5_rolls_57 : decode cX5_rolls 57 = .ok (.iastore, 1) := by decide +kernel
theorem dX5_rolls_58 : decode cX5_rolls 58 = .ok (.aload_n 0, 1) := by decide +kernel
theorem dX5_rolls_59 : decode cX5_rolls 59 = .ok (.iload_n 1, 1) := by decide +kernel
theorem dX5_rolls_60 : decode cX5_rolls 60 = .ok (.iconst 1, 1) := by decide +kernel
theorem dX5_rolls_61 : decode cX5_rolls 61 = .ok (.isub, 1) := by decide +kernel
theorem dX5_rolls_62 : decode cX5_rolls 62 = .ok (.invokevirtual 102, 3) := by decide +kernel
theorem dX5_rolls_65 : decode cX5_rolls 65 = .ok (.istore 5, 2) := by decide +kernel
theorem dX5_rolls_67 : decode cX5_rolls 67 = .ok (.aload_n 0, 1) := by decide +kernel
theorem dX5_rolls_68 : decode cX5_rolls 68 = .ok (.iload_n 1, 1) := by decide +kernel
theorem dX5_rolls_69 : decode cX5_rolls 69 = .ok (.invokevirtual 102, 3) := by decide +kernel
theorem dX5_rolls_72 : decode cX5_rolls 72 = .ok (.istore 6, 2) := by decide +kernel
theorem dX5_rolls_74 : decode cX5_rolls 74 = .ok (.aload_n 0, 1) := by decide +kernel
theorem dX5_rolls_75 : decode cX5_rolls 75 = .ok (.iload_n 1, 1) := by decide +kernel
theorem dX5_rolls_76 : decode cX5_rolls 76 = .ok (.iconst 1, 1) := by decide +kernel
theorem dX5_rolls_77 : decode cX5_rolls 77 = .ok (.iadd, 1) := by decide +kernel
theorem dX5_rolls_78 : decode cX5_rolls 78 = .ok (.invokevirtual 102, 3) := by decide +kernel
theorem dX5_rolls_81 : decode cX5_rolls 81 = .ok (.istore 7, 2) := by decide +kernel
theorem dX5_rolls_83 : decode cX5_rolls 83 = .ok (.iload 5, 2) := by decide +kernel
theorem dX5_rolls_85 : decode cX5_rolls 85 = .ok (.ifCond .eq 7, 3) := by decide +kernel
theorem dX5_rolls_88 : decode cX5_rolls 88 = .ok (.iconst 1, 1) := by decide +kernel
theorem dX5_rolls_89 : decode cX5_rolls 89 = .ok (.goto 4, 3) := by decide +kernel
theorem dX5_rolls_92 : decode cX5_rolls 92 = .ok (.iconst 0, 1) := by decide +kernel
theorem dX5_rolls_93 : decode cX5_rolls 93 = .ok (.iload 6, 2) := by decide +kernel
theorem dX5_rolls_95 : decode cX5_rolls 95 = .ok (.ifCond .eq 7, 3) := by decide +kernel
theorem dX5_rolls_98 : decode cX5_rolls 98 = .ok (.iconst 2, 1) := by decide +kernel
theorem dX5_rolls_99 : decode cX5_rolls 99 = .ok (.goto 4, 3) := by decide +kernel
theorem dX5_rolls_102 : decode cX5_rolls 102 = .ok (.iconst 0, 1) := by decide +kernel
theorem dX5_rolls_103 : decode cX5_rolls 103 = .ok (.iadd, 1) := by decide +kernel
theorem dX5_rolls_104 : decode cX5_rolls 104 = .ok (.iload 7, 2) := by decide +kernel
theorem dX5_rolls_106 : decode cX5_rolls 106 = .ok (.ifCond .eq 7, 3) := by decide +kernel
theorem dX5_rolls_109 : decode cX5_rolls 109 = .ok (.iconst 1, 1) := by decide +kernel
theorem dX5_rolls_110 : decode cX5_rolls 110 = .ok (.goto 4, 3) := by decide +kernel
theorem dX5_rolls_113 : decode cX5_rolls 113 = .ok (.iconst 0, 1) := by decide +kernel
theorem dX5_rolls_114 : decode cX5_rolls 114 = .ok (.iadd, 1) := by decide +kernel
theorem dX5_rolls_115 : decode cX5_rolls 115 = .ok (.istore 8, 2) := by decide +kernel
theorem dX5_rolls_117 : decode cX5_rolls 117 = .ok (.iconst 0, 1) := by decide +kernel
theorem dX5_rolls_118 : decode cX5_rolls 118 = .ok (.istore 9, 2) := by decide +kernel
theorem dX5_rolls_120 : decode cX5_rolls 120 = .ok (.iload 5, 2) := by decide +kernel
theorem dX5_rolls_122 : decode cX5_rolls 122 = .ok (.ifCond .eq 20, 3) := by decide +kernel
theorem dX5_rolls_125 : decode cX5_rolls 125 = .ok (.iload 9, 2) := by decide +kernel
theorem dX5_rolls_127 : decode cX5_rolls 127 = .ok (.aload_n 0, 1) := by decide +kernel
theorem dX5_rolls_128 : decode cX5_rolls 128 = .ok (.iload_n 1, 1) := by decide +kernel
theorem dX5_rolls_129 : decode cX5_rolls 129 = .ok (.iconst 1, 1) := by decide +kernel
theorem dX5_rolls_130 : decode cX5_rolls 130 = .ok (.isub, 1) := by decide +kernel
theorem dX5_rolls_131 : decode cX5_rolls 131 = .ok (.iload 4, 2) := by decide +kernel
theorem dX5_rolls_133 : decode cX5_rolls 133 = .ok (.iload 8, 2) := by decide +kernel
theorem dX5_rolls_135 : decode cX5_rolls 135 = .ok (.idiv, 1) := by decide +kernel
theorem dX5_rolls_136 : decode cX5_rolls 136 = .ok (.invokevirtual 105, 3) := by decide +kernel
theorem dX5_rolls_139 : decode cX5_rolls 139 = .ok (.iadd, 1) := by decide +kernel
theorem dX5_rolls_140 : decode cX5_rolls 140 = .ok (.istore 9, 2) := by decide +kernel
theorem dX5_rolls_142 : decode cX5_rolls 142 = .ok (.iload 6, 2) := by decide +kernel
theorem dX5_rolls_144 : decode cX5_rolls 144 = .ok (.ifCond .eq 20, 3) := by decide +kernel
theorem dX5_rolls_147 : decode cX5_rolls 147 = .ok (.iload 9, 2) := by decide +kernel
theorem dX5_rolls_149 : decode cX5_rolls 149 = .ok (.aload_n 0, 1) := by decide +kernel
theorem dX5_rolls_150 : decode cX5_rolls 150 = .ok (.iload_n 1, 1) := by decide +kernel
theorem dX5_rolls_151 : decode cX5_rolls 151 = .ok (.iconst 2, 1) := by decide +kernel
theorem dX5_rolls_152 : decode cX5_rolls 152 = .ok (.iload 4, 2) := by decide +kernel
theorem dX5_rolls_154 : decode cX5_rolls 154 = .ok (.imul, 1) := by decide +kernel
theorem dX5_rolls_155 : decode cX5_rolls 155 = .ok (.iload 8, 2) := by decide +kernel
theorem dX5_rolls_157 : decode cX5_rolls 157 = .ok (.idiv, 1) := by decide +kernel
theorem dX5_rolls_158 : decode cX5_rolls 158 = .ok (.invokevirtual 105, 3) := by decide +kernel
theorem dX5_rolls_161 : decode cX5_rolls 161 = .ok (.iadd, 1) := by decide +kernel
theorem dX5_rolls_162 : decode cX5_rolls 162 = .ok (.istore 9, 2) := by decide +kernel
theorem dX5_rolls_164 : decode cX5_rolls 164 = .ok (.iload 7, 2) := by decide +kernel
theorem dX5_rolls_166 : decode cX5_rolls 166 = .ok (.ifCond .eq 20, 3) := by decide +kernel
theorem dX5_rolls_169 : decode cX5_rolls 169 = .ok (.iload 9, 2) := by decide +kernel
theorem dX5_rolls_171 : decode cX5_rolls 171 = .ok (.aload_n 0, 1) := by decide +kernel
theorem dX5_rolls_172 : decode cX5_rolls 172 = .ok (.iload_n 1, 1) := by decide +kernel
theorem dX5_rolls_173 : decode cX5_rolls 173 = .ok (.iconst 1, 1) := by decide +kernel
theorem dX5_rolls_174 : decode cX5_rolls 174 = .ok (.iadd, 1) := by decide +kernel
theorem dX5_rolls_175 : decode cX5_rolls 175 = .ok (.iload 4, 2) := by decide +kernel
theorem dX5_rolls_177 : decode cX5_rolls 177 = .ok (.iload 8, 2) := by decide +kernel
theorem dX5_rolls_179 : decode cX5_rolls 179 = .ok (.idiv, 1) := by decide +kernel
theorem dX5_rolls_180 : decode cX5_rolls 180 = .ok (.invokevirtual 105, 3) := by decide +kernel
theorem dX5_rolls_183 : decode cX5_rolls 183 = .ok (.iadd, 1) := by decide +kernel
theorem dX5_rolls_184 : decode cX5_rolls 184 = .ok (.istore 9, 2) := by decide +kernel
theorem dX5_rolls_186 : decode cX5_rolls 186 = .ok (.iload 9, 2) := by decide +kernel
theorem dX5_rolls_188 : decode cX5_rolls 188 = .ok (.ireturn, 1) := by decide +kernel
theorem dX5_pass_0 : decode cX5_pass 0 = .ok (.iload_n 1, 1) := by decide +kernel
theorem dX5_pass_1 : decode cX5_pass 1 = .ok (.iconst 0, 1) := by decide +kernel
theorem dX5_pass_2 : decode cX5_pass 2 = .ok (.bipush 50, 2) := by decide +kernel
theorem dX5_pass_4 : decode cX5_pass 4 = .ok (.invokestatic 68, 3) := by decide +kernel
theorem dX5_pass_7 : decode cX5_pass 7 = .ok (.ifCond .ne 5, 3) := by decide +kernel
theorem dX5_pass_10 : decode cX5_pass 10 = .ok (.iconst (-1), 1) := by decide +kernel
theorem dX5_pass_11 : decode cX5_pass 11 = .ok (.ireturn, 1) := by decide +kernel
theorem dX5_pass_12 : decode cX5_pass 12 = .ok (.aload_n 0, 1) := by decide +kernel
theorem dX5_pass_13 : decode cX5_pass 13 = .ok (.getfield 99, 3) := by decide +kernel
theorem dX5_pass_16 : decode cX5_pass 16 = .ok (.ifCond .ne 6, 3) := by decide +kernel
theorem dX5_pass_19 : decode cX5_pass 19 = .ok (.bipush (-4), 2) := by decide +kernel
theorem dX5_pass_21 : decode cX5_pass 21 = .ok (.ireturn, 1) := by decide +kernel
theorem dX5_pass_22 : decode cX5_pass 22 = .ok (.iconst 0, 1) := by decide +kernel
theorem dX5_pass_23 : decode cX5_pass 23 = .ok (.istore_n 2, 1) := by decide +kernel
theorem dX5_pass_24 : decode cX5_pass 24 = .ok (.iconst 0, 1) := by decide +kernel
theorem dX5_pass_25 : decode cX5_pass 25 = .ok (.istore_n 3, 1) := by decide +kernel
theorem dX5_pass_26 : decode cX5_pass 26 = .ok (.iload_n 3, 1) := by decide +kernel
theorem dX5_pass_27 : decode cX5_pass 27 = .ok (.iload_n 1, 1) := by decide +kernel
theorem dX5_pass_28 : decode cX5_pass 28 = .ok (.if_icmp .ge 61, 3) := by decide +kernel
theorem dX5_pass_31 : decode cX5_pass 31 = .ok (.iconst 0, 1) := by decide +kernel
theorem dX5_pass_32 : decode cX5_pass 32 = .ok (.istore 4, 2) := by decide +kernel
theorem dX5_pass_34 : decode cX5_pass 34 = .ok (.iload 4, 2) := by decide +kernel
theorem dX5_pass_36 : decode cX5_pass 36 = .ok (.aload_n 0, 1) := by decide +kernel
theorem dX5_pass_37 : decode cX5_pass 37 = .ok (.getfield 72, 3) := by decide +kernel
theorem dX5_pass_40 : decode cX5_pass 40 = .ok (.if_icmp .ge 43, 3) := by decide +kernel
theorem dX5_pass_43 : decode cX5_pass 43 = .ok (.iconst 0, 1) := by decide +kernel
theorem dX5_pass_44 : decode cX5_pass 44 = .ok (.istore 5, 2) := by decide +kernel
theorem dX5_pass_46 : decode cX5_pass 46 = .ok (.iload 5, 2) := by decide +kernel
theorem dX5_pass_48 : decode cX5_pass 48 = .ok (.aload_n 0, 1) := by decide +kernel
theorem dX5_pass_49 : decode cX5_pass 49 = .ok (.getfield 99, 3) := by decide +kernel
theorem dX5_pass_52 : decode cX5_pass 52 = .ok (.if_icmp .ge 25, 3) := by decide +kernel
theorem dX5_pass_55 : decode cX5_pass 55 = .ok (.iload_n 2, 1) := by decide +kernel
theorem dX5_pass_56 : decode cX5_pass 56 = .ok (.aload_n 0, 1) := by decide +kernel
theorem dX5_pass_57 : decode cX5_pass 57 = .ok (.iload 4, 2) := by decide +kernel
theorem dX5_pass_59 : decode cX5_pass 59 = .ok (.aload_n 0, 1) := by decide +kernel
theorem dX5_pass_60 : decode cX5_pass 60 = .ok (.getfield 35, 3) := by decide +kernel
theorem dX5_pass_63 : decode cX5_pass 63 = .ok (.iload 5, 2) := by decide +kernel
theorem dX5_pass_65 : decode cX5_pass 65 = .ok (.iaload, 1) := by decide +kernel
theorem dX5_pass_66 : decode cX5_pass 66 = .ok (.invokevirtual 108, 3) := by decide +kernel
theorem dX5_pass_69 : decode cX5_pass 69 = .ok (.iadd, 1) := by decide +kernel
theorem dX5_pass_70 : decode cX5_pass 70 = .ok (.istore_n 2, 1) := by decide +kernel
theorem dX5_pass_71 : decode cX5_pass 71 = .ok (.iinc 5 1, 3) := by decide +kernel
theorem dX5_pass_74 : decode cX5_pass 74 = .ok (.goto (-28), 3) := by decide +kernel
theorem dX5_pass_77 : decode cX5_pass 77 = .ok (.iinc 4 1, 3) := by decide +kernel
theorem dX5_pass_80 : decode cX5_pass 80 = .ok (.goto (-46), 3) := by decide +kernel
theorem dX5_pass_83 : decode cX5_pass 83 = .ok (.iinc 3 1, 3) := by decide +kernel
theorem dX5_pass_86 : decode cX5_pass 86 = .ok (.goto (-60), 3) := by decide +kernel
theorem dX5_pass_89 : decode cX5_pass 89 = .ok (.iload_n 2, 1) := by decide +kernel
theorem dX5_pass_90 : decode cX5_pass 90 = .ok (.ireturn, 1) := by decide +kernel
theorem dX5_mean_0 : decode cX5_mean 0 = .ok (.lconst 0, 1) := by decide +kernel
theorem dX5_mean_1 : decode cX5_mean 1 = .ok (.lstore_n 1, 1) := by decide +kernel
theorem dX5_mean_2 : decode cX5_mean 2 = .ok (.iconst 0, 1) := by decide +kernel
theorem dX5_mean_3 : decode cX5_mean 3 = .ok (.istore_n 3, 1) := by decide +kernel
theorem dX5_mean_4 : decode cX5_mean 4 = .ok (.iconst 0, 1) := by decide +kernel
theorem dX5_mean_5 : decode cX5_mean 5 = .ok (.istore 4, 2) := by decide +kernel
theorem dX5_mean_7 : decode cX5_mean 7 = .ok (.iload 4, 2) := by decide +kernel
theorem dX5_mean_9 : decode cX5_mean 9 = .ok (.aload_n 0, 1) := by decide +kernel
theorem dX5_mean_10 : decode cX5_mean 10 = .ok (.getfield 72, 3) := by decide +kernel
theorem dX5_mean_13 : decode cX5_mean 13 = .ok (.if_icmp .ge 52, 3) := by decide +kernel
theorem dX5_mean_16 : decode cX5_mean 16 = .ok (.lload_n 1, 1) := by decide +kernel
theorem dX5_mean_17 : decode cX5_mean 17 = .ok (.aload_n 0, 1) := by decide +kernel
theorem dX5_mean_18 : decode cX5_mean 18 = .ok (.getfield 28, 3) := by decide +kernel
theorem dX5_mean_21 : decode cX5_mean 21 = .ok (.iload 4, 2) := by decide +kernel
theorem dX5_mean_23 : decode cX5_mean 23 = .ok (.baload, 1) := by decide +kernel
theorem dX5_mean_24 : decode cX5_mean 24 = .ok (.ifCond .eq 7, 3) := by decide +kernel
theorem dX5_mean_27 : decode cX5_mean 27 = .ok (.lconst 0, 1) := by decide +kernel
theorem dX5_mean_28 : decode cX5_mean 28 = .ok (.goto 11, 3) := by decide +kernel
theorem dX5_mean_31 : decode cX5_mean 31 = .ok (.aload_n 0, 1) := by decide +kernel
theorem dX5_mean_32 : decode cX5_mean 32 = .ok (.getfield 16, 3) := by decide +kernel
theorem dX5_mean_35 : decode cX5_mean 35 = .ok (.iload 4, 2) := by decide +kernel
theorem dX5_mean_37 : decode cX5_mean 37 = .ok (.iaload, 1) := by decide +kernel
theorem dX5_mean_38 : decode cX5_mean 38 = .ok (.i2l, 1) := by decide +kernel
theorem dX5_mean_39 : decode cX5_mean 39 = .ok (.ladd, 1) := by decide +kernel
theorem dX5_mean_40 : decode cX5_mean 40 = .ok (.lstore_n 1, 1) := by decide +kernel
theorem dX5_mean_41 : decode cX5_mean 41 = .ok (.iload_n 3, 1) := by decide +kernel
theorem dX5_mean_42 : decode cX5_mean 42 = .ok (.aload_n 0, 1) := by decide +kernel
theorem dX5_mean_43 : decode cX5_mean 43 = .ok (.getfield 28, 3) := by decide +kernel
theorem dX5_mean_46 : decode cX5_mean 46 = .ok (.iload 4, 2) := by decide +kernel
theorem dX5_mean_48 : decode cX5_mean 48 = .ok (.baload, 1) := by decide +kernel
theorem dX5_mean_49 : decode cX5_mean 49 = .ok (.ifCond .eq 7, 3) := by decide +kernel
theorem dX5_mean_52 : decode cX5_mean 52 = .ok (.iconst 0, 1) := by decide +kernel
theorem dX5_mean_53 : decode cX5_mean 53 = .ok (.goto 4, 3) := by decide +kernel
theorem dX5_mean_56 : decode cX5_mean 56 = .ok (.iconst 1, 1) := by decide +kernel
theorem dX5_mean_57 : decode cX5_mean 57 = .ok (.iadd, 1) := by decide +kernel
theorem dX5_mean_58 : decode cX5_mean 58 = .ok (.istore_n 3, 1) := by decide +kernel
theorem dX5_mean_59 : decode cX5_mean 59 = .ok (.iinc 4 1, 3) := by decide +kernel
theorem dX5_mean_62 : decode cX5_mean 62 = .ok (.goto (-55), 3) := by decide +kernel
theorem dX5_mean_65 : decode cX5_mean 65 = .ok (.iload_n 3, 1) := by decide +kernel
theorem dX5_mean_66 : decode cX5_mean 66 = .ok (.ifCond .ne 11, 3) := by decide +kernel
theorem dX5_mean_69 : decode cX5_mean 69 = .ok (.aload_n 0, 1) := by decide +kernel
theorem dX5_mean_70 : decode cX5_mean 70 = .ok (.iconst 4, 1) := by decide +kernel
theorem dX5_mean_71 : decode cX5_mean 71 = .ok (.invokevirtual 79, 3) := by decide +kernel
theorem dX5_mean_74 : decode cX5_mean 74 = .ok (.goto 14, 3) := by decide +kernel
theorem dX5_mean_77 : decode cX5_mean 77 = .ok (.aload_n 0, 1) := by decide +kernel
theorem dX5_mean_78 : decode cX5_mean 78 = .ok (.lload_n 1, 1) := by decide +kernel
theorem dX5_mean_79 : decode cX5_mean 79 = .ok (.iload_n 3, 1) := by decide +kernel
theorem dX5_mean_80 : decode cX5_mean 80 = .ok (.invokestatic 89, 3) := by decide +kernel
theorem dX5_mean_83 : decode cX5_mean 83 = .ok (.i2l, 1) := by decide +kernel
theorem dX5_mean_84 : decode cX5_mean 84 = .ok (.iconst 1, 1) := by decide +kernel
theorem dX5_mean_85 : decode cX5_mean 85 = .ok (.invokevirtual 96, 3) := by decide +kernel
theorem dX5_mean_88 : decode cX5_mean 88 = .ok (.ireturn, 1) := by decide +kernel
theorem dX5_lift_0 : decode cX5_lift 0 = .ok (.aload_n 0, 1) := by decide +kernel
theorem dX5_lift_1 : decode cX5_lift 1 = .ok (.iload_n 1, 1) := by decide +kernel
theorem dX5_lift_2 : decode cX5_lift 2 = .ok (.invokevirtual 75, 3) := by decide +kernel
theorem dX5_lift_5 : decode cX5_lift 5 = .ok (.ifCond .eq 29, 3) := by decide +kernel
theorem dX5_lift_8 : decode cX5_lift 8 = .ok (.aload_n 0, 1) := by decide +kernel
theorem dX5_lift_9 : decode cX5_lift 9 = .ok (.iload_n 2, 1) := by decide +kernel
theorem dX5_lift_10 : decode cX5_lift 10 = .ok (.invokevirtual 75, 3) := by decide +kernel
theorem dX5_lift_13 : decode cX5_lift 13 = .ok (.ifCond .eq 21, 3) := by decide +kernel
theorem dX5_lift_16 : decode cX5_lift 16 = .ok (.iload_n 1, 1) := by decide +kernel
theorem dX5_lift_17 : decode cX5_lift 17 = .ok (.iload_n 2, 1) := by decide +kernel
theorem dX5_lift_18 : decode cX5_lift 18 = .ok (.if_icmp .gt 16, 3) := by decide +kernel
theorem dX5_lift_21 : decode cX5_lift 21 = .ok (.iload_n 3, 1) := by decide +kernel
theorem dX5_lift_22 : decode cX5_lift 22 = .ok (.sipush (-10000), 3) := by decide +kernel
theorem dX5_lift_25 : decode cX5_lift 25 = .ok (.sipush 10000, 3) := by decide +kernel
