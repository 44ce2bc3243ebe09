theorem dX4_bed_44 : decode cX4_bed 44 = .ok (.aload_n 0, 1) := by decide +kernel
theorem dX4_bed_45 : decode cX4_bed 45 = .ok (.getfield 10, 3) := by decide +kernel
theorem dX4_bed_48 : decode cX4_bed 48 = .ok (.getfield 79, 3) := by decide +kernel
theorem dX4_bed_51 : decode cX4_bed 51 = .ok (.iload_n 1, 1) := by decide +kernel
theorem dX4_bed_52 : decode cX4_bed 52 = .ok (.iaload, 1) := by decide +kernel
theorem dX4_bed_53 : decode cX4_bed 53 = .ok (.istore_n 3, 1) := by decide +kernel
theorem dX4_bed_54 : decode cX4_bed 54 = .ok (.aload_n 0, 1) := by decide +kernel
theorem dX4_bed_55 : decode cX4_bed 55 = .ok (.getfield 10, 3) := by decide +kernel
theorem dX4_bed_58 : decode cX4_bed 58 = .ok (.iload_n 1, 1) := by decide +kernel
theorem dX4_bed_59 : decode cX4_bed 59 = .ok (.iload_n 2, 1) := by decide +kernel
theorem dX4_bed_60 : decode cX4_bed 60 = .ok (.invokevirtual 82, 3) := by decide +kernel
theorem dX4_bed_63 : decode cX4_bed 63 = .ok (.aload_n 0, 1) := by decide +kernel
theorem dX4_bed_64 : decode cX4_bed 64 = .ok (.iload_n 3, 1) := by decide +kernel
theorem dX4_bed_65 : decode cX4_bed 65 = .ok (.i2l, 1) := by decide +kernel
theorem dX4_bed_66 : decode cX4_bed 66 = .ok (.invokevirtual 86, 3) := by decide +kernel
theorem dX4_bed_69 : decode cX4_bed 69 = .ok (.ireturn, 1) := by decide +kernel
theorem dX4_stones_0 : decode cX4_stones 0 = .ok (.aload_n 0, 1) := by decide +kernel
theorem dX4_stones_1 : decode cX4_stones 1 = .ok (.getfield 10, 3) := by decide +kernel
theorem dX4_stones_4 : decode cX4_stones 4 = .ok (.iload_n 1, 1) := by decide +kernel
theorem dX4_stones_5 : decode cX4_stones 5 = .ok (.invokevirtual 60, 3) := by decide +kernel
theorem dX4_stones_8 : decode cX4_stones 8 = .ok (.ifCond .eq 13, 3) := by decide +kernel
theorem dX4_stones_11 : decode cX4_stones 11 = .ok (.iload_n 2, 1) := by decide +kernel
theorem dX4_stones_12 : decode cX4_stones 12 = .ok (.iconst 1, 1) := by decide +kernel
theorem dX4_stones_13 : decode cX4_stones 13 = .ok (.bipush 9, 2) := by decide +kernel
theorem dX4_stones_15 : decode cX4_stones 15 = .ok (.invokestatic 52, 3) := by decide +kernel
theorem dX4_stones_18 : decode cX4_stones 18 = .ok (.ifCond .ne 5, 3) := by decide +kernel
theorem dX4_stones_21 : decode cX4_stones 21 = .ok (.iconst (-1), 1) := by decide +kernel
theorem dX4_stones_22 : decode cX4_stones 22 = .ok (.ireturn, 1) := by decide +kernel
theorem dX4_stones_23 : decode cX4_stones 23 = .ok (.aload_n 0, 1) := by decide +kernel
theorem dX4_stones_24 : decode cX4_stones 24 = .ok (.getfield 10, 3) := by decide +kernel
theorem dX4_stones_27 : decode cX4_stones 27 = .ok (.getfield 71, 3) := by decide +kernel
theorem dX4_stones_30 : decode cX4_stones 30 = .ok (.iload_n 1, 1) := by decide +kernel
theorem dX4_stones_31 : decode cX4_stones 31 = .ok (.baload, 1) := by decide +kernel
theorem dX4_stones_32 : decode cX4_stones 32 = .ok (.ifCond .eq 9, 3) := by decide +kernel
theorem dX4_stones_35 : decode cX4_stones 35 = .ok (.aload_n 0, 1) := by decide +kernel
theorem dX4_stones_36 : decode cX4_stones 36 = .ok (.iconst 1, 1) := by decide +kernel
theorem dX4_stones_37 : decode cX4_stones 37 = .ok (.invokevirtual 75, 3) := by decide +kernel
theorem dX4_stones_40 : decode cX4_stones 40 = .ok (.ireturn, 1) := by decide +kernel
theorem dX4_stones_41 : decode cX4_stones 41 = .ok (.aload_n 0, 1) := by decide +kernel
theorem dX4_stones_42 : decode cX4_stones 42 = .ok (.getfield 10, 3) := by decide +kernel
theorem dX4_stones_45 : decode cX4_stones 45 = .ok (.getfield 90, 3) := by decide +kernel
theorem dX4_stones_48 : decode cX4_stones 48 = .ok (.iload_n 1, 1) := by decide +kernel
theorem dX4_stones_49 : decode cX4_stones 49 = .ok (.iaload, 1) := by decide +kernel
theorem dX4_stones_50 : decode cX4_stones 50 = .ok (.istore_n 3, 1) := by decide +kernel
theorem dX4_stones_51 : decode cX4_stones 51 = .ok (.aload_n 0, 1) := by decide +kernel
theorem dX4_stones_52 : decode cX4_stones 52 = .ok (.getfield 10, 3) := by decide +kernel
theorem dX4_stones_55 : decode cX4_stones 55 = .ok (.getfield 90, 3) := by decide +kernel
theorem dX4_stones_58 : decode cX4_stones 58 = .ok (.iload_n 1, 1) := by decide +kernel
theorem dX4_stones_59 : decode cX4_stones 59 = .ok (.iload_n 2, 1) := by decide +kernel
theorem dX4_stones_60 : decode cX4_stones 60 = .ok (.iastore, 1) := by decide +kernel
theorem dX4_stones_61 : decode cX4_stones 61 = .ok (.iload_n 3, 1) := by decide +kernel
theorem dX4_stones_62 : decode cX4_stones 62 = .ok (.ireturn, 1) := by decide +kernel
theorem dX4_told_0 : decode cX4_told 0 = .ok (.aload_n 0, 1) := by decide +kernel
theorem dX4_told_1 : decode cX4_told 1 = .ok (.getfield 10, 3) := by decide +kernel
theorem dX4_told_4 : decode cX4_told 4 = .ok (.iload_n 1, 1) := by decide +kernel
theorem dX4_told_5 : decode cX4_told 5 = .ok (.invokevirtual 60, 3) := by decide +kernel
theorem dX4_told_8 : decode cX4_told 8 = .ok (.ifCond .ne 5, 3) := by decide +kernel
theorem dX4_told_11 : decode cX4_told 11 = .ok (.iconst (-1), 1) := by decide +kernel
theorem dX4_told_12 : decode cX4_told 12 = .ok (.ireturn, 1) := by decide +kernel
theorem dX4_told_13 : decode cX4_told 13 = .ok (.iload_n 2, 1) := by decide +kernel
theorem dX4_told_14 : decode cX4_told 14 = .ok (.tableswitch 78 0 3 #[30, 40, 50, 60], 30) := by decide +kernel
theorem dX4_told_44 : decode cX4_told 44 = .ok (.aload_n 0, 1) := by decide +kernel
theorem dX4_told_45 : decode cX4_told 45 = .ok (.getfield 10, 3) := by decide +kernel
theorem dX4_told_48 : decode cX4_told 48 = .ok (.getfield 64, 3) := by decide +kernel
theorem dX4_told_51 : decode cX4_told 51 = .ok (.iload_n 1, 1) := by decide +kernel
theorem dX4_told_52 : decode cX4_told 52 = .ok (.iaload, 1) := by decide +kernel
theorem dX4_told_53 : decode cX4_told 53 = .ok (.ireturn, 1) := by decide +kernel
theorem dX4_told_54 : decode cX4_told 54 = .ok (.aload_n 0, 1) := by decide +kernel
theorem dX4_told_55 : decode cX4_told 55 = .ok (.getfield 10, 3) := by decide +kernel
theorem dX4_told_58 : decode cX4_told 58 = .ok (.getfield 90, 3) := by decide +kernel
theorem dX4_told_61 : decode cX4_told 61 = .ok (.iload_n 1, 1) := by decide +kernel
theorem dX4_told_62 : decode cX4_told 62 = .ok (.iaload, 1) := by decide +kernel
theorem dX4_told_63 : decode cX4_told 63 = .ok (.ireturn, 1) := by decide +kernel
theorem dX4_told_64 : decode cX4_told 64 = .ok (.aload_n 0, 1) := by decide +kernel
theorem dX4_told_65 : decode cX4_told 65 = .ok (.getfield 10, 3) := by decide +kernel
theorem dX4_told_68 : decode cX4_told 68 = .ok (.getfield 93, 3) := by decide +kernel
theorem dX4_told_71 : decode cX4_told 71 = .ok (.iload_n 1, 1) := by decide +kernel
theorem dX4_told_72 : decode cX4_told 72 = .ok (.iaload, 1) := by decide +kernel
theorem dX4_told_73 : decode cX4_told 73 = .ok (.ireturn, 1) := by decide +kernel
theorem dX4_told_74 : decode cX4_told 74 = .ok (.aload_n 0, 1) := by decide +kernel
theorem dX4_told_75 : decode cX4_told 75 = .ok (.getfield 10, 3) := by decide +kernel
theorem dX4_told_78 : decode cX4_told 78 = .ok (.getfield 71, 3) := by decide +kernel
theorem dX4_told_81 : decode cX4_told 81 = .ok (.iload_n 1, 1) := by decide +kernel
theorem dX4_told_82 : decode cX4_told 82 = .ok (.baload, 1) := by decide +kernel
theorem dX4_told_83 : decode cX4_told 83 = .ok (.ifCond .eq 7, 3) := by decide +kernel
theorem dX4_told_86 : decode cX4_told 86 = .ok (.iconst 1, 1) := by decide +kernel
theorem dX4_told_87 : decode cX4_told 87 = .ok (.goto 4, 3) := by decide +kernel
theorem dX4_told_90 : decode cX4_told 90 = .ok (.iconst 0, 1) := by decide +kernel
theorem dX4_told_91 : decode cX4_told 91 = .ok (.ireturn, 1) := by decide +kernel
theorem dX4_told_92 : decode cX4_told 92 = .ok (.iconst (-1), 1) := by decide +kernel
theorem dX4_told_93 : decode cX4_told 93 = .ok (.ireturn, 1) := by decide +kernel
theorem dX4_mark_0 : decode cX4_mark 0 = .ok (.aload_n 0, 1) := by decide +kernel
theorem dX4_mark_1 : decode cX4_mark 1 = .ok (.getfield 10, 3) := by decide +kernel
theorem dX4_mark_4 : decode cX4_mark 4 = .ok (.iload_n 1, 1) := by decide +kernel
theorem dX4_mark_5 : decode cX4_mark 5 = .ok (.invokevirtual 60, 3) := by decide +kernel
theorem dX4_mark_8 : decode cX4_mark 8 = .ok (.ifCond .eq 12, 3) := by decide +kernel
theorem dX4_mark_11 : decode cX4_mark 11 = .ok (.iload_n 2, 1) := by decide +kernel
theorem dX4_mark_12 : decode cX4_mark 12 = .ok (.iconst 1, 1) := by decide +kernel
theorem dX4_mark_13 : decode cX4_mark 13 = .ok (.iconst 3, 1) := by decide +kernel
theorem dX4_mark_14 : decode cX4_mark 14 = .ok (.invokestatic 52, 3) := by decide +kernel
theorem dX4_mark_17 : decode cX4_mark 17 = .ok (.ifCond .ne 5, 3) := by decide +kernel
theorem dX4_mark_20 : decode cX4_mark 20 = .ok (.iconst (-1), 1) := by decide +kernel
theorem dX4_mark_21 : decode cX4_mark 21 = .ok (.ireturn, 1) := by decide +kernel
theorem dX4_mark_22 : decode cX4_mark 22 = .ok (.aload_n 0, 1) := by decide +kernel
theorem dX4_mark_23 : decode cX4_mark 23 = .ok (.getfield 10, 3) := by decide +kernel
theorem dX4_mark_26 : decode cX4_mark 26 = .ok (.getfield 71, 3) := by decide +kernel
theorem dX4_mark_29 : decode cX4_mark 29 = .ok (.iload_n 1, 1) := by decide +kernel
theorem dX4_mark_30 : decode cX4_mark 30 = .ok (.baload, 1) := by decide +kernel
theorem dX4_mark_31 : decode cX4_mark 31 = .ok (.ifCond .eq 9, 3) := by decide +kernel
theorem dX4_mark_34 : decode cX4_mark 34 = .ok (.aload_n 0, 1) := by decide +kernel
theorem dX4_mark_35 : decode cX4_mark 35 = .ok (.iconst 1, 1) := by decide +kernel
theorem dX4_mark_36 : decode cX4_mark 36 = .ok (.invokevirtual 75, 3) := by decide +kernel
theorem dX4_mark_39 : decode cX4_mark 39 = .ok (.ireturn, 1) := by decide +kernel
theorem dX4_mark_40 : decode cX4_mark 40 = .ok (.aload_n 0, 1) := by decide +kernel
theorem dX4_mark_41 : decode cX4_mark 41 = .ok (.getfield 10, 3) := by decide +kernel
theorem dX4_mark_44 : decode cX4_mark 44 = .ok (.iload_n 1, 1) := by decide +kernel
theorem dX4_mark_45 : decode cX4_mark 45 = .ok (.iload_n 2, 1) := by decide +kernel
theorem dX4_mark_46 : decode cX4_mark 46 = .ok (.invokevirtual 96, 3) := by decide +kernel
theorem dX4_mark_49 : decode cX4_mark 49 = .ok (.ifCond .ne 9, 3) := by decide +kernel
theorem dX4_mark_52 : decode cX4_mark 52 = .ok (.aload_n 0, 1) := by decide +kernel
theorem dX4_mark_53 : decode cX4_mark 53 = .ok (.iconst 3, 1) := by decide +kernel
theorem dX4_mark_54 : decode cX4_mark 54 = .ok (.invokevirtual 75, 3) := by decide +kernel
theorem dX4_mark_57 : decode cX4_mark 57 = .ok (.ireturn, 1) := by decide +kernel
theorem dX4_mark_58 : decode cX4_mark 58 = .ok (.iload_n 2, 1) := by decide +kernel
theorem dX4_mark_59 : decode cX4_mark 59 = .ok (.lookupswitch 45 #[(1, 25), (2, 35)], 25) := by decide +kernel
theorem dX4_mark_84 : decode cX4_mark 84 = .ok (.aload_n 0, 1) := by decide +kernel
theorem dX4_mark_85 : decode cX4_mark 85 = .ok (.getfield 10, 3) := by decide +kernel
theorem dX4_mark_88 : decode cX4_mark 88 = .ok (.getfield 93, 3) := by decide +kernel
theorem dX4_mark_91 : decode cX4_mark 91 = .ok (.iload_n 1, 1) := by decide +kernel
theorem dX4_mark_92 : decode cX4_mark 92 = .ok (.iaload, 1) := by decide +kernel
theorem dX4_mark_93 : decode cX4_mark 93 = .ok (.ireturn, 1) := by decide +kernel
theorem dX4_mark_94 : decode cX4_mark 94 = .ok (.aload_n 0, 1) := by decide +kernel
theorem dX4_mark_95 : decode cX4_mark 95 = .ok (.getfield 10, 3) := by decide +kernel
theorem dX4_mark_98 : decode cX4_mark 98 = .ok (.getfield 90, 3) := by decide +kernel
theorem dX4_mark_101 : decode cX4_mark 101 = .ok (.iload_n 1, 1) := by decide +kernel
theorem dX4_mark_102 : decode cX4_mark 102 = .ok (.iaload, 1) := by decide +kernel
theorem dX4_mark_103 : decode cX4_mark 103 = .ok (.ireturn, 1) := by decide +kernel
theorem dX4_mark_104 : decode cX4_mark 104 = .ok (.aload_n 0, 1) := by decide +kernel
theorem dX4_mark_105 : decode cX4_mark 105 = .ok (.getfield 10, 3) := by decide +kernel
theorem dX4_mark_108 : decode cX4_mark 108 = .ok (.getfield 100, 3) := by decide +kernel
theorem dX4_mark_111 : decode cX4_mark 111 = .ok (.iload_n 1, 1) := by decide +kernel
theorem dX4_mark_112 : decode cX4_mark 112 = .ok (.iaload, 1) := by decide +kernel
theorem dX4_mark_113 : decode cX4_mark 113 = .ok (.ireturn, 1) := by decide +kernel
theorem dX4_rail_0 : decode cX4_rail 0 = .ok (.aload_n 0, 1) := by decide +kernel
theorem dX4_rail_1 : decode cX4_rail 1 = .ok (.getfield 10, 3) := by decide +kernel
theorem dX4_rail_4 : decode cX4_rail 4 = .ok (.iload_n 1, 1) := by decide +kernel
theorem dX4_rail_5 : decode cX4_rail 5 = .ok (.invokevirtual 60, 3) := by decide +kernel
theorem dX4_rail_8 : decode cX4_rail 8 = .ok (.ifCond .ne 5, 3) := by decide +kernel
theorem dX4_rail_11 : decode cX4_rail 11 = .ok (.iconst (-1), 1) := by decide +kernel
theorem dX4_rail_12 : decode cX4_rail 12 = .ok (.ireturn, 1) := by decide +kernel
theorem dX4_rail_13 : decode cX4_rail 13 = .ok (.aload_n 0, 1) := by decide +kernel
theorem dX4_rail_14 : decode cX4_rail 14 = .ok (.aload_n 0, 1) := by decide +kernel
theorem dX4_rail_15 : decode cX4_rail 15 = .ok (.getfield 10, 3) := by decide +kernel
theorem dX4_rail_18 : decode cX4_rail 18 = .ok (.iload_n 1, 1) := by decide +kernel
theorem dX4_rail_19 : decode cX4_rail 19 = .ok (.invokevirtual 103, 3) := by decide +kernel
theorem dX4_rail_22 : decode cX4_rail 22 = .ok (.i2l, 1) := by decide +kernel
theorem dX4_rail_23 : decode cX4_rail 23 = .ok (.invokevirtual 86, 3) := by decide +kernel
theorem dX4_rail_26 : decode cX4_rail 26 = .ok (.ireturn, 1) := by decide +kernel
theorem dX4_gap_0 : decode cX4_gap 0 = .ok (.aload_n 0, 1) := by decide +kernel
theorem dX4_gap_1 : decode cX4_gap 1 = .ok (.getfield 10, 3) := by decide +kernel
theorem dX4_gap_4 : decode cX4_gap 4 = .ok (.iload_n 1, 1) := by decide +kernel
theorem dX4_gap_5 : decode cX4_gap 5 = .ok (.invokevirtual 60, 3) := by decide +kernel
theorem dX4_gap_8 : decode cX4_gap 8 = .ok (.ifCond .ne 5, 3) := by decide +kernel
theorem dX4_gap_11 : decode cX4_gap 11 = .ok (.iconst (-1), 1) := by decide +kernel
theorem dX4_gap_12 : decode cX4_gap 12 = .ok (.ireturn, 1) := by decide +kernel
theorem dX4_gap_13 : decode cX4_gap 13 = .ok (.aload_n 0, 1) := by decide +kernel
theorem dX4_gap_14 : decode cX4_gap 14 = .ok (.getfield 10, 3) := by decide +kernel
theorem dX4_gap_17 : decode cX4_gap 17 = .ok (.getfield 71, 3) := by decide +kernel
theorem dX4_gap_20 : decode cX4_gap 20 = .ok (.iload_n 1, 1) := by decide +kernel
theorem dX4_gap_21 : decode cX4_gap 21 = .ok (.baload, 1) := by decide +kernel
theorem dX4_gap_22 : decode cX4_gap 22 = .ok (.ifCond .eq 9, 3) := by decide +kernel
theorem dX4_gap_25 : decode cX4_gap 25 = .ok (.aload_n 0, 1) := by decide +kernel
theorem dX4_gap_26 : decode cX4_gap 26 = .ok (.iconst 1, 1) := by decide +kernel
theorem dX4_gap_27 : decode cX4_gap 27 = .ok (.invokevirtual 75, 3) := by decide +kernel
theorem dX4_gap_30 : decode cX4_gap 30 = .ok (.ireturn, 1) := by decide +kernel
theorem dX4_gap_31 : decode cX4_gap 31 = .ok (.aload_n 0, 1) := by decide +kernel
theorem dX4_gap_32 : decode cX4_gap 32 = .ok (.getfield 10, 3) := by decide +kernel
theorem dX4_gap_35 : decode cX4_gap 35 = .ok (.iload_n 1, 1) := by decide +kernel
theorem dX4_gap_36 : decode cX4_gap 36 = .ok (.invokevirtual 103, 3) := by decide +kernel
theorem dX4_gap_39 : decode cX4_gap 39 = .ok (.aload_n 0, 1) := by decide +kernel
theorem dX4_gap_40 : decode cX4_gap 40 = .ok (.getfield 10, 3) := by decide +kernel
theorem dX4_gap_43 : decode cX4_gap 43 = .ok (.getfield 79, 3) := by decide +kernel
theorem dX4_gap_46 : decode cX4_gap 46 = .ok (.iload_n 1, 1) := by decide +kernel
theorem dX4_gap_47 : decode cX4_gap 47 = .ok (.iaload, 1) := by decide +kernel
theorem dX4_gap_48 : decode cX4_gap 48 = .ok (.isub, 1) := by decide +kernel
theorem dX4_gap_49 : decode cX4_gap 49 = .ok (.ireturn, 1) := by decide +kernel
theorem dX4_axle_0 : decode cX4_axle 0 = .ok (.iload_n 1, 1) := by decide +kernel
theorem dX4_axle_1 : decode cX4_axle 1 = .ok (.iconst 1, 1) := by decide +kernel
theorem dX4_axle_2 : decode cX4_axle 2 = .ok (.sipush 250, 3) := by decide +kernel
theorem dX4_axle_5 : decode cX4_axle 5 = .ok (.invokestatic 52, 3) := by decide +kernel
theorem dX4_axle_8 : decode cX4_axle 8 = .ok (.ifCond .ne 5, 3) := by decide +kernel
theorem dX4_axle_11 : decode cX4_axle 11 = .ok (.iconst (-1), 1) := by decide +kernel
theorem dX4_axle_12 : decode cX4_axle 12 = .ok (.ireturn, 1) := by decide +kernel
theorem dX4_axle_13 : decode cX4_axle 13 = .ok (.aload_n 0, 1) := by decide +kernel
theorem dX4_axle_14 : decode cX4_axle 14 = .ok (.getfield 19, 3) := by decide +kernel
theorem dX4_axle_17 : decode cX4_axle 17 = .ok (.getfield 106, 3) := by decide +kernel
theorem dX4_axle_20 : decode cX4_axle 20 = .ok (.bipush 20, 2) := by decide +kernel
theorem dX4_axle_22 : decode cX4_axle 22 = .ok (.if_icmp .lt 6, 3) := by decide +kernel
theorem dX4_axle_25 : decode cX4_axle 25 = .ok (.bipush (-2), 2) := by decide +kernel
theorem dX4_axle_27 : decode cX4_axle 27 = .ok (.ireturn, 1) := by decide +kernel
theorem dX4_axle_28 : decode cX4_axle 28 = .ok (.aload_n 0, 1) := by decide +kernel
theorem dX4_axle_29 : decode cX4_axle 29 = .ok (.getfield 19, 3) := by decide +kernel
theorem dX4_axle_32 : decode cX4_axle 32 = .ok (.getfield 109, 3) := by decide +kernel
theorem dX4_axle_35 : decode cX4_axle 35 = .ok (.aload_n 0, 1) := by decide +kernel
theorem dX4_axle_36 : decode cX4_axle 36 = .ok (.getfield 19, 3) := by decide +kernel
theorem dX4_axle_39 : decode cX4_axle 39 = .ok (.getfield 106, 3) := by decide +kernel
theorem dX4_axle_42 : decode cX4_axle 42 = .ok (.iload_n 1, 1) := by decide +kernel
theorem dX4_axle_43 : decode cX4_axle 43 = .ok (.iastore, 1) := by decide +kernel
theorem dX4_axle_44 : decode cX4_axle 44 = .ok (.aload_n 0, 1) := by decide +kernel
theorem dX4_axle_45 : decode cX4_axle 45 = .ok (.getfield 19, 3) := by decide +kernel
theorem dX4_axle_48 : decode cX4_axle 48 = .ok (.dup, 1) := by decide +kernel
theorem dX4_axle_49 : decode cX4_axle 49 = .ok (.getfield 106, 3) := by decide +kernel
theorem dX4_axle_52 : decode cX4_axle 52 = .ok (.iconst 1, 1) := by decide +kernel
theorem dX4_axle_53 : decode cX4_axle 53 = .ok (.iadd, 1) := by decide +kernel
theorem dX4_axle_54 : decode cX4_axle 54 = .ok (.putfield 106, 3) := by decide +kernel
theorem dX4_axle_57 : decode cX4_axle 57 = .ok (.aload_n 0, 1) := by decide +kernel
theorem dX4_axle_58 : decode cX4_axle 58 = .ok (.getfield 19, 3) := by decide +kernel
theorem dX4_axle_61 : decode cX4_axle 61 = .ok (.getfield 106, 3) := by decide +kernel
theorem dX4_axle_64 : decode cX4_axle 64 = .ok (.ireturn, 1) := by decide +kernel
theorem dX4_uncouple_0 : decode cX4_uncouple 0 = .ok (.aload_n 0, 1) := by decide +kernel
theorem dX4_uncouple_1 : decode cX4_uncouple 1 = .ok (.getfield 19, 3) := by decide +kernel
theorem dX4_uncouple_4 : decode cX4_uncouple 4 = .ok (.getfield 106, 3) := by decide +kernel
theorem dX4_uncouple_7 : decode cX4_uncouple 7 = .ok (.istore_n 1, 1) := by decide +kernel
theorem dX4_uncouple_8 : decode cX4_uncouple 8 = .ok (.aload_n 0, 1) := by decide +kernel
theorem dX4_uncouple_9 : decode cX4_uncouple 9 = .ok (.getfield 19, 3) := by decide +kernel
theorem dX4_uncouple_12 : decode cX4_uncouple 12 = .ok (.iconst 0, 1) := by decide +kernel
theorem dX4_uncouple_13 : decode cX4_uncouple 13 = .ok (.putfield 106, 3) := by decide +kernel
theorem dX4_uncouple_16 : decode cX4_uncouple 16 = .ok (.iload_n 1, 1) := by decide +kernel
theorem dX4_uncouple_17 : decode cX4_uncouple 17 = .ok (.ireturn, 1) := by decide +kernel
theorem dX4_table_0 : decode cX4_table 0 = .ok (.iload_n 1, 1) := by decide +kernel
theorem dX4_table_1 : decode cX4_table 1 = .ok (.iconst 0, 1) := by decide +kernel
theorem dX4_table_2 : decode cX4_table 2 = .ok (.bipush 15, 2) := by decide +kernel
theorem dX4_table_4 : decode cX4_table 4 = .ok (.invokestatic 52, 3) := by decide +kernel
theorem dX4_table_7 : decode cX4_table 7 = .ok (.ifCond .ne 5, 3) := by decide +kernel
theorem dX4_table_10 : decode cX4_table 10 = .ok (.iconst (-1), 1) := by decide +kernel
theorem dX4_table_11 : decode cX4_table 11 = .ok (.ireturn, 1) := by decide +kernel
theorem dX4_table_12 : decode cX4_table 12 = .ok (.aload_n 0, 1) := by decide +kernel
theorem dX4_table_13 : decode cX4_table 13 = .ok (.getfield 19, 3) := by decide +kernel
theorem dX4_table_16 : decode cX4_table 16 = .ok (.getfield 112, 3) := by decide +kernel
theorem dX4_table_19 : decode cX4_table 19 = .ok (.iload_n 1, 1) := by decide +kernel
theorem dX4_table_20 : decode cX4_table 20 = .ok (.baload, 1) := by decide +kernel
theorem dX4_table_21 : decode cX4_table 21 = .ok (.istore_n 3, 1) := by decide +kernel
theorem dX4_table_22 : decode cX4_table 22 = .ok (.aload_n 0, 1) := by decide +kernel
theorem dX4_table_23 : decode cX4_table 23 = .ok (.getfield 19, 3) := by decide +kernel
theorem dX4_table_26 : decode cX4_table 26 = .ok (.getfield 112, 3) := by decide +kernel
theorem dX4_table_29 : decode cX4_table 29 = .ok (.iload_n 1, 1) := by decide +kernel
theorem dX4_table_30 : decode cX4_table 30 = .ok (.iload_n 2, 1) := by decide +kernel
theorem dX4_table_31 : decode cX4_table 31 = .ok (.i2b, 1) := by decide +kernel
theorem dX4_table_32 : decode cX4_table 32 = .ok (.bastore, 1) := by decide +kernel
theorem dX4_table_33 : decode cX4_table 33 = .ok (.iload_n 3, 1) := by decide +kernel
theorem dX4_table_34 : decode cX4_table 34 = .ok (.sipush 1000, 3) := by decide +kernel
theorem dX4_table_37 : decode cX4_table 37 = .ok (.iadd, 1) := by decide +kernel
theorem dX4_table_38 : decode cX4_table 38 = .ok (.ireturn, 1) := by decide +kernel
theorem dX4_pass_0 : decode cX4_pass 0 = .ok (.iload_n 1, 1) := by decide +kernel
theorem dX4_pass_1 : decode cX4_pass 1 = .ok (.iconst 0, 1) := by decide +kernel
theorem dX4_pass_2 : decode cX4_pass 2 = .ok (.bipush 50, 2) := by decide +kernel
theorem dX4_pass_4 : decode cX4_pass 4 = .ok (.invokestatic 52, 3) := by decide +kernel
theorem dX4_pass_7 : decode cX4_pass 7 = .ok (.ifCond .ne 5, 3) := by decide +kernel
theorem dX4_pass_10 : decode cX4_pass 10 = .ok (.iconst (-1), 1) := by decide +kernel
theorem dX4_pass_11 : decode cX4_pass 11 = .ok (.ireturn, 1) := by decide +kernel
theorem dX4_pass_12 : decode cX4_pass 12 = .ok (.aload_n 0, 1) := by decide +kernel
theorem dX4_pass_13 : decode cX4_pass 13 = .ok (.getfield 19, 3) := by decide +kernel
theorem dX4_pass_16 : decode cX4_pass 16 = .ok (.getfield 106, 3) := by decide +kernel
theorem dX4_pass_19 : decode cX4_pass 19 = .ok (.ifCond .ne 6, 3) := by decide +kernel
theorem dX4_pass_22 : decode cX4_pass 22 = .ok (.bipush (-4), 2) := by decide +kernel
theorem dX4_pass_24 : decode cX4_pass 24 = .ok (.ireturn, 1) := by decide +kernel
theorem dX4_pass_25 : decode cX4_pass 25 = .ok (.aload_n 0, 1) := by decide +kernel
theorem dX4_pass_26 : decode cX4_pass 26 = .ok (.getfield 19, 3) := by decide +kernel
theorem dX4_pass_29 : decode cX4_pass 29 = .ok (.aload_n 0, 1) := by decide +kernel
theorem dX4_pass_30 : decode cX4_pass 30 = .ok (.getfield 10, 3) := by decide +kernel
theorem dX4_pass_33 : decode cX4_pass 33 = .ok (.iload_n 1, 1) := by decide +kernel
theorem dX4_pass_34 : decode cX4_pass 34 = .ok (.invokevirtual 116, 3) := by decide +kernel
theorem dX4_pass_37 : decode cX4_pass 37 = .ok (.ireturn, 1) := by decide +kernel
theorem dX4_mean_0 : decode cX4_mean 0 = .ok (.aload_n 0, 1) := by decide +kernel
theorem dX4_mean_1 : decode cX4_mean 1 = .ok (.getfield 10, 3) := by decide +kernel
theorem dX4_mean_4 : decode cX4_mean 4 = .ok (.iconst 0, 1) := by decide +kernel
theorem dX4_mean_5 : decode cX4_mean 5 = .ok (.aload_n 0, 1) := by decide +kernel
theorem dX4_mean_6 : decode cX4_mean 6 = .ok (.getfield 10, 3) := by decide +kernel
theorem dX4_mean_9 : decode cX4_mean 9 = .ok (.getfield 120, 3) := by decide +kernel
theorem dX4_mean_12 : decode cX4_mean 12 = .ok (.iconst 1, 1) := by decide +kernel
theorem dX4_mean_13 : decode cX4_mean 13 = .ok (.isub, 1) := by decide +kernel
theorem dX4_mean_14 : decode cX4_mean 14 = .ok (.invokevirtual 123, 3) := by decide +kernel
theorem dX4_mean_17 : decode cX4_mean 17 = .ok (.istore_n 1, 1) := by decide +kernel
theorem dX4_mean_18 : decode cX4_mean 18 = .ok (.iload_n 1, 1) := by decide +kernel
theorem dX4_mean_19 : decode cX4_mean 19 = .ok (.ifCond .ne 9, 3) := by decide +kernel
theorem dX4_mean_22 : decode cX4_mean 22 = .ok (.aload_n 0, 1) := by decide +kernel
theorem dX4_mean_23 : decode cX4_mean 23 = .ok (.iconst 4, 1) := by decide +kernel
theorem dX4_mean_24 : decode cX4_mean 24 = .ok (.invokevirtual 75, 3) := by decide +kernel
theorem dX4_mean_27 : decode cX4_mean 27 = .ok (.ireturn, 1) := by decide +kernel
theorem dX4_mean_28 : decode cX4_mean 28 = .ok (.aload_n 0, 1) := by decide +kernel
theorem dX4_mean_29 : decode cX4_mean 29 = .ok (.aload_n 0, 1) := by decide +kernel
theorem dX4_mean_30 : decode cX4_mean 30 = .ok (.getfield 10, 3) := by decide +kernel
theorem dX4_mean_33 : decode cX4_mean 33 = .ok (.invokevirtual 127, 3) := by decide +kernel
theorem dX4_mean_36 : decode cX4_mean 36 = .ok (.iload_n 1, 1) := by decide +kernel
theorem dX4_mean_37 : decode cX4_mean 37 = .ok (.invokestatic 131, 3) := by decide +kernel
theorem dX4_mean_40 : decode cX4_mean 40 = .ok (.i2l, 1) := by decide +kernel
theorem dX4_mean_41 : decode cX4_mean 41 = .ok (.invokevirtual 86, 3) := by decide +kernel
theorem dX4_mean_44 : decode cX4_mean 44 = .ok (.ireturn, 1) := by decide +kernel
theorem dX4_lift_0 : decode cX4_lift 0 = .ok (.aload_n 0, 1) := by decide +kernel
theorem dX4_lift_1 : decode cX4_lift 1 = .ok (.getfield 10, 3) := by decide +kernel
theorem dX4_lift_4 : decode cX4_lift 4 = .ok (.iload_n 1, 1) := by decide +kernel
theorem dX4_lift_5 : decode cX4_lift 5 = .ok (.invokevirtual 60, 3) := by decide +kernel
theorem dX4_lift_8 : decode cX4_lift 8 = .ok (.ifCond .eq 32, 3) := by decide +kernel
theorem dX4_lift_11 : decode cX4_lift 11 = .ok (.aload_n 0, 1) := by decide +kernel
theorem dX4_lift_12 : decode cX4_lift 12 = .ok (.getfield 10, 3) := by decide +kernel
theorem dX4_lift_15 : decode cX4_lift 15 = .ok (.iload_n 2, 1) := by decide +kernel
theorem dX4_lift_16 : decode cX4_lift 16 = .ok (.invokevirtual 60, 3) := by decide +kernel
theorem dX4_lift_19 : decode cX4_lift 19 = .ok (.ifCond .eq 21, 3) := by decide +kernel
theorem dX4_lift_22 : decode cX4_lift 22 = .ok (.iload_n 1, 1) := by decide +kernel
theorem dX4_lift_23 : decode cX4_lift 23 = .ok (.iload_n 2, 1) := by decide +kernel
theorem dX4_lift_24 : decode cX4_lift 24 = .ok (.if_icmp .gt 16, 3) := by decide +kernel
theorem dX4_lift_27 : decode cX4_lift 27 = .ok (.iload_n 3, 1) := by decide +kernel
theorem dX4_lift_28 : decode cX4_lift 28 = .ok (.sipush (-10000), 3) := by decide +kernel
theorem dX4_lift_31 : decode cX4_lift 31 = .ok (.sipush 10000, 3) := by decide +kernel
theorem dX4_lift_34 : decode cX4_lift 34 = .ok (.invokestatic 52, 3) := by decide +kernel
theorem dX4_lift_37 : decode cX4_lift 37 = .ok (.ifCond .ne 5, 3) := by decide +kernel
theorem dX4_lift_40 : decode cX4_lift 40 = .ok (.iconst (-1), 1) := by decide +kernel
theorem dX4_lift_41 : decode cX4_lift 41 = .ok (.ireturn, 1) := by decide +kernel
theorem dX4_lift_42 : decode cX4_lift 42 = .ok (.iconst 0, 1) := by decide +kernel
theorem dX4_lift_43 : decode cX4_lift 43 = .ok (.istore 4, 2) := by decide +kernel
theorem dX4_lift_45 : decode cX4_lift 45 = .ok (.iload_n 1, 1) := by decide +kernel
theorem dX4_lift_46 : decode cX4_lift 46 = .ok (.istore 5, 2) := by decide +kernel
theorem dX4_lift_48 : decode cX4_lift 48 = .ok (.iload 5, 2) := by decide +kernel
theorem dX4_lift_50 : decode cX4_lift 50 = .ok (.iload_n 2, 1) := by decide +kernel
theorem dX4_lift_51 : decode cX4_lift 51 = .ok (.if_icmp .gt 25, 3) := by decide +kernel
theorem dX4_lift_54 : decode cX4_lift 54 = .ok (.aload_n 0, 1) := by decide +kernel
theorem dX4_lift_55 : decode cX4_lift 55 = .ok (.getfield 10, 3) := by decide +kernel
theorem dX4_lift_58 : decode cX4_lift 58 = .ok (.iload 5, 2) := by decide +kernel
theorem dX4_lift_60 : decode cX4_lift 60 = .ok (.iload_n 3, 1) := by decide +kernel
theorem dX4_lift_61 : decode cX4_lift 61 = .ok (.invokevirtual 134, 3) := by decide +kernel
theorem dX4_lift_64 : decode cX4_lift 64 = .ok (.ifCond .eq 6, 3) := by decide +kernel
theorem dX4_lift_67 : decode cX4_lift 67 = .ok (.iinc 4 1, 3) := by decide +kernel
theorem dX4_lift_70 : decode cX4_lift 70 = .ok (.iinc 5 1, 3) := by decide +kernel
theorem dX4_lift_73 : decode cX4_lift 73 = .ok (.goto (-25), 3) := by decide +kernel
theorem dX4_lift_76 : decode cX4_lift 76 = .ok (.iload 4, 2) := by decide +kernel
theorem dX4_lift_78 : decode cX4_lift 78 = .ok (.ireturn, 1) := by decide +kernel
theorem dX4_measure_0 : decode cX4_measure 0 = .ok (.iload_n 1, 1) := by decide +kernel
theorem dX4_measure_1 : decode cX4_measure 1 = .ok (.invokestatic 137, 3) := by decide +kernel
theorem dX4_measure_4 : decode cX4_measure 4 = .ok (.ifCond .eq 12, 3) := by decide +kernel
theorem dX4_measure_7 : decode cX4_measure 7 = .ok (.iload_n 2, 1) := by decide +kernel
theorem dX4_measure_8 : decode cX4_measure 8 = .ok (.iconst 1, 1) := by decide +kernel
theorem dX4_measure_9 : decode cX4_measure 9 = .ok (.iconst 4, 1) := by decide +kernel
theorem dX4_measure_10 : decode cX4_measure 10 = .ok (.invokestatic 52, 3) := by decide +kernel
theorem dX4_measure_13 : decode cX4_measure 13 = .ok (.ifCond .ne 5, 3) := by decide +kernel
theorem dX4_measure_16 : decode cX4_measure 16 = .ok (.iconst (-1), 1) := by decide +kernel
theorem dX4_measure_17 : decode cX4_measure 17 = .ok (.ireturn, 1) := by decide +kernel
theorem dX4_measure_18 : decode cX4_measure 18 = .ok (.aload_n 0, 1) := by decide +kernel
theorem dX4_measure_19 : decode cX4_measure 19 = .ok (.getfield 26, 3) := by decide +kernel
theorem dX4_measure_22 : decode cX4_measure 22 = .ok (.iload_n 1, 1) := by decide +kernel
theorem dX4_measure_23 : decode cX4_measure 23 = .ok (.invokevirtual 140, 3) := by decide +kernel
theorem dX4_measure_26 : decode cX4_measure 26 = .ok (.istore_n 3, 1) := by decide +kernel
theorem dX4_measure_27 : decode cX4_measure 27 = .ok (.iconst 0, 1) := by decide +kernel
theorem dX4_measure_28 : decode cX4_measure 28 = .ok (.istore 4, 2) := by decide +kernel
theorem dX4_measure_30 : decode cX4_measure 30 = .ok (.iload 4, 2) := by decide +kernel
theorem dX4_measure_32 : decode cX4_measure 32 = .ok (.bipush 40, 2) := by decide +kernel
theorem dX4_measure_34 : decode cX4_measure 34 = .ok (.if_icmp .ge 31, 3) := by decide +kernel
theorem dX4_measure_37 : decode cX4_measure 37 = .ok (.aload_n 0, 1) := by decide +kernel
theorem dX4_measure_38 : decode cX4_measure 38 = .ok (.getfield 26, 3) := by decide +kernel
theorem dX4_measure_41 : decode cX4_measure 41 = .ok (.getfield 143, 3) := by decide +kernel
theorem dX4_measure_44 : decode cX4_measure 44 = .ok (.iload_n 1, 1) := by decide +kernel
theorem dX4_measure_45 : decode cX4_measure 45 = .ok (.aaload, 1) := by decide +kernel
theorem dX4_measure_46 : decode cX4_measure 46 = .ok (.iload 4, 2) := by decide +kernel
theorem dX4_measure_48 : decode cX4_measure 48 = .ok (.aload_n 0, 1) := by decide +kernel
theorem dX4_measure_49 : decode cX4_measure 49 = .ok (.getfield 10, 3) := by decide +kernel
theorem dX4_measure_52 : decode cX4_measure 52 = .ok (.iload 4, 2) := by decide +kernel
theorem dX4_measure_54 : decode cX4_measure 54 = .ok (.iload_n 2, 1) := by decide +kernel
theorem dX4_measure_55 : decode cX4_measure 55 = .ok (.invokevirtual 147, 3) := by decide +kernel
theorem dX4_measure_58 : decode cX4_measure 58 = .ok (.iastore, 1) := by decide +kernel
theorem dX4_measure_59 : decode cX4_measure 59 = .ok (.iinc 4 1, 3) := by decide +kernel
theorem dX4_measure_62 : decode cX4_measure 62 = .ok (.goto (-32), 3) := by decide +kernel
theorem dX4_measure_65 : decode cX4_measure 65 = .ok (.iload_n 3, 1) := by decide +kernel
theorem dX4_measure_66 : decode cX4_measure 66 = .ok (.ireturn, 1) := by decide +kernel
theorem dX4_level_0 : decode cX4_level 0 = .ok (.iload_n 1, 1) := by decide +kernel
theorem dX4_level_1 : decode cX4_level 1 = .ok (.invokestatic 137, 3) := by decide +kernel
theorem dX4_level_4 : decode cX4_level 4 = .ok (.ifCond .ne 5, 3) := by decide +kernel
theorem dX4_level_7 : decode cX4_level 7 = .ok (.iconst (-1), 1) := by decide +kernel
theorem dX4_level_8 : decode cX4_level 8 = .ok (.ireturn, 1) := by decide +kernel
theorem dX4_level_9 : decode cX4_level 9 = .ok (.aload_n 0, 1) := by decide +kernel
theorem dX4_level_10 : decode cX4_level 10 = .ok (.getfield 26, 3) := by decide +kernel
theorem dX4_level_13 : decode cX4_level 13 = .ok (.iload_n 1, 1) := by decide +kernel
theorem dX4_level_14 : decode cX4_level 14 = .ok (.invokevirtual 140, 3) := by decide +kernel
theorem dX4_level_17 : decode cX4_level 17 = .ok (.istore_n 2, 1) := by decide +kernel
theorem dX4_level_18 : decode cX4_level 18 = .ok (.iconst 0, 1) := by decide +kernel
theorem dX4_level_19 : decode cX4_level 19 = .ok (.istore_n 3, 1) := by decide +kernel
theorem dX4_level_20 : decode cX4_level 20 = .ok (.iload_n 3, 1) := by decide +kernel
theorem dX4_level_21 : decode cX4_level 21 = .ok (.bipush 40, 2) := by decide +kernel
theorem dX4_level_23 : decode cX4_level 23 = .ok (.if_icmp .ge 43, 3) := by decide +kernel
theorem dX4_level_26 : decode cX4_level 26 = .ok (.aload_n 0, 1) := by decide +kernel
theorem dX4_level_27 : decode cX4_level 27 = .ok (.getfield 26, 3) := by decide +kernel
theorem dX4_level_30 : decode cX4_level 30 = .ok (.getfield 143, 3) := by decide +kernel
theorem dX4_level_33 : decode cX4_level 33 = .ok (.iload_n 1, 1) := by decide +kernel
theorem dX4_level_34 : decode cX4_level 34 = .ok (.aaload, 1) := by decide +kernel
theorem dX4_level_35 : decode cX4_level 35 = .ok (.iload_n 3, 1) := by decide +kernel
theorem dX4_level_36 : decode cX4_level 36 = .ok (.aload_n 0, 1) := by decide +kernel
theorem dX4_level_37 : decode cX4_level 37 = .ok (.getfield 10, 3) := by decide +kernel
theorem dX4_level_40 : decode cX4_level 40 = .ok (.iload_n 3, 1) := by decide +kernel
theorem dX4_level_41 : decode cX4_level 41 = .ok (.invokevirtual 60, 3) := by decide +kernel
theorem dX4_level_44 : decode cX4_level 44 = .ok (.ifCond .eq 14, 3) := by decide +kernel
theorem dX4_level_47 : decode cX4_level 47 = .ok (.aload_n 0, 1) := by decide +kernel
theorem dX4_level_48 : decode cX4_level 48 = .ok (.getfield 10, 3) := by decide +kernel
theorem dX4_level_51 : decode cX4_level 51 = .ok (.iload_n 3, 1) := by decide +kernel
theorem dX4_level_52 : decode cX4_level 52 = .ok (.invokevirtual 103, 3) := by decide +kernel
theorem dX4_level_55 : decode cX4_level 55 = .ok (.goto 4, 3) := by decide +kernel
theorem dX4_level_58 : decode cX4_level 58 = .ok (.iconst 0, 1) := by decide +kernel
theorem dX4_level_59 : decode cX4_level 59 = .ok (.iastore, 1) := by decide +kernel
theorem dX4_level_60 : decode cX4_level 60 = .ok (.iinc 3 1, 3) := by decide +kernel
theorem dX4_level_63 : decode cX4_level 63 = .ok (.goto (-43), 3) := by decide +kernel
theorem dX4_level_66 : decode cX4_level 66 = .ok (.iload_n 2, 1) := by decide +kernel
theorem dX4_level_67 : decode cX4_level 67 = .ok (.ireturn, 1) := by decide +kernel
theorem dX4_lay_0 : decode cX4_lay 0 = .ok (.iload_n 1, 1) := by decide +kernel
theorem dX4_lay_1 : decode cX4_lay 1 = .ok (.invokestatic 137, 3) := by decide +kernel
theorem dX4_lay_4 : decode cX4_lay 4 = .ok (.ifCond .eq 14, 3) := by decide +kernel
theorem dX4_lay_7 : decode cX4_lay 7 = .ok (.iload_n 3, 1) := by decide +kernel
theorem dX4_lay_8 : decode cX4_lay 8 = .ok (.ldc 150, 2) := by decide +kernel
theorem dX4_lay_10 : decode cX4_lay 10 = .ok (.ldc 151, 2) := by decide +kernel
theorem dX4_lay_12 : decode cX4_lay 12 = .ok (.invokestatic 52, 3) := by decide +kernel
theorem dX4_lay_15 : decode cX4_lay 15 = .ok (.ifCond .ne 5, 3) := by decide +kernel
theorem dX4_lay_18 : decode cX4_lay 18 = .ok (.iconst (-1), 1) := by decide +kernel
theorem dX4_lay_19 : decode cX4_lay 19 = .ok (.ireturn, 1) := by decide +kernel
theorem dX4_lay_20 : decode cX4_lay 20 = .ok (.aload_n 0, 1) := by decide +kernel
theorem dX4_lay_21 : decode cX4_lay 21 = .ok (.getfield 26, 3) := by decide +kernel
theorem dX4_lay_24 : decode cX4_lay 24 = .ok (.getfield 152, 3) := by decide +kernel
theorem dX4_lay_27 : decode cX4_lay 27 = .ok (.iload_n 1, 1) := by decide +kernel
theorem dX4_lay_28 : decode cX4_lay 28 = .ok (.baload, 1) := by decide +kernel
theorem dX4_lay_29 : decode cX4_lay 29 = .ok (.ifCond .ne 9, 3) := by decide +kernel
theorem dX4_lay_32 : decode cX4_lay 32 = .ok (.aload_n 0, 1) := by decide +kernel
theorem dX4_lay_33 : decode cX4_lay 33 = .ok (.iconst 1, 1) := by decide +kernel
theorem dX4_lay_34 : decode cX4_lay 34 = .ok (.invokevirtual 75, 3) := by decide +kernel
theorem dX4_lay_37 : decode cX4_lay 37 = .ok (.ireturn, 1) := by decide +kernel
theorem dX4_lay_38 : decode cX4_lay 38 = .ok (.iload_n 2, 1) := by decide +kernel
theorem dX4_lay_39 : decode cX4_lay 39 = .ok (.iconst 0, 1) := by decide +kernel
theorem dX4_lay_40 : decode cX4_lay 40 = .ok (.bipush 39, 2) := by decide +kernel
theorem dX4_lay_42 : decode cX4_lay 42 = .ok (.invokestatic 52, 3) := by decide +kernel
theorem dX4_lay_45 : decode cX4_lay 45 = .ok (.ifCond .ne 9, 3) := by decide +kernel
theorem dX4_lay_48 : decode cX4_lay 48 = .ok (.aload_n 0, 1) := by decide +kernel
theorem dX4_lay_49 : decode cX4_lay 49 = .ok (.iconst 2, 1) := by decide +kernel
theorem dX4_lay_50 : decode cX4_lay 50 = .ok (.invokevirtual 75, 3) := by decide +kernel
theorem dX4_lay_53 : decode cX4_lay 53 = .ok (.ireturn, 1) := by decide +kernel
theorem dX4_lay_54 : decode cX4_lay 54 = .ok (.aload_n 0, 1) := by decide +kernel
theorem dX4_lay_55 : decode cX4_lay 55 = .ok (.getfield 26, 3) := by decide +kernel
theorem dX4_lay_58 : decode cX4_lay 58 = .ok (.getfield 143, 3) := by decide +kernel
theorem dX4_lay_61 : decode cX4_lay 61 = .ok (.iload_n 1, 1) := by decide +kernel
theorem dX4_lay_62 : decode cX4_lay 62 = .ok (.aaload, 1) := by decide +kernel
theorem dX4_lay_63 : decode cX4_lay 63 = .ok (.iload_n 2, 1) := by decide +kernel
theorem dX4_lay_64 : decode cX4_lay 64 = .ok (.iaload, 1) := by decide +kernel
theorem dX4_lay_65 : decode cX4_lay 65 = .ok (.istore 4, 2) := by decide +kernel
theorem dX4_lay_67 : decode cX4_lay 67 = .ok (.aload_n 0, 1) := by decide +kernel
theorem dX4_lay_68 : decode cX4_lay 68 = .ok (.getfield 26, 3) := by decide +kernel
theorem dX4_lay_71 : decode cX4_lay 71 = .ok (.getfield 143, 3) := by decide +kernel
theorem dX4_lay_74 : decode cX4_lay 74 = .ok (.iload_n 1, 1) := by decide +kernel
theorem dX4_lay_75 : decode cX4_lay 75 = .ok (.aaload, 1) := by decide +kernel
theorem dX4_lay_76 : decode cX4_lay 76 = .ok (.iload_n 2, 1) := by decide +kernel
theorem dX4_lay_77 : decode cX4_lay 77 = .ok (.iload_n 3, 1) := by decide +kernel
theorem dX4_lay_78 : decode cX4_lay 78 = .ok (.iastore, 1) := by decide +kernel
theorem dX4_lay_79 : decode cX4_lay 79 = .ok (.aload_n 0, 1) := by decide +kernel
theorem dX4_lay_80 : decode cX4_lay 80 = .ok (.iload 4, 2) := by decide +kernel
theorem dX4_lay_82 : decode cX4_lay 82 = .ok (.i2l, 1) := by decide +kernel
theorem dX4_lay_83 : decode cX4_lay 83 = .ok (.invokevirtual 86, 3) := by decide +kernel
theorem dX4_lay_86 : decode cX4_lay 86 = .ok (.ireturn, 1) := by decide +kernel
theorem dX4_at_0 : decode cX4_at 0 = .ok (.iload_n 1, 1) := by decide +kernel
theorem dX4_at_1 : decode cX4_at 1 = .ok (.invokestatic 137, 3) := by decide +kernel
theorem dX4_at_4 : decode cX4_at 4 = .ok (.ifCond .ne 5, 3) := by decide +kernel
theorem dX4_at_7 : decode cX4_at 7 = .ok (.iconst (-1), 1) := by decide +kernel
theorem dX4_at_8 : decode cX4_at 8 = .ok (.ireturn, 1) := by decide +kernel
theorem dX4_at_9 : decode cX4_at 9 = .ok (.aload_n 0, 1) := by decide +kernel
theorem dX4_at_10 : decode cX4_at 10 = .ok (.getfield 26, 3) := by decide +kernel
theorem dX4_at_13 : decode cX4_at 13 = .ok (.getfield 152, 3) := by decide +kernel
theorem dX4_at_16 : decode cX4_at 16 = .ok (.iload_n 1, 1) := by decide +kernel
theorem dX4_at_17 : decode cX4_at 17 = .ok (.baload, 1) := by decide +kernel
theorem dX4_at_18 : decode cX4_at 18 = .ok (.ifCond .ne 9, 3) := by decide +kernel
theorem dX4_at_21 : decode cX4_at 21 = .ok (.aload_n 0, 1) := by decide +kernel
theorem dX4_at_22 : decode cX4_at 22 = .ok (.iconst 1, 1) := by decide +kernel
theorem dX4_at_23 : decode cX4_at 23 = .ok (.invokevirtual 75, 3) := by decide +kernel
theorem dX4_at_26 : decode cX4_at 26 = .ok (.ireturn, 1) := by decide +kernel
theorem dX4_at_27 : decode cX4_at 27 = .ok (.iload_n 2, 1) := by decide +kernel
theorem dX4_at_28 : decode cX4_at 28 = .ok (.iconst 0, 1) := by decide +kernel
theorem dX4_at_29 : decode cX4_at 29 = .ok (.bipush 39, 2) := by decide +kernel
theorem dX4_at_31 : decode cX4_at 31 = .ok (.invokestatic 52, 3) := by decide +kernel
theorem dX4_at_34 : decode cX4_at 34 = .ok (.ifCond .ne 9, 3) := by decide +kernel
theorem dX4_at_37 : decode cX4_at 37 = .ok (.aload_n 0, 1) := by decide +kernel
theorem dX4_at_38 : decode cX4_at 38 = .ok (.iconst 2, 1) := by decide +kernel
theorem dX4_at_39 : decode cX4_at 39 = .ok (.invokevirtual 75, 3) := by decide +kernel
theorem dX4_at_42 : decode cX4_at 42 = .ok (.ireturn, 1) := by decide +kernel
theorem dX4_at_43 : decode cX4_at 43 = .ok (.aload_n 0, 1) := by decide +kernel
theorem dX4_at_44 : decode cX4_at 44 = .ok (.aload_n 0, 1) := by decide +kernel
theorem dX4_at_45 : decode cX4_at 45 = .ok (.getfield 26, 3) := by decide +kernel
theorem dX4_at_48 : decode cX4_at 48 = .ok (.getfield 143, 3) := by decide +kernel
theorem dX4_at_51 : decode cX4_at 51 = .ok (.iload_n 1, 1) := by decide +kernel
theorem dX4_at_52 : decode cX4_at 52 = .ok (.aaload, 1) := by decide +kernel
theorem dX4_at_53 : decode cX4_at 53 = .ok (.iload_n 2, 1) := by decide +kernel
theorem dX4_at_54 : decode cX4_at 54 = .ok (.iaload, 1) := by decide +kernel
theorem dX4_at_55 : decode cX4_at 55 = .ok (.i2l, 1) := by decide +kernel
theorem dX4_at_56 : decode cX4_at 56 = .ok (.invokevirtual 86, 3) := by decide +kernel
theorem dX4_at_59 : decode cX4_at 59 = .ok (.ireturn, 1) := by decide +kernel
theorem dX4_shape_0 : decode cX4_shape 0 = .ok (.iload_n 1, 1) := by decide +kernel
theorem dX4_shape_1 : decode cX4_shape 1 = .ok (.invokestatic 137, 3) := by decide +kernel
theorem dX4_shape_4 : decode cX4_shape 4 = .ok (.ifCond .eq 29, 3) := by decide +kernel
theorem dX4_shape_7 : decode cX4_shape 7 = .ok (.iload_n 2, 1) := by decide +kernel
theorem dX4_shape_8 : decode cX4_shape 8 = .ok (.sipush (-10000), 3) := by decide +kernel
theorem dX4_shape_11 : decode cX4_shape 11 = .ok (.sipush 10000, 3) := by decide +kernel
theorem dX4_shape_14 : decode cX4_shape 14 = .ok (.invokestatic 52, 3) := by decide +kernel
theorem dX4_shape_17 : decode cX4_shape 17 = .ok (.ifCond .eq 16, 3) := by decide +kernel
theorem dX4_shape_20 : decode cX4_shape 20 = .ok (.iload_n 3, 1) := by decide +kernel
theorem dX4_shape_21 : decode cX4_shape 21 = .ok (.sipush (-10000), 3) := by decide +kernel
theorem dX4_shape_24 : decode cX4_shape 24 = .ok (.sipush 10000, 3) := by decide +kernel
theorem dX4_shape_27 : decode cX4_shape 27 = .ok (.invokestatic 52, 3) := by decide +kernel
theorem dX4_shape_30 : decode cX4_shape 30 = .ok (.ifCond .ne 5, 3) := by decide +kernel
theorem dX4_shape_33 : decode cX4_shape 33 = .ok (.iconst (-1), 1) := by decide +kernel
theorem dX4_shape_34 : decode cX4_shape 34 = .ok (.ireturn, 1) := by decide +kernel
theorem dX4_shape_35 : decode cX4_shape 35 = .ok (.aload_n 0, 1) := by decide +kernel
theorem dX4_shape_36 : decode cX4_shape 36 = .ok (.getfield 26, 3) := by decide +kernel
theorem dX4_shape_39 : decode cX4_shape 39 = .ok (.getfield 152, 3) := by decide +kernel
theorem dX4_shape_42 : decode cX4_shape 42 = .ok (.iload_n 1, 1) := by decide +kernel
theorem dX4_shape_43 : decode cX4_shape 43 = .ok (.baload, 1) := by decide +kernel
theorem dX4_shape_44 : decode cX4_shape 44 = .ok (.ifCond .ne 9, 3) := by decide +kernel
theorem dX4_shape_47 : decode cX4_shape 47 = .ok (.aload_n 0, 1) := by decide +kernel
theorem dX4_shape_48 : decode cX4_shape 48 = .ok (.iconst 1, 1) := by decide +kernel
theorem dX4_shape_49 : decode cX4_shape 49 = .ok (.invokevirtual 75, 3) := by decide +kernel
theorem dX4_shape_52 : decode cX4_shape 52 = .ok (.ireturn, 1) := by decide +kernel
theorem dX4_shape_53 : decode cX4_shape 53 = .ok (.aload_n 0, 1) := by decide +kernel
theorem dX4_shape_54 : decode cX4_shape 54 = .ok (.getfield 26, 3) := by decide +kernel
theorem dX4_shape_57 : decode cX4_shape 57 = .ok (.iload_n 1, 1) := by decide +kernel
theorem dX4_shape_58 : decode cX4_shape 58 = .ok (.iload_n 2, 1) := by decide +kernel
theorem dX4_shape_59 : decode cX4_shape 59 = .ok (.iload_n 3, 1) := by decide +kernel
theorem dX4_shape_60 : decode cX4_shape 60 = .ok (.aload_n 0, 1) := by decide +kernel
theorem dX4_shape_61 : decode cX4_shape 61 = .ok (.getfield 10, 3) := by decide +kernel
theorem dX4_shape_64 : decode cX4_shape 64 = .ok (.getfield 120, 3) := by decide +kernel
theorem dX4_shape_67 : decode cX4_shape 67 = .ok (.invokevirtual 155, 3) := by decide +kernel
theorem dX4_shape_70 : decode cX4_shape 70 = .ok (.iconst 1, 1) := by decide +kernel
theorem dX4_shape_71 : decode cX4_shape 71 = .ok (.ireturn, 1) := by decide +kernel
theorem dX4_tear_0 : decode cX4_tear 0 = .ok (.iload_n 1, 1) := by decide +kernel
theorem dX4_tear_1 : decode cX4_tear 1 = .ok (.invokestatic 137, 3) := by decide +kernel
theorem dX4_tear_4 : decode cX4_tear 4 = .ok (.ifCond .ne 5, 3) := by decide +kernel
theorem dX4_tear_7 : decode cX4_tear 7 = .ok (.iconst (-1), 1) := by decide +kernel
theorem dX4_tear_8 : decode cX4_tear 8 = .ok (.ireturn, 1) := by decide +kernel
theorem dX4_tear_9 : decode cX4_tear 9 = .ok (.aload_n 0, 1) := by decide +kernel
theorem dX4_tear_10 : decode cX4_tear 10 = .ok (.getfield 26, 3) := by decide +kernel
theorem dX4_tear_13 : decode cX4_tear 13 = .ok (.getfield 152, 3) := by decide +kernel
theorem dX4_tear_16 : decode cX4_tear 16 = .ok (.iload_n 1, 1) := by decide +kernel
theorem dX4_tear_17 : decode cX4_tear 17 = .ok (.baload, 1) := by decide +kernel
theorem dX4_tear_18 : decode cX4_tear 18 = .ok (.ifCond .ne 9, 3) := by decide +kernel
theorem dX4_tear_21 : decode cX4_tear 21 = .ok (.aload_n 0, 1) := by decide +kernel
theorem dX4_tear_22 : decode cX4_tear 22 = .ok (.iconst 1, 1) := by decide +kernel
theorem dX4_tear_23 : decode cX4_tear 23 = .ok (.invokevirtual 75, 3) := by decide +kernel
theorem dX4_tear_26 : decode cX4_tear 26 = .ok (.ireturn, 1) := by decide +kernel
theorem dX4_tear_27 : decode cX4_tear 27 = .ok (.aload_n 0, 1) := by decide +kernel
theorem dX4_tear_28 : decode cX4_tear 28 = .ok (.getfield 26, 3) := by decide +kernel
theorem dX4_tear_31 : decode cX4_tear 31 = .ok (.getfield 152, 3) := by decide +kernel
theorem dX4_tear_34 : decode cX4_tear 34 = .ok (.iload_n 1, 1) := by decide +kernel
theorem dX4_tear_35 : decode cX4_tear 35 = .ok (.iconst 0, 1) := by decide +kernel
theorem dX4_tear_36 : decode cX4_tear 36 = .ok (.bastore, 1) := by decide +kernel
theorem dX4_tear_37 : decode cX4_tear 37 = .ok (.iconst 1, 1) := by decide +kernel
theorem dX4_tear_38 : decode cX4_tear 38 = .ok (.ireturn, 1) := by decide +kernel
theorem dX4_copy_0 : decode cX4_copy 0 = .ok (.iload_n 1, 1) := by decide +kernel
theorem dX4_copy_1 : decode cX4_copy 1 = .ok (.invokestatic 137, 3) := by decide +kernel
theorem dX4_copy_4 : decode cX4_copy 4 = .ok (.ifCond .eq 10, 3) := by decide +kernel
theorem dX4_copy_7 : decode cX4_copy 7 = .ok (.iload_n 3, 1) := by decide +kernel
theorem dX4_copy_8 : decode cX4_copy 8 = .ok (.invokestatic 137, 3) := by decide +kernel
theorem dX4_copy_11 : decode cX4_copy 11 = .ok (.ifCond .ne 5, 3) := by decide +kernel
theorem dX4_copy_14 : decode cX4_copy 14 = .ok (.iconst (-1), 1) := by decide +kernel
theorem dX4_copy_15 : decode cX4_copy 15 = .ok (.ireturn, 1) := by decide +kernel
theorem dX4_copy_16 : decode cX4_copy 16 = .ok (.iload 5, 2) := by decide +kernel
theorem dX4_copy_18 : decode cX4_copy 18 = .ok (.ifCond .ge 9, 3) := by decide +kernel
theorem dX4_copy_21 : decode cX4_copy 21 = .ok (.aload_n 0, 1) := by decide +kernel
theorem dX4_copy_22 : decode cX4_copy 22 = .ok (.iconst 5, 1) := by decide +kernel
theorem dX4_copy_23 : decode cX4_copy 23 = .ok (.invokevirtual 75, 3) := by decide +kernel
theorem dX4_copy_26 : decode cX4_copy 26 = .ok (.ireturn, 1) := by decide +kernel
theorem dX4_copy_27 : decode cX4_copy 27 = .ok (.aload_n 0, 1) := by decide +kernel
theorem dX4_copy_28 : decode cX4_copy 28 = .ok (.getfield 26, 3) := by decide +kernel
theorem dX4_copy_31 : decode cX4_copy 31 = .ok (.getfield 152, 3) := by decide +kernel
theorem dX4_copy_34 : decode cX4_copy 34 = .ok (.iload_n 1, 1) := by decide +kernel
theorem dX4_copy_35 : decode cX4_copy 35 = .ok (.baload, 1) := by decide +kernel
theorem dX4_copy_36 : decode cX4_copy 36 = .ok (.ifCond .eq 15, 3) := by decide +kernel
theorem dX4_copy_39 : decode cX4_copy 39 = .ok (.aload_n 0, 1) := by decide +kernel
theorem dX4_copy_40 : decode cX4_copy 40 = .ok (.getfield 26, 3) := by decide +kernel
theorem dX4_copy_43 : decode cX4_copy 43 = .ok (.getfield 152, 3) := by decide +kernel
theorem dX4_copy_46 : decode cX4_copy 46 = .ok (.iload_n 3, 1) := by decide +kernel
theorem dX4_copy_47 : decode cX4_copy 47 = .ok (.baload, 1) := by decide +kernel
theorem dX4_copy_48 : decode cX4_copy 48 = .ok (.ifCond .ne 9, 3) := by decide +kernel
theorem dX4_copy_51 : decode cX4_copy 51 = .ok (.aload_n 0, 1) := by decide +kernel
theorem dX4_copy_52 : decode cX4_copy 52 = .ok (.iconst 1, 1) := by decide +kernel
theorem dX4_copy_53 : decode cX4_copy 53 = .ok (.invokevirtual 75, 3) := by decide +kernel
theorem dX4_copy_56 : decode cX4_copy 56 = .ok (.ireturn, 1) := by decide +kernel
theorem dX4_copy_57 : decode cX4_copy 57 = .ok (.iload_n 2, 1) := by decide +kernel
theorem dX4_copy_58 : decode cX4_copy 58 = .ok (.iload 5, 2) := by decide +kernel
theorem dX4_copy_60 : decode cX4_copy 60 = .ok (.invokestatic 159, 3) := by decide +kernel
theorem dX4_copy_63 : decode cX4_copy 63 = .ok (.ifCond .eq 13, 3) := by decide +kernel
theorem dX4_copy_66 : decode cX4_copy 66 = .ok (.iload 4, 2) := by decide +kernel
theorem dX4_copy_68 : decode cX4_copy 68 = .ok (.iload 5, 2) := by decide +kernel
theorem dX4_copy_70 : decode cX4_copy 70 = .ok (.invokestatic 159, 3) := by decide +kernel
theorem dX4_copy_73 : decode cX4_copy 73 = .ok (.ifCond .ne 9, 3) := by decide +kernel
theorem dX4_copy_76 : decode cX4_copy 76 = .ok (.aload_n 0, 1) := by decide +kernel
theorem dX4_copy_77 : decode cX4_copy 77 = .ok (.iconst 2, 1) := by decide +kernel
theorem dX4_copy_78 : decode cX4_copy 78 = .ok (.invokevirtual 75, 3) := by decide +kernel
theorem dX4_copy_81 : decode cX4_copy 81 = .ok (.ireturn, 1) := by decide +kernel
theorem dX4_copy_82 : decode cX4_copy 82 = .ok (.aload_n 0, 1) := by decide +kernel
theorem dX4_copy_83 : decode cX4_copy 83 = .ok (.getfield 26, 3) := by decide +kernel
theorem dX4_copy_86 : decode cX4_copy 86 = .ok (.getfield 143, 3) := by decide +kernel
theorem dX4_copy_89 : decode cX4_copy 89 = .ok (.iload_n 1, 1) := by decide +kernel
theorem dX4_copy_90 : decode cX4_copy 90 = .ok (.aaload, 1) := by decide +kernel
theorem dX4_copy_91 : decode cX4_copy 91 = .ok (.iload_n 2, 1) := by decide +kernel
theorem dX4_copy_92 : decode cX4_copy 92 = .ok (.aload_n 0, 1) := by decide +kernel
theorem dX4_copy_93 : decode cX4_copy 93 = .ok (.getfield 26, 3) := by decide +kernel
theorem dX4_copy_96 : decode cX4_copy 96 = .ok (.getfield 143, 3) := by decide +kernel
theorem dX4_copy_99 : decode cX4_copy 99 = .ok (.iload_n 3, 1) := by decide +kernel
theorem dX4_copy_100 : decode cX4_copy 100 = .ok (.aaload, 1) := by decide +kernel
theorem dX4_copy_101 : decode cX4_copy 101 = .ok (.iload 4, 2) := by decide +kernel
theorem dX4_copy_103 : decode cX4_copy 103 = .ok (.iload 5, 2) := by decide +kernel
theorem dX4_copy_105 : decode cX4_copy 105 = .ok (.invokestatic 162, 3) := by decide +kernel
theorem dX4_copy_108 : decode cX4_copy 108 = .ok (.iconst 1, 1) := by decide +kernel
theorem dX4_copy_109 : decode cX4_copy 109 = .ok (.ireturn, 1) := by decide +kernel
theorem dX4_fit_0 : decode cX4_fit 0 = .ok (.iload_n 1, 1) := by decide +kernel
theorem dX4_fit_1 : decode cX4_fit 1 = .ok (.invokestatic 137, 3) := by decide +kernel
theorem dX4_fit_4 : decode cX4_fit 4 = .ok (.ifCond .eq 10, 3) := by decide +kernel
theorem dX4_fit_7 : decode cX4_fit 7 = .ok (.iload_n 2, 1) := by decide +kernel
theorem dX4_fit_8 : decode cX4_fit 8 = .ok (.invokestatic 137, 3) := by decide +kernel
theorem dX4_fit_11 : decode cX4_fit 11 = .ok (.ifCond .ne 5, 3) := by decide +kernel
theorem dX4_fit_14 : decode cX4_fit 14 = .ok (.iconst (-1), 1) := by decide +kernel
theorem dX4_fit_15 : decode cX4_fit 15 = .ok (.ireturn, 1) := by decide +kernel
theorem dX4_fit_16 : decode cX4_fit 16 = .ok (.aload_n 0, 1) := by decide +kernel
theorem dX4_fit_17 : decode cX4_fit 17 = .ok (.getfield 10, 3) := by decide +kernel
theorem dX4_fit_20 : decode cX4_fit 20 = .ok (.getfield 120, 3) := by decide +kernel
theorem dX4_fit_23 : decode cX4_fit 23 = .ok (.bipush 11, 2) := by decide +kernel
theorem dX4_fit_25 : decode cX4_fit 25 = .ok (.if_icmp .ge 6, 3) := by decide +kernel
theorem dX4_fit_28 : decode cX4_fit 28 = .ok (.bipush (-4), 2) := by decide +kernel
theorem dX4_fit_30 : decode cX4_fit 30 = .ok (.ireturn, 1) := by decide +kernel
theorem dX4_fit_31 : decode cX4_fit 31 = .ok (.aload_n 0, 1) := by decide +kernel
theorem dX4_fit_32 : decode cX4_fit 32 = .ok (.getfield 26, 3) := by decide +kernel
theorem dX4_fit_35 : decode cX4_fit 35 = .ok (.getfield 152, 3) := by decide +kernel
theorem dX4_fit_38 : decode cX4_fit 38 = .ok (.iload_n 1, 1) := by decide +kernel
theorem dX4_fit_39 : decode cX4_fit 39 = .ok (.baload, 1) := by decide +kernel
theorem dX4_fit_40 : decode cX4_fit 40 = .ok (.ifCond .eq 15, 3) := by decide +kernel
theorem dX4_fit_43 : decode cX4_fit 43 = .ok (.aload_n 0, 1) := by decide +kernel
theorem dX4_fit_44 : decode cX4_fit 44 = .ok (.getfield 26, 3) := by decide +kernel
theorem dX4_fit_47 : decode cX4_fit 47 = .ok (.getfield 152, 3) := by decide +kernel
theorem dX4_fit_50 : decode cX4_fit 50 = .ok (.iload_n 2, 1) := by decide +kernel
theorem dX4_fit_51 : decode cX4_fit 51 = .ok (.baload, 1) := by decide +kernel
theorem dX4_fit_52 : decode cX4_fit 52 = .ok (.ifCond .ne 9, 3) := by decide +kernel
theorem dX4_fit_55 : decode cX4_fit 55 = .ok (.aload_n 0, 1) := by decide +kernel
theorem dX4_fit_56 : decode cX4_fit 56 = .ok (.iconst 1, 1) := by decide +kernel
theorem dX4_fit_57 : decode cX4_fit 57 = .ok (.invokevirtual 75, 3) := by decide +kernel
theorem dX4_fit_60 : decode cX4_fit 60 = .ok (.ireturn, 1) := by decide +kernel
theorem dX4_fit_61 : decode cX4_fit 61 = .ok (.aload_n 0, 1) := by decide +kernel
theorem dX4_fit_62 : decode cX4_fit 62 = .ok (.getfield 26, 3) := by decide +kernel
theorem dX4_fit_65 : decode cX4_fit 65 = .ok (.iload_n 1, 1) := by decide +kernel
theorem dX4_fit_66 : decode cX4_fit 66 = .ok (.iload_n 2, 1) := by decide +kernel
theorem dX4_fit_67 : decode cX4_fit 67 = .ok (.aload_n 0, 1) := by decide +kernel
theorem dX4_fit_68 : decode cX4_fit 68 = .ok (.getfield 10, 3) := by decide +kernel
theorem dX4_fit_71 : decode cX4_fit 71 = .ok (.getfield 120, 3) := by decide +kernel
theorem dX4_fit_74 : decode cX4_fit 74 = .ok (.invokevirtual 168, 3) := by decide +kernel
theorem dX4_fit_77 : decode cX4_fit 77 = .ok (.istore_n 3, 1) := by decide +kernel
theorem dX4_fit_78 : decode cX4_fit 78 = .ok (.aload_n 0, 1) := by decide +kernel
theorem dX4_fit_79 : decode cX4_fit 79 = .ok (.aload_n 0, 1) := by decide +kernel
theorem dX4_fit_80 : decode cX4_fit 80 = .ok (.getfield 26, 3) := by decide +kernel
theorem dX4_fit_83 : decode cX4_fit 83 = .ok (.iload_n 1, 1) := by decide +kernel
theorem dX4_fit_84 : decode cX4_fit 84 = .ok (.iload_n 2, 1) := by decide +kernel
theorem dX4_fit_85 : decode cX4_fit 85 = .ok (.iload_n 3, 1) := by decide +kernel
theorem dX4_fit_86 : decode cX4_fit 86 = .ok (.aload_n 0, 1) := by decide +kernel
theorem dX4_fit_87 : decode cX4_fit 87 = .ok (.getfield 10, 3) := by decide +kernel
theorem dX4_fit_90 : decode cX4_fit 90 = .ok (.getfield 120, 3) := by decide +kernel
theorem dX4_fit_93 : decode cX4_fit 93 = .ok (.invokevirtual 172, 3) := by decide +kernel
theorem dX4_fit_96 : decode cX4_fit 96 = .ok (.invokevirtual 86, 3) := by decide +kernel
theorem dX4_fit_99 : decode cX4_fit 99 = .ok (.pop, 1) := by decide +kernel
theorem dX4_fit_100 : decode cX4_fit 100 = .ok (.bipush 100, 2) := by decide +kernel
theorem dX4_fit_102 : decode cX4_fit 102 = .ok (.iload_n 3, 1) := by decide +kernel
theorem dX4_fit_103 : decode cX4_fit 103 = .ok (.iadd, 1) := by decide +kernel
theorem dX4_fit_104 : decode cX4_fit 104 = .ok (.ireturn, 1) := by decide +kernel
theorem dX4_worst_0 : decode cX4_worst 0 = .ok (.iload_n 1, 1) := by decide +kernel
theorem dX4_worst_1 : decode cX4_worst 1 = .ok (.invokestatic 137, 3) := by decide +kernel
theorem dX4_worst_4 : decode cX4_worst 4 = .ok (.ifCond .ne 5, 3) := by decide +kernel
theorem dX4_worst_7 : decode cX4_worst 7 = .ok (.iconst (-1), 1) := by decide +kernel
theorem dX4_worst_8 : decode cX4_worst 8 = .ok (.ireturn, 1) := by decide +kernel
theorem dX4_worst_9 : decode cX4_worst 9 = .ok (.aload_n 0, 1) := by decide +kernel
theorem dX4_worst_10 : decode cX4_worst 10 = .ok (.getfield 26, 3) := by decide +kernel
theorem dX4_worst_13 : decode cX4_worst 13 = .ok (.getfield 152, 3) := by decide +kernel
theorem dX4_worst_16 : decode cX4_worst 16 = .ok (.iload_n 1, 1) := by decide +kernel
theorem dX4_worst_17 : decode cX4_worst 17 = .ok (.baload, 1) := by decide +kernel
theorem dX4_worst_18 : decode cX4_worst 18 = .ok (.ifCond .ne 9, 3) := by decide +kernel
theorem dX4_worst_21 : decode cX4_worst 21 = .ok (.aload_n 0, 1) := by decide +kernel
theorem dX4_worst_22 : decode cX4_worst 22 = .ok (.iconst 1, 1) := by decide +kernel
theorem dX4_worst_23 : decode cX4_worst 23 = .ok (.invokevirtual 75, 3) := by decide +kernel
theorem dX4_worst_26 : decode cX4_worst 26 = .ok (.ireturn, 1) := by decide +kernel
theorem dX4_worst_27 : decode cX4_worst 27 = .ok (.aload_n 0, 1) := by decide +kernel
theorem dX4_worst_28 : decode cX4_worst 28 = .ok (.getfield 26, 3) := by decide +kernel
theorem dX4_worst_31 : decode cX4_worst 31 = .ok (.iload_n 1, 1) := by decide +kernel
theorem dX4_worst_32 : decode cX4_worst 32 = .ok (.aload_n 0, 1) := by decide +kernel
theorem dX4_worst_33 : decode cX4_worst 33 = .ok (.getfield 10, 3) := by decide +kernel
theorem dX4_worst_36 : decode cX4_worst 36 = .ok (.getfield 120, 3) := by decide +kernel
theorem dX4_worst_39 : decode cX4_worst 39 = .ok (.invokevirtual 176, 3) := by decide +kernel
theorem dX4_worst_42 : decode cX4_worst 42 = .ok (.istore_n 2, 1) := by decide +kernel
theorem dX4_worst_43 : decode cX4_worst 43 = .ok (.aload_n 0, 1) := by decide +kernel
theorem dX4_worst_44 : decode cX4_worst 44 = .ok (.aload_n 0, 1) := by decide +kernel
theorem dX4_worst_45 : decode cX4_worst 45 = .ok (.getfield 26, 3) := by decide +kernel
theorem dX4_worst_48 : decode cX4_worst 48 = .ok (.iload_n 1, 1) := by decide +kernel
theorem dX4_worst_49 : decode cX4_worst 49 = .ok (.iload_n 2, 1) := by decide +kernel
theorem dX4_worst_50 : decode cX4_worst 50 = .ok (.invokevirtual 179, 3) := by decide +kernel
theorem dX4_worst_53 : decode cX4_worst 53 = .ok (.invokevirtual 86, 3) := by decide +kernel
theorem dX4_worst_56 : decode cX4_worst 56 = .ok (.pop, 1) := by decide +kernel
theorem dX4_worst_57 : decode cX4_worst 57 = .ok (.iload_n 2, 1) := by decide +kernel
theorem dX4_worst_58 : decode cX4_worst 58 = .ok (.ireturn, 1) := by decide +kernel
