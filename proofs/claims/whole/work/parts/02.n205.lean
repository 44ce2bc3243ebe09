theorem dX5_lift_28 : decode cX5_lift 28 = .ok (.invokestatic 68, 3) := by decide +kernel
theorem dX5_lift_31 : decode cX5_lift 31 = .ok (.ifCond .ne 5, 3) := by decide +kernel
theorem dX5_lift_34 : decode cX5_lift 34 = .ok (.iconst (-1), 1) := by decide +kernel
theorem dX5_lift_35 : decode cX5_lift 35 = .ok (.ireturn, 1) := by decide +kernel
theorem dX5_lift_36 : decode cX5_lift 36 = .ok (.iconst 0, 1) := by decide +kernel
theorem dX5_lift_37 : decode cX5_lift 37 = .ok (.istore 4, 2) := by decide +kernel
theorem dX5_lift_39 : decode cX5_lift 39 = .ok (.iload_n 1, 1) := by decide +kernel
theorem dX5_lift_40 : decode cX5_lift 40 = .ok (.istore 5, 2) := by decide +kernel
theorem dX5_lift_42 : decode cX5_lift 42 = .ok (.iload 5, 2) := by decide +kernel
theorem dX5_lift_44 : decode cX5_lift 44 = .ok (.iload_n 2, 1) := by decide +kernel
theorem dX5_lift_45 : decode cX5_lift 45 = .ok (.if_icmp .gt 80, 3) := by decide +kernel
theorem dX5_lift_48 : decode cX5_lift 48 = .ok (.aload_n 0, 1) := by decide +kernel
theorem dX5_lift_49 : decode cX5_lift 49 = .ok (.getfield 28, 3) := by decide +kernel
theorem dX5_lift_52 : decode cX5_lift 52 = .ok (.iload 5, 2) := by decide +kernel
theorem dX5_lift_54 : decode cX5_lift 54 = .ok (.baload, 1) := by decide +kernel
theorem dX5_lift_55 : decode cX5_lift 55 = .ok (.ifCond .ne 64, 3) := by decide +kernel
theorem dX5_lift_58 : decode cX5_lift 58 = .ok (.aload_n 0, 1) := by decide +kernel
theorem dX5_lift_59 : decode cX5_lift 59 = .ok (.getfield 16, 3) := by decide +kernel
theorem dX5_lift_62 : decode cX5_lift 62 = .ok (.iload 5, 2) := by decide +kernel
theorem dX5_lift_64 : decode cX5_lift 64 = .ok (.iaload, 1) := by decide +kernel
theorem dX5_lift_65 : decode cX5_lift 65 = .ok (.iload_n 3, 1) := by decide +kernel
theorem dX5_lift_66 : decode cX5_lift 66 = .ok (.if_icmp .ge 53, 3) := by decide +kernel
theorem dX5_lift_69 : decode cX5_lift 69 = .ok (.aload_n 0, 1) := by decide +kernel
theorem dX5_lift_70 : decode cX5_lift 70 = .ok (.getfield 16, 3) := by decide +kernel
theorem dX5_lift_73 : decode cX5_lift 73 = .ok (.iload 5, 2) := by decide +kernel
theorem dX5_lift_75 : decode cX5_lift 75 = .ok (.iload_n 3, 1) := by decide +kernel
theorem dX5_lift_76 : decode cX5_lift 76 = .ok (.iastore, 1) := by decide +kernel
theorem dX5_lift_77 : decode cX5_lift 77 = .ok (.aload_n 0, 1) := by decide +kernel
theorem dX5_lift_78 : decode cX5_lift 78 = .ok (.getfield 22, 3) := by decide +kernel
theorem dX5_lift_81 : decode cX5_lift 81 = .ok (.iload 5, 2) := by decide +kernel
theorem dX5_lift_83 : decode cX5_lift 83 = .ok (.iconst 0, 1) := by decide +kernel
theorem dX5_lift_84 : decode cX5_lift 84 = .ok (.iastore, 1) := by decide +kernel
theorem dX5_lift_85 : decode cX5_lift 85 = .ok (.aload_n 0, 1) := by decide +kernel
theorem dX5_lift_86 : decode cX5_lift 86 = .ok (.getfield 19, 3) := by decide +kernel
theorem dX5_lift_89 : decode cX5_lift 89 = .ok (.iload 5, 2) := by decide +kernel
theorem dX5_lift_91 : decode cX5_lift 91 = .ok (.aload_n 0, 1) := by decide +kernel
theorem dX5_lift_92 : decode cX5_lift 92 = .ok (.getfield 19, 3) := by decide +kernel
theorem dX5_lift_95 : decode cX5_lift 95 = .ok (.iload 5, 2) := by decide +kernel
theorem dX5_lift_97 : decode cX5_lift 97 = .ok (.iaload, 1) := by decide +kernel
theorem dX5_lift_98 : decode cX5_lift 98 = .ok (.iconst 1, 1) := by decide +kernel
theorem dX5_lift_99 : decode cX5_lift 99 = .ok (.if_icmp .le 15, 3) := by decide +kernel
theorem dX5_lift_102 : decode cX5_lift 102 = .ok (.aload_n 0, 1) := by decide +kernel
theorem dX5_lift_103 : decode cX5_lift 103 = .ok (.getfield 19, 3) := by decide +kernel
theorem dX5_lift_106 : decode cX5_lift 106 = .ok (.iload 5, 2) := by decide +kernel
theorem dX5_lift_108 : decode cX5_lift 108 = .ok (.iaload, 1) := by decide +kernel
theorem dX5_lift_109 : decode cX5_lift 109 = .ok (.iconst 1, 1) := by decide +kernel
theorem dX5_lift_110 : decode cX5_lift 110 = .ok (.isub, 1) := by decide +kernel
theorem dX5_lift_111 : decode cX5_lift 111 = .ok (.goto 4, 3) := by decide +kernel
theorem dX5_lift_114 : decode cX5_lift 114 = .ok (.iconst 1, 1) := by decide +kernel
theorem dX5_lift_115 : decode cX5_lift 115 = .ok (.iastore, 1) := by decide +kernel
theorem dX5_lift_116 : decode cX5_lift 116 = .ok (.iinc 4 1, 3) := by decide +kernel
theorem dX5_lift_119 : decode cX5_lift 119 = .ok (.iinc 5 1, 3) := by decide +kernel
theorem dX5_lift_122 : decode cX5_lift 122 = .ok (.goto (-80), 3) := by decide +kernel
theorem dX5_lift_125 : decode cX5_lift 125 = .ok (.iload 4, 2) := by decide +kernel
theorem dX5_lift_127 : decode cX5_lift 127 = .ok (.ireturn, 1) := by decide +kernel
theorem dX5_isNumber_0 : decode cX5_isNumber 0 = .ok (.iload_n 0, 1) := by decide +kernel
theorem dX5_isNumber_1 : decode cX5_isNumber 1 = .ok (.iconst 0, 1) := by decide +kernel
theorem dX5_isNumber_2 : decode cX5_isNumber 2 = .ok (.iconst 5, 1) := by decide +kernel
theorem dX5_isNumber_3 : decode cX5_isNumber 3 = .ok (.invokestatic 68, 3) := by decide +kernel
theorem dX5_isNumber_6 : decode cX5_isNumber 6 = .ok (.ireturn, 1) := by decide +kernel
theorem dX5_chordAt_0 : decode cX5_chordAt 0 = .ok (.aload_n 0, 1) := by decide +kernel
theorem dX5_chordAt_1 : decode cX5_chordAt 1 = .ok (.iload_n 1, 1) := by decide +kernel
theorem dX5_chordAt_2 : decode cX5_chordAt 2 = .ok (.iload_n 2, 1) := by decide +kernel
theorem dX5_chordAt_3 : decode cX5_chordAt 3 = .ok (.isub, 1) := by decide +kernel
theorem dX5_chordAt_4 : decode cX5_chordAt 4 = .ok (.invokevirtual 75, 3) := by decide +kernel
theorem dX5_chordAt_7 : decode cX5_chordAt 7 = .ok (.ifCond .eq 39, 3) := by decide +kernel
theorem dX5_chordAt_10 : decode cX5_chordAt 10 = .ok (.aload_n 0, 1) := by decide +kernel
theorem dX5_chordAt_11 : decode cX5_chordAt 11 = .ok (.iload_n 1, 1) := by decide +kernel
theorem dX5_chordAt_12 : decode cX5_chordAt 12 = .ok (.iload_n 2, 1) := by decide +kernel
theorem dX5_chordAt_13 : decode cX5_chordAt 13 = .ok (.iadd, 1) := by decide +kernel
theorem dX5_chordAt_14 : decode cX5_chordAt 14 = .ok (.invokevirtual 75, 3) := by decide +kernel
theorem dX5_chordAt_17 : decode cX5_chordAt 17 = .ok (.ifCond .eq 29, 3) := by decide +kernel
theorem dX5_chordAt_20 : decode cX5_chordAt 20 = .ok (.iconst 2, 1) := by decide +kernel
theorem dX5_chordAt_21 : decode cX5_chordAt 21 = .ok (.aload_n 0, 1) := by decide +kernel
theorem dX5_chordAt_22 : decode cX5_chordAt 22 = .ok (.iload_n 1, 1) := by decide +kernel
theorem dX5_chordAt_23 : decode cX5_chordAt 23 = .ok (.invokevirtual 93, 3) := by decide +kernel
theorem dX5_chordAt_26 : decode cX5_chordAt 26 = .ok (.imul, 1) := by decide +kernel
theorem dX5_chordAt_27 : decode cX5_chordAt 27 = .ok (.aload_n 0, 1) := by decide +kernel
theorem dX5_chordAt_28 : decode cX5_chordAt 28 = .ok (.iload_n 1, 1) := by decide +kernel
theorem dX5_chordAt_29 : decode cX5_chordAt 29 = .ok (.iload_n 2, 1) := by decide +kernel
theorem dX5_chordAt_30 : decode cX5_chordAt 30 = .ok (.isub, 1) := by decide +kernel
theorem dX5_chordAt_31 : decode cX5_chordAt 31 = .ok (.invokevirtual 93, 3) := by decide +kernel
theorem dX5_chordAt_34 : decode cX5_chordAt 34 = .ok (.isub, 1) := by decide +kernel
theorem dX5_chordAt_35 : decode cX5_chordAt 35 = .ok (.aload_n 0, 1) := by decide +kernel
theorem dX5_chordAt_36 : decode cX5_chordAt 36 = .ok (.iload_n 1, 1) := by decide +kernel
theorem dX5_chordAt_37 : decode cX5_chordAt 37 = .ok (.iload_n 2, 1) := by decide +kernel
theorem dX5_chordAt_38 : decode cX5_chordAt 38 = .ok (.iadd, 1) := by decide +kernel
theorem dX5_chordAt_39 : decode cX5_chordAt 39 = .ok (.invokevirtual 93, 3) := by decide +kernel
theorem dX5_chordAt_42 : decode cX5_chordAt 42 = .ok (.isub, 1) := by decide +kernel
theorem dX5_chordAt_43 : decode cX5_chordAt 43 = .ok (.goto 4, 3) := by decide +kernel
theorem dX5_chordAt_46 : decode cX5_chordAt 46 = .ok (.iconst 0, 1) := by decide +kernel
theorem dX5_chordAt_47 : decode cX5_chordAt 47 = .ok (.ireturn, 1) := by decide +kernel
theorem dX5_measure_0 : decode cX5_measure 0 = .ok (.iload_n 1, 1) := by decide +kernel
theorem dX5_measure_1 : decode cX5_measure 1 = .ok (.invokestatic 111, 3) := by decide +kernel
theorem dX5_measure_4 : decode cX5_measure 4 = .ok (.ifCond .eq 12, 3) := by decide +kernel
theorem dX5_measure_7 : decode cX5_measure 7 = .ok (.iload_n 2, 1) := by decide +kernel
theorem dX5_measure_8 : decode cX5_measure 8 = .ok (.iconst 1, 1) := by decide +kernel
theorem dX5_measure_9 : decode cX5_measure 9 = .ok (.iconst 4, 1) := by decide +kernel
theorem dX5_measure_10 : decode cX5_measure 10 = .ok (.invokestatic 68, 3) := by decide +kernel
theorem dX5_measure_13 : decode cX5_measure 13 = .ok (.ifCond .ne 5, 3) := by decide +kernel
theorem dX5_measure_16 : decode cX5_measure 16 = .ok (.iconst (-1), 1) := by decide +kernel
theorem dX5_measure_17 : decode cX5_measure 17 = .ok (.ireturn, 1) := by decide +kernel
theorem dX5_measure_18 : decode cX5_measure 18 = .ok (.aload_n 0, 1) := by decide +kernel
theorem dX5_measure_19 : decode cX5_measure 19 = .ok (.getfield 41, 3) := by decide +kernel
theorem dX5_measure_22 : decode cX5_measure 22 = .ok (.iload_n 1, 1) := by decide +kernel
theorem dX5_measure_23 : decode cX5_measure 23 = .ok (.baload, 1) := by decide +kernel
theorem dX5_measure_24 : decode cX5_measure 24 = .ok (.ifCond .eq 7, 3) := by decide +kernel
theorem dX5_measure_27 : decode cX5_measure 27 = .ok (.iconst 1, 1) := by decide +kernel
theorem dX5_measure_28 : decode cX5_measure 28 = .ok (.goto 4, 3) := by decide +kernel
theorem dX5_measure_31 : decode cX5_measure 31 = .ok (.iconst 0, 1) := by decide +kernel
theorem dX5_measure_32 : decode cX5_measure 32 = .ok (.istore_n 3, 1) := by decide +kernel
theorem dX5_measure_33 : decode cX5_measure 33 = .ok (.aload_n 0, 1) := by decide +kernel
theorem dX5_measure_34 : decode cX5_measure 34 = .ok (.getfield 41, 3) := by decide +kernel
theorem dX5_measure_37 : decode cX5_measure 37 = .ok (.iload_n 1, 1) := by decide +kernel
theorem dX5_measure_38 : decode cX5_measure 38 = .ok (.iconst 1, 1) := by decide +kernel
theorem dX5_measure_39 : decode cX5_measure 39 = .ok (.bastore, 1) := by decide +kernel
theorem dX5_measure_40 : decode cX5_measure 40 = .ok (.iconst 0, 1) := by decide +kernel
theorem dX5_measure_41 : decode cX5_measure 41 = .ok (.istore 4, 2) := by decide +kernel
theorem dX5_measure_43 : decode cX5_measure 43 = .ok (.iload 4, 2) := by decide +kernel
theorem dX5_measure_45 : decode cX5_measure 45 = .ok (.bipush 40, 2) := by decide +kernel
theorem dX5_measure_47 : decode cX5_measure 47 = .ok (.if_icmp .ge 41, 3) := by decide +kernel
theorem dX5_measure_50 : decode cX5_measure 50 = .ok (.aload_n 0, 1) := by decide +kernel
theorem dX5_measure_51 : decode cX5_measure 51 = .ok (.getfield 44, 3) := by decide +kernel
theorem dX5_measure_54 : decode cX5_measure 54 = .ok (.bipush 40, 2) := by decide +kernel
theorem dX5_measure_56 : decode cX5_measure 56 = .ok (.iload_n 1, 1) := by decide +kernel
theorem dX5_measure_57 : decode cX5_measure 57 = .ok (.imul, 1) := by decide +kernel
theorem dX5_measure_58 : decode cX5_measure 58 = .ok (.iload 4, 2) := by decide +kernel
theorem dX5_measure_60 : decode cX5_measure 60 = .ok (.iadd, 1) := by decide +kernel
theorem dX5_measure_61 : decode cX5_measure 61 = .ok (.iload 4, 2) := by decide +kernel
theorem dX5_measure_63 : decode cX5_measure 63 = .ok (.aload_n 0, 1) := by decide +kernel
theorem dX5_measure_64 : decode cX5_measure 64 = .ok (.getfield 72, 3) := by decide +kernel
theorem dX5_measure_67 : decode cX5_measure 67 = .ok (.if_icmp .ge 13, 3) := by decide +kernel
theorem dX5_measure_70 : decode cX5_measure 70 = .ok (.aload_n 0, 1) := by decide +kernel
theorem dX5_measure_71 : decode cX5_measure 71 = .ok (.iload 4, 2) := by decide +kernel
theorem dX5_measure_73 : decode cX5_measure 73 = .ok (.iload_n 2, 1) := by decide +kernel
theorem dX5_measure_74 : decode cX5_measure 74 = .ok (.invokevirtual 114, 3) := by decide +kernel
theorem dX5_measure_77 : decode cX5_measure 77 = .ok (.goto 4, 3) := by decide +kernel
theorem dX5_measure_80 : decode cX5_measure 80 = .ok (.iconst 0, 1) := by decide +kernel
theorem dX5_measure_81 : decode cX5_measure 81 = .ok (.iastore, 1) := by decide +kernel
theorem dX5_measure_82 : decode cX5_measure 82 = .ok (.iinc 4 1, 3) := by decide +kernel
theorem dX5_measure_85 : decode cX5_measure 85 = .ok (.goto (-42), 3) := by decide +kernel
theorem dX5_measure_88 : decode cX5_measure 88 = .ok (.iload_n 3, 1) := by decide +kernel
theorem dX5_measure_89 : decode cX5_measure 89 = .ok (.ireturn, 1) := by decide +kernel
theorem dX5_level_0 : decode cX5_level 0 = .ok (.iload_n 1, 1) := by decide +kernel
theorem dX5_level_1 : decode cX5_level 1 = .ok (.invokestatic 111, 3) := by decide +kernel
theorem dX5_level_4 : decode cX5_level 4 = .ok (.ifCond .ne 5, 3) := by decide +kernel
theorem dX5_level_7 : decode cX5_level 7 = .ok (.iconst (-1), 1) := by decide +kernel
theorem dX5_level_8 : decode cX5_level 8 = .ok (.ireturn, 1) := by decide +kernel
theorem dX5_level_9 : decode cX5_level 9 = .ok (.aload_n 0, 1) := by decide +kernel
theorem dX5_level_10 : decode cX5_level 10 = .ok (.getfield 41, 3) := by decide +kernel
theorem dX5_level_13 : decode cX5_level 13 = .ok (.iload_n 1, 1) := by decide +kernel
theorem dX5_level_14 : decode cX5_level 14 = .ok (.baload, 1) := by decide +kernel
theorem dX5_level_15 : decode cX5_level 15 = .ok (.ifCond .eq 7, 3) := by decide +kernel
theorem dX5_level_18 : decode cX5_level 18 = .ok (.iconst 1, 1) := by decide +kernel
theorem dX5_level_19 : decode cX5_level 19 = .ok (.goto 4, 3) := by decide +kernel
theorem dX5_level_22 : decode cX5_level 22 = .ok (.iconst 0, 1) := by decide +kernel
theorem dX5_level_23 : decode cX5_level 23 = .ok (.istore_n 2, 1) := by decide +kernel
theorem dX5_level_24 : decode cX5_level 24 = .ok (.aload_n 0, 1) := by decide +kernel
theorem dX5_level_25 : decode cX5_level 25 = .ok (.getfield 41, 3) := by decide +kernel
theorem dX5_level_28 : decode cX5_level 28 = .ok (.iload_n 1, 1) := by decide +kernel
theorem dX5_level_29 : decode cX5_level 29 = .ok (.iconst 1, 1) := by decide +kernel
theorem dX5_level_30 : decode cX5_level 30 = .ok (.bastore, 1) := by decide +kernel
theorem dX5_level_31 : decode cX5_level 31 = .ok (.iconst 0, 1) := by decide +kernel
theorem dX5_level_32 : decode cX5_level 32 = .ok (.istore_n 3, 1) := by decide +kernel
theorem dX5_level_33 : decode cX5_level 33 = .ok (.iload_n 3, 1) := by decide +kernel
theorem dX5_level_34 : decode cX5_level 34 = .ok (.bipush 40, 2) := by decide +kernel
theorem dX5_level_36 : decode cX5_level 36 = .ok (.if_icmp .ge 37, 3) := by decide +kernel
theorem dX5_level_39 : decode cX5_level 39 = .ok (.aload_n 0, 1) := by decide +kernel
theorem dX5_level_40 : decode cX5_level 40 = .ok (.getfield 44, 3) := by decide +kernel
theorem dX5_level_43 : decode cX5_level 43 = .ok (.bipush 40, 2) := by decide +kernel
theorem dX5_level_45 : decode cX5_level 45 = .ok (.iload_n 1, 1) := by decide +kernel
theorem dX5_level_46 : decode cX5_level 46 = .ok (.imul, 1) := by decide +kernel
theorem dX5_level_47 : decode cX5_level 47 = .ok (.iload_n 3, 1) := by decide +kernel
theorem dX5_level_48 : decode cX5_level 48 = .ok (.iadd, 1) := by decide +kernel
theorem dX5_level_49 : decode cX5_level 49 = .ok (.iload_n 3, 1) := by decide +kernel
theorem dX5_level_50 : decode cX5_level 50 = .ok (.aload_n 0, 1) := by decide +kernel
theorem dX5_level_51 : decode cX5_level 51 = .ok (.getfield 72, 3) := by decide +kernel
theorem dX5_level_54 : decode cX5_level 54 = .ok (.if_icmp .ge 11, 3) := by decide +kernel
theorem dX5_level_57 : decode cX5_level 57 = .ok (.aload_n 0, 1) := by decide +kernel
theorem dX5_level_58 : decode cX5_level 58 = .ok (.iload_n 3, 1) := by decide +kernel
theorem dX5_level_59 : decode cX5_level 59 = .ok (.invokevirtual 93, 3) := by decide +kernel
theorem dX5_level_62 : decode cX5_level 62 = .ok (.goto 4, 3) := by decide +kernel
theorem dX5_level_65 : decode cX5_level 65 = .ok (.iconst 0, 1) := by decide +kernel
theorem dX5_level_66 : decode cX5_level 66 = .ok (.iastore, 1) := by decide +kernel
theorem dX5_level_67 : decode cX5_level 67 = .ok (.iinc 3 1, 3) := by decide +kernel
theorem dX5_level_70 : decode cX5_level 70 = .ok (.goto (-37), 3) := by decide +kernel
theorem dX5_level_73 : decode cX5_level 73 = .ok (.iload_n 2, 1) := by decide +kernel
theorem dX5_level_74 : decode cX5_level 74 = .ok (.ireturn, 1) := by decide +kernel
theorem dX5_askedFor_0 : decode cX5_askedFor 0 = .ok (.iload_n 1, 1) := by decide +kernel
theorem dX5_askedFor_1 : decode cX5_askedFor 1 = .ok (.invokestatic 111, 3) := by decide +kernel
theorem dX5_askedFor_4 : decode cX5_askedFor 4 = .ok (.ifCond .ne 7, 3) := by decide +kernel
theorem dX5_askedFor_7 : decode cX5_askedFor 7 = .ok (.iconst (-1), 1) := by decide +kernel
theorem dX5_askedFor_8 : decode cX5_askedFor 8 = .ok (.goto 21, 3) := by decide +kernel
theorem dX5_askedFor_11 : decode cX5_askedFor 11 = .ok (.aload_n 0, 1) := by decide +kernel
theorem dX5_askedFor_12 : decode cX5_askedFor 12 = .ok (.getfield 41, 3) := by decide +kernel
theorem dX5_askedFor_15 : decode cX5_askedFor 15 = .ok (.iload_n 1, 1) := by decide +kernel
theorem dX5_askedFor_16 : decode cX5_askedFor 16 = .ok (.baload, 1) := by decide +kernel
theorem dX5_askedFor_17 : decode cX5_askedFor 17 = .ok (.ifCond .eq 7, 3) := by decide +kernel
theorem dX5_askedFor_20 : decode cX5_askedFor 20 = .ok (.iconst 0, 1) := by decide +kernel
theorem dX5_askedFor_21 : decode cX5_askedFor 21 = .ok (.goto 8, 3) := by decide +kernel
theorem dX5_askedFor_24 : decode cX5_askedFor 24 = .ok (.aload_n 0, 1) := by decide +kernel
theorem dX5_askedFor_25 : decode cX5_askedFor 25 = .ok (.iconst 1, 1) := by decide +kernel
theorem dX5_askedFor_26 : decode cX5_askedFor 26 = .ok (.invokevirtual 79, 3) := by decide +kernel
theorem dX5_askedFor_29 : decode cX5_askedFor 29 = .ok (.ireturn, 1) := by decide +kernel
theorem dX5_lay_0 : decode cX5_lay 0 = .ok (.iload_n 3, 1) := by decide +kernel
theorem dX5_lay_1 : decode cX5_lay 1 = .ok (.ldc 117, 2) := by decide +kernel
theorem dX5_lay_3 : decode cX5_lay 3 = .ok (.ldc 118, 2) := by decide +kernel
theorem dX5_lay_5 : decode cX5_lay 5 = .ok (.invokestatic 68, 3) := by decide +kernel
theorem dX5_lay_8 : decode cX5_lay 8 = .ok (.ifCond .ne 5, 3) := by decide +kernel
theorem dX5_lay_11 : decode cX5_lay 11 = .ok (.iconst (-1), 1) := by decide +kernel
theorem dX5_lay_12 : decode cX5_lay 12 = .ok (.ireturn, 1) := by decide +kernel
theorem dX5_lay_13 : decode cX5_lay 13 = .ok (.aload_n 0, 1) := by decide +kernel
theorem dX5_lay_14 : decode cX5_lay 14 = .ok (.iload_n 1, 1) := by decide +kernel
theorem dX5_lay_15 : decode cX5_lay 15 = .ok (.invokevirtual 119, 3) := by decide +kernel
theorem dX5_lay_18 : decode cX5_lay 18 = .ok (.istore 4, 2) := by decide +kernel
theorem dX5_lay_20 : decode cX5_lay 20 = .ok (.iload 4, 2) := by decide +kernel
theorem dX5_lay_22 : decode cX5_lay 22 = .ok (.ifCond .ge 6, 3) := by decide +kernel
theorem dX5_lay_25 : decode cX5_lay 25 = .ok (.iload 4, 2) := by decide +kernel
theorem dX5_lay_27 : decode cX5_lay 27 = .ok (.ireturn, 1) := by decide +kernel
theorem dX5_lay_28 : decode cX5_lay 28 = .ok (.iload_n 2, 1) := by decide +kernel
theorem dX5_lay_29 : decode cX5_lay 29 = .ok (.iconst 0, 1) := by decide +kernel
theorem dX5_lay_30 : decode cX5_lay 30 = .ok (.bipush 39, 2) := by decide +kernel
theorem dX5_lay_32 : decode cX5_lay 32 = .ok (.invokestatic 68, 3) := by decide +kernel
theorem dX5_lay_35 : decode cX5_lay 35 = .ok (.ifCond .ne 9, 3) := by decide +kernel
theorem dX5_lay_38 : decode cX5_lay 38 = .ok (.aload_n 0, 1) := by decide +kernel
theorem dX5_lay_39 : decode cX5_lay 39 = .ok (.iconst 2, 1) := by decide +kernel
theorem dX5_lay_40 : decode cX5_lay 40 = .ok (.invokevirtual 79, 3) := by decide +kernel
theorem dX5_lay_43 : decode cX5_lay 43 = .ok (.ireturn, 1) := by decide +kernel
theorem dX5_lay_44 : decode cX5_lay 44 = .ok (.aload_n 0, 1) := by decide +kernel
theorem dX5_lay_45 : decode cX5_lay 45 = .ok (.aload_n 0, 1) := by decide +kernel
theorem dX5_lay_46 : decode cX5_lay 46 = .ok (.getfield 44, 3) := by decide +kernel
theorem dX5_lay_49 : decode cX5_lay 49 = .ok (.bipush 40, 2) := by decide +kernel
theorem dX5_lay_51 : decode cX5_lay 51 = .ok (.iload_n 1, 1) := by decide +kernel
theorem dX5_lay_52 : decode cX5_lay 52 = .ok (.imul, 1) := by decide +kernel
theorem dX5_lay_53 : decode cX5_lay 53 = .ok (.iload_n 2, 1) := by decide +kernel
theorem dX5_lay_54 : decode cX5_lay 54 = .ok (.iadd, 1) := by decide +kernel
theorem dX5_lay_55 : decode cX5_lay 55 = .ok (.iaload, 1) := by decide +kernel
theorem dX5_lay_56 : decode cX5_lay 56 = .ok (.i2l, 1) := by decide +kernel
theorem dX5_lay_57 : decode cX5_lay 57 = .ok (.putfield 64, 3) := by decide +kernel
theorem dX5_lay_60 : decode cX5_lay 60 = .ok (.aload_n 0, 1) := by decide +kernel
theorem dX5_lay_61 : decode cX5_lay 61 = .ok (.getfield 44, 3) := by decide +kernel
theorem dX5_lay_64 : decode cX5_lay 64 = .ok (.bipush 40, 2) := by decide +kernel
theorem dX5_lay_66 : decode cX5_lay 66 = .ok (.iload_n 1, 1) := by decide +kernel
theorem dX5_lay_67 : decode cX5_lay 67 = .ok (.imul, 1) := by decide +kernel
theorem dX5_lay_68 : decode cX5_lay 68 = .ok (.iload_n 2, 1) := by decide +kernel
theorem dX5_lay_69 : decode cX5_lay 69 = .ok (.iadd, 1) := by decide +kernel
theorem dX5_lay_70 : decode cX5_lay 70 = .ok (.iload_n 3, 1) := by decide +kernel
theorem dX5_lay_71 : decode cX5_lay 71 = .ok (.iastore, 1) := by decide +kernel
theorem dX5_lay_72 : decode cX5_lay 72 = .ok (.iconst 1, 1) := by decide +kernel
theorem dX5_lay_73 : decode cX5_lay 73 = .ok (.ireturn, 1) := by decide +kernel
theorem dX5_at_0 : decode cX5_at 0 = .ok (.aload_n 0, 1) := by decide +kernel
theorem dX5_at_1 : decode cX5_at 1 = .ok (.iload_n 1, 1) := by decide +kernel
theorem dX5_at_2 : decode cX5_at 2 = .ok (.invokevirtual 119, 3) := by decide +kernel
theorem dX5_at_5 : decode cX5_at 5 = .ok (.istore_n 3, 1) := by decide +kernel
theorem dX5_at_6 : decode cX5_at 6 = .ok (.iload_n 3, 1) := by decide +kernel
theorem dX5_at_7 : decode cX5_at 7 = .ok (.ifCond .ge 7, 3) := by decide +kernel
theorem dX5_at_10 : decode cX5_at 10 = .ok (.iload_n 3, 1) := by decide +kernel
theorem dX5_at_11 : decode cX5_at 11 = .ok (.goto 38, 3) := by decide +kernel
theorem dX5_at_14 : decode cX5_at 14 = .ok (.iload_n 2, 1) := by decide +kernel
theorem dX5_at_15 : decode cX5_at 15 = .ok (.iconst 0, 1) := by decide +kernel
theorem dX5_at_16 : decode cX5_at 16 = .ok (.bipush 39, 2) := by decide +kernel
theorem dX5_at_18 : decode cX5_at 18 = .ok (.invokestatic 68, 3) := by decide +kernel
theorem dX5_at_21 : decode cX5_at 21 = .ok (.ifCond .eq 23, 3) := by decide +kernel
theorem dX5_at_24 : decode cX5_at 24 = .ok (.aload_n 0, 1) := by decide +kernel
theorem dX5_at_25 : decode cX5_at 25 = .ok (.aload_n 0, 1) := by decide +kernel
theorem dX5_at_26 : decode cX5_at 26 = .ok (.getfield 44, 3) := by decide +kernel
theorem dX5_at_29 : decode cX5_at 29 = .ok (.bipush 40, 2) := by decide +kernel
theorem dX5_at_31 : decode cX5_at 31 = .ok (.iload_n 1, 1) := by decide +kernel
theorem dX5_at_32 : decode cX5_at 32 = .ok (.imul, 1) := by decide +kernel
theorem dX5_at_33 : decode cX5_at 33 = .ok (.iload_n 2, 1) := by decide +kernel
theorem dX5_at_34 : decode cX5_at 34 = .ok (.iadd, 1) := by decide +kernel
theorem dX5_at_35 : decode cX5_at 35 = .ok (.iaload, 1) := by decide +kernel
theorem dX5_at_36 : decode cX5_at 36 = .ok (.i2l, 1) := by decide +kernel
theorem dX5_at_37 : decode cX5_at 37 = .ok (.iconst 1, 1) := by decide +kernel
theorem dX5_at_38 : decode cX5_at 38 = .ok (.invokevirtual 96, 3) := by decide +kernel
theorem dX5_at_41 : decode cX5_at 41 = .ok (.goto 8, 3) := by decide +kernel
theorem dX5_at_44 : decode cX5_at 44 = .ok (.aload_n 0, 1) := by decide +kernel
theorem dX5_at_45 : decode cX5_at 45 = .ok (.iconst 2, 1) := by decide +kernel
theorem dX5_at_46 : decode cX5_at 46 = .ok (.invokevirtual 79, 3) := by decide +kernel
theorem dX5_at_49 : decode cX5_at 49 = .ok (.ireturn, 1) := by decide +kernel
theorem dX5_shape_0 : decode cX5_shape 0 = .ok (.iload_n 2, 1) := by decide +kernel
theorem dX5_shape_1 : decode cX5_shape 1 = .ok (.sipush (-10000), 3) := by decide +kernel
theorem dX5_shape_4 : decode cX5_shape 4 = .ok (.sipush 10000, 3) := by decide +kernel
theorem dX5_shape_7 : decode cX5_shape 7 = .ok (.invokestatic 68, 3) := by decide +kernel
theorem dX5_shape_10 : decode cX5_shape 10 = .ok (.ifCond .eq 16, 3) := by decide +kernel
theorem dX5_shape_13 : decode cX5_shape 13 = .ok (.iload_n 3, 1) := by decide +kernel
theorem dX5_shape_14 : decode cX5_shape 14 = .ok (.sipush (-10000), 3) := by decide +kernel
theorem dX5_shape_17 : decode cX5_shape 17 = .ok (.sipush 10000, 3) := by decide +kernel
theorem dX5_shape_20 : decode cX5_shape 20 = .ok (.invokestatic 68, 3) := by decide +kernel
theorem dX5_shape_23 : decode cX5_shape 23 = .ok (.ifCond .ne 5, 3) := by decide +kernel
theorem dX5_shape_26 : decode cX5_shape 26 = .ok (.iconst (-1), 1) := by decide +kernel
theorem dX5_shape_27 : decode cX5_shape 27 = .ok (.ireturn, 1) := by decide +kernel
theorem dX5_shape_28 : decode cX5_shape 28 = .ok (.aload_n 0, 1) := by decide +kernel
theorem dX5_shape_29 : decode cX5_shape 29 = .ok (.iload_n 1, 1) := by decide +kernel
theorem dX5_shape_30 : decode cX5_shape 30 = .ok (.invokevirtual 119, 3) := by decide +kernel
theorem dX5_shape_33 : decode cX5_shape 33 = .ok (.istore 4, 2) := by decide +kernel
theorem dX5_shape_35 : decode cX5_shape 35 = .ok (.iload 4, 2) := by decide +kernel
theorem dX5_shape_37 : decode cX5_shape 37 = .ok (.ifCond .ge 6, 3) := by decide +kernel
theorem dX5_shape_40 : decode cX5_shape 40 = .ok (.iload 4, 2) := by decide +kernel
theorem dX5_shape_42 : decode cX5_shape 42 = .ok (.ireturn, 1) := by decide +kernel
theorem dX5_shape_43 : decode cX5_shape 43 = .ok (.aload_n 0, 1) := by decide +kernel
theorem dX5_shape_44 : decode cX5_shape 44 = .ok (.getfield 47, 3) := by decide +kernel
theorem dX5_shape_47 : decode cX5_shape 47 = .ok (.iconst 0, 1) := by decide +kernel
theorem dX5_shape_48 : decode cX5_shape 48 = .ok (.iload_n 2, 1) := by decide +kernel
theorem dX5_shape_49 : decode cX5_shape 49 = .ok (.iastore, 1) := by decide +kernel
theorem dX5_shape_50 : decode cX5_shape 50 = .ok (.aload_n 0, 1) := by decide +kernel
theorem dX5_shape_51 : decode cX5_shape 51 = .ok (.getfield 47, 3) := by decide +kernel
theorem dX5_shape_54 : decode cX5_shape 54 = .ok (.iconst 1, 1) := by decide +kernel
theorem dX5_shape_55 : decode cX5_shape 55 = .ok (.iload_n 3, 1) := by decide +kernel
theorem dX5_shape_56 : decode cX5_shape 56 = .ok (.iastore, 1) := by decide +kernel
theorem dX5_shape_57 : decode cX5_shape 57 = .ok (.iconst 1, 1) := by decide +kernel
theorem dX5_shape_58 : decode cX5_shape 58 = .ok (.istore 5, 2) := by decide +kernel
theorem dX5_shape_60 : decode cX5_shape 60 = .ok (.iload 5, 2) := by decide +kernel
theorem dX5_shape_62 : decode cX5_shape 62 = .ok (.iconst 1, 1) := by decide +kernel
theorem dX5_shape_63 : decode cX5_shape 63 = .ok (.iadd, 1) := by decide +kernel
theorem dX5_shape_64 : decode cX5_shape 64 = .ok (.aload_n 0, 1) := by decide +kernel
theorem dX5_shape_65 : decode cX5_shape 65 = .ok (.getfield 72, 3) := by decide +kernel
theorem dX5_shape_68 : decode cX5_shape 68 = .ok (.if_icmp .ge 50, 3) := by decide +kernel
theorem dX5_shape_71 : decode cX5_shape 71 = .ok (.aload_n 0, 1) := by decide +kernel
theorem dX5_shape_72 : decode cX5_shape 72 = .ok (.getfield 47, 3) := by decide +kernel
theorem dX5_shape_75 : decode cX5_shape 75 = .ok (.iload 5, 2) := by decide +kernel
theorem dX5_shape_77 : decode cX5_shape 77 = .ok (.iconst 1, 1) := by decide +kernel
theorem dX5_shape_78 : decode cX5_shape 78 = .ok (.iadd, 1) := by decide +kernel
theorem dX5_shape_79 : decode cX5_shape 79 = .ok (.iconst 2, 1) := by decide +kernel
theorem dX5_shape_80 : decode cX5_shape 80 = .ok (.aload_n 0, 1) := by decide +kernel
theorem dX5_shape_81 : decode cX5_shape 81 = .ok (.getfield 47, 3) := by decide +kernel
theorem dX5_shape_84 : decode cX5_shape 84 = .ok (.iload 5, 2) := by decide +kernel
theorem dX5_shape_86 : decode cX5_shape 86 = .ok (.iaload, 1) := by decide +kernel
theorem dX5_shape_87 : decode cX5_shape 87 = .ok (.imul, 1) := by decide +kernel
theorem dX5_shape_88 : decode cX5_shape 88 = .ok (.aload_n 0, 1) := by decide +kernel
theorem dX5_shape_89 : decode cX5_shape 89 = .ok (.getfield 47, 3) := by decide +kernel
theorem dX5_shape_92 : decode cX5_shape 92 = .ok (.iload 5, 2) := by decide +kernel
theorem dX5_shape_94 : decode cX5_shape 94 = .ok (.iconst 1, 1) := by decide +kernel
theorem dX5_shape_95 : decode cX5_shape 95 = .ok (.isub, 1) := by decide +kernel
theorem dX5_shape_96 : decode cX5_shape 96 = .ok (.iaload, 1) := by decide +kernel
theorem dX5_shape_97 : decode cX5_shape 97 = .ok (.isub, 1) := by decide +kernel
theorem dX5_shape_98 : decode cX5_shape 98 = .ok (.aload_n 0, 1) := by decide +kernel
theorem dX5_shape_99 : decode cX5_shape 99 = .ok (.getfield 44, 3) := by decide +kernel
theorem dX5_shape_102 : decode cX5_shape 102 = .ok (.bipush 40, 2) := by decide +kernel
theorem dX5_shape_104 : decode cX5_shape 104 = .ok (.iload_n 1, 1) := by decide +kernel
theorem dX5_shape_105 : decode cX5_shape 105 = .ok (.imul, 1) := by decide +kernel
theorem dX5_shape_106 : decode cX5_shape 106 = .ok (.iload 5, 2) := by decide +kernel
theorem dX5_shape_108 : decode cX5_shape 108 = .ok (.iadd, 1) := by decide +kernel
theorem dX5_shape_109 : decode cX5_shape 109 = .ok (.iaload, 1) := by decide +kernel
theorem dX5_shape_110 : decode cX5_shape 110 = .ok (.isub, 1) := by decide +kernel
theorem dX5_shape_111 : decode cX5_shape 111 = .ok (.iastore, 1) := by decide +kernel
theorem dX5_shape_112 : decode cX5_shape 112 = .ok (.iinc 5 1, 3) := by decide +kernel
theorem dX5_shape_115 : decode cX5_shape 115 = .ok (.goto (-55), 3) := by decide +kernel
theorem dX5_shape_118 : decode cX5_shape 118 = .ok (.iconst 0, 1) := by decide +kernel
theorem dX5_shape_119 : decode cX5_shape 119 = .ok (.istore 5, 2) := by decide +kernel
theorem dX5_shape_121 : decode cX5_shape 121 = .ok (.iload 5, 2) := by decide +kernel
theorem dX5_shape_123 : decode cX5_shape 123 = .ok (.bipush 40, 2) := by decide +kernel
theorem dX5_shape_125 : decode cX5_shape 125 = .ok (.if_icmp .ge 41, 3) := by decide +kernel
theorem dX5_shape_128 : decode cX5_shape 128 = .ok (.aload_n 0, 1) := by decide +kernel
theorem dX5_shape_129 : decode cX5_shape 129 = .ok (.getfield 44, 3) := by decide +kernel
theorem dX5_shape_132 : decode cX5_shape 132 = .ok (.bipush 40, 2) := by decide +kernel
theorem dX5_shape_134 : decode cX5_shape 134 = .ok (.iload_n 1, 1) := by decide +kernel
theorem dX5_shape_135 : decode cX5_shape 135 = .ok (.imul, 1) := by decide +kernel
theorem dX5_shape_136 : decode cX5_shape 136 = .ok (.iload 5, 2) := by decide +kernel
theorem dX5_shape_138 : decode cX5_shape 138 = .ok (.iadd, 1) := by decide +kernel
theorem dX5_shape_139 : decode cX5_shape 139 = .ok (.iload 5, 2) := by decide +kernel
theorem dX5_shape_141 : decode cX5_shape 141 = .ok (.aload_n 0, 1) := by decide +kernel
theorem dX5_shape_142 : decode cX5_shape 142 = .ok (.getfield 72, 3) := by decide +kernel
theorem dX5_shape_145 : decode cX5_shape 145 = .ok (.if_icmp .ge 13, 3) := by decide +kernel
theorem dX5_shape_148 : decode cX5_shape 148 = .ok (.aload_n 0, 1) := by decide +kernel
theorem dX5_shape_149 : decode cX5_shape 149 = .ok (.getfield 47, 3) := by decide +kernel
theorem dX5_shape_152 : decode cX5_shape 152 = .ok (.iload 5, 2) := by decide +kernel
theorem dX5_shape_154 : decode cX5_shape 154 = .ok (.iaload, 1) := by decide +kernel
theorem dX5_shape_155 : decode cX5_shape 155 = .ok (.goto 4, 3) := by decide +kernel
theorem dX5_shape_158 : decode cX5_shape 158 = .ok (.iconst 0, 1) := by decide +kernel
theorem dX5_shape_159 : decode cX5_shape 159 = .ok (.iastore, 1) := by decide +kernel
theorem dX5_shape_160 : decode cX5_shape 160 = .ok (.iinc 5 1, 3) := by decide +kernel
theorem dX5_shape_163 : decode cX5_shape 163 = .ok (.goto (-42), 3) := by decide +kernel
theorem dX5_shape_166 : decode cX5_shape 166 = .ok (.iconst 1, 1) := by decide +kernel
theorem dX5_shape_167 : decode cX5_shape 167 = .ok (.ireturn, 1) := by decide +kernel
theorem dX5_tear_0 : decode cX5_tear 0 = .ok (.aload_n 0, 1) := by decide +kernel
theorem dX5_tear_1 : decode cX5_tear 1 = .ok (.iload_n 1, 1) := by decide +kernel
theorem dX5_tear_2 : decode cX5_tear 2 = .ok (.invokevirtual 119, 3) := by decide +kernel
theorem dX5_tear_5 : decode cX5_tear 5 = .ok (.istore_n 2, 1) := by decide +kernel
theorem dX5_tear_6 : decode cX5_tear 6 = .ok (.iload_n 2, 1) := by decide +kernel
theorem dX5_tear_7 : decode cX5_tear 7 = .ok (.ifCond .ge 5, 3) := by decide +kernel
theorem dX5_tear_10 : decode cX5_tear 10 = .ok (.iload_n 2, 1) := by decide +kernel
theorem dX5_tear_11 : decode cX5_tear 11 = .ok (.ireturn, 1) := by decide +kernel
theorem dX5_tear_12 : decode cX5_tear 12 = .ok (.aload_n 0, 1) := by decide +kernel
theorem dX5_tear_13 : decode cX5_tear 13 = .ok (.getfield 41, 3) := by decide +kernel
theorem dX5_tear_16 : decode cX5_tear 16 = .ok (.iload_n 1, 1) := by decide +kernel
theorem dX5_tear_17 : decode cX5_tear 17 = .ok (.iconst 0, 1) := by decide +kernel
theorem dX5_tear_18 : decode cX5_tear 18 = .ok (.bastore, 1) := by decide +kernel
theorem dX5_tear_19 : decode cX5_tear 19 = .ok (.iconst 1, 1) := by decide +kernel
theorem dX5_tear_20 : decode cX5_tear 20 = .ok (.ireturn, 1) := by decide +kernel
theorem dX5_copy_0 : decode cX5_copy 0 = .ok (.iload_n 1, 1) := by decide +kernel
theorem dX5_copy_1 : decode cX5_copy 1 = .ok (.invokestatic 111, 3) := by decide +kernel
theorem dX5_copy_4 : decode cX5_copy 4 = .ok (.ifCond .eq 10, 3) := by decide +kernel
theorem dX5_copy_7 : decode cX5_copy 7 = .ok (.iload_n 3, 1) := by decide +kernel
theorem dX5_copy_8 : decode cX5_copy 8 = .ok (.invokestatic 111, 3) := by decide +kernel
theorem dX5_copy_11 : decode cX5_copy 11 = .ok (.ifCond .ne 5, 3) := by decide +kernel
theorem dX5_copy_14 : decode cX5_copy 14 = .ok (.iconst (-1), 1) := by decide +kernel
theorem dX5_copy_15 : decode cX5_copy 15 = .ok (.ireturn, 1) := by decide +kernel
theorem dX5_copy_16 : decode cX5_copy 16 = .ok (.iload 5, 2) := by decide +kernel
theorem dX5_copy_18 : decode cX5_copy 18 = .ok (.ifCond .ge 9, 3) := by decide +kernel
theorem dX5_copy_21 : decode cX5_copy 21 = .ok (.aload_n 0, 1) := by decide +kernel
theorem dX5_copy_22 : decode cX5_copy 22 = .ok (.iconst 5, 1) := by decide +kernel
theorem dX5_copy_23 : decode cX5_copy 23 = .ok (.invokevirtual 79, 3) := by decide +kernel
theorem dX5_copy_26 : decode cX5_copy 26 = .ok (.ireturn, 1) := by decide +kernel
theorem dX5_copy_27 : decode cX5_copy 27 = .ok (.aload_n 0, 1) := by decide +kernel
theorem dX5_copy_28 : decode cX5_copy 28 = .ok (.getfield 41, 3) := by decide +kernel
theorem dX5_copy_31 : decode cX5_copy 31 = .ok (.iload_n 1, 1) := by decide +kernel
theorem dX5_copy_32 : decode cX5_copy 32 = .ok (.baload, 1) := by decide +kernel
theorem dX5_copy_33 : decode cX5_copy 33 = .ok (.ifCond .eq 12, 3) := by decide +kernel
theorem dX5_copy_36 : decode cX5_copy 36 = .ok (.aload_n 0, 1) := by decide +kernel
theorem dX5_copy_37 : decode cX5_copy 37 = .ok (.getfield 41, 3) := by decide +kernel
theorem dX5_copy_40 : decode cX5_copy 40 = .ok (.iload_n 3, 1) := by decide +kernel
theorem dX5_copy_41 : decode cX5_copy 41 = .ok (.baload, 1) := by decide +kernel
theorem dX5_copy_42 : decode cX5_copy 42 = .ok (.ifCond .ne 9, 3) := by decide +kernel
theorem dX5_copy_45 : decode cX5_copy 45 = .ok (.aload_n 0, 1) := by decide +kernel
theorem dX5_copy_46 : decode cX5_copy 46 = .ok (.iconst 1, 1) := by decide +kernel
theorem dX5_copy_47 : decode cX5_copy 47 = .ok (.invokevirtual 79, 3) := by decide +kernel
theorem dX5_copy_50 : decode cX5_copy 50 = .ok (.ireturn, 1) := by decide +kernel
theorem dX5_copy_51 : decode cX5_copy 51 = .ok (.iload_n 2, 1) := by decide +kernel
theorem dX5_copy_52 : decode cX5_copy 52 = .ok (.ifCond .lt 35, 3) := by decide +kernel
theorem dX5_copy_55 : decode cX5_copy 55 = .ok (.iload 4, 2) := by decide +kernel
theorem dX5_copy_57 : decode cX5_copy 57 = .ok (.ifCond .lt 30, 3) := by decide +kernel
theorem dX5_copy_60 : decode cX5_copy 60 = .ok (.iload_n 2, 1) := by decide +kernel
theorem dX5_copy_61 : decode cX5_copy 61 = .ok (.i2l, 1) := by decide +kernel
theorem dX5_copy_62 : decode cX5_copy 62 = .ok (.iload 5, 2) := by decide +kernel
theorem dX5_copy_64 : decode cX5_copy 64 = .ok (.i2l, 1) := by decide +kernel
theorem dX5_copy_65 : decode cX5_copy 65 = .ok (.ladd, 1) := by decide +kernel
theorem dX5_copy_66 : decode cX5_copy 66 = .ok (.ldc2_w 122, 3) := by decide +kernel
theorem dX5_copy_69 : decode cX5_copy 69 = .ok (.lcmp, 1) := by decide +kernel
theorem dX5_copy_70 : decode cX5_copy 70 = .ok (.ifCond .gt 17, 3) := by decide +kernel
theorem dX5_copy_73 : decode cX5_copy 73 = .ok (.iload 4, 2) := by decide +kernel
theorem dX5_copy_75 : decode cX5_copy 75 = .ok (.i2l, 1) := by decide +kernel
theorem dX5_copy_76 : decode cX5_copy 76 = .ok (.iload 5, 2) := by decide +kernel
theorem dX5_copy_78 : decode cX5_copy 78 = .ok (.i2l, 1) := by decide +kernel
theorem dX5_copy_79 : decode cX5_copy 79 = .ok (.ladd, 1) := by decide +kernel
theorem dX5_copy_80 : decode cX5_copy 80 = .ok (.ldc2_w 122, 3) := by decide +kernel
theorem dX5_copy_83 : decode cX5_copy 83 = .ok (.lcmp, 1) := by decide +kernel
theorem dX5_copy_84 : decode cX5_copy 84 = .ok (.ifCond .le 9, 3) := by decide +kernel
theorem dX5_copy_87 : decode cX5_copy 87 = .ok (.aload_n 0, 1) := by decide +kernel
theorem dX5_copy_88 : decode cX5_copy 88 = .ok (.iconst 2, 1) := by decide +kernel
theorem dX5_copy_89 : decode cX5_copy 89 = .ok (.invokevirtual 79, 3) := by decide +kernel
theorem dX5_copy_92 : decode cX5_copy 92 = .ok (.ireturn, 1) := by decide +kernel
theorem dX5_copy_93 : decode cX5_copy 93 = .ok (.iconst 0, 1) := by decide +kernel
theorem dX5_copy_94 : decode cX5_copy 94 = .ok (.istore 6, 2) := by decide +kernel
theorem dX5_copy_96 : decode cX5_copy 96 = .ok (.iload 6, 2) := by decide +kernel
theorem dX5_copy_98 : decode cX5_copy 98 = .ok (.iload 5, 2) := by decide +kernel
theorem dX5_copy_100 : decode cX5_copy 100 = .ok (.if_icmp .ge 30, 3) := by decide +kernel
theorem dX5_copy_103 : decode cX5_copy 103 = .ok (.aload_n 0, 1) := by decide +kernel
theorem dX5_copy_104 : decode cX5_copy 104 = .ok (.getfield 47, 3) := by decide +kernel
theorem dX5_copy_107 : decode cX5_copy 107 = .ok (.iload 6, 2) := by decide +kernel
theorem dX5_copy_109 : decode cX5_copy 109 = .ok (.aload_n 0, 1) := by decide +kernel
theorem dX5_copy_110 : decode cX5_copy 110 = .ok (.getfield 44, 3) := by decide +kernel
theorem dX5_copy_113 : decode cX5_copy 113 = .ok (.bipush 40, 2) := by decide +kernel
theorem dX5_copy_115 : decode cX5_copy 115 = .ok (.iload_n 1, 1) := by decide +kernel
theorem dX5_copy_116 : decode cX5_copy 116 = .ok (.imul, 1) := by decide +kernel
theorem dX5_copy_117 : decode cX5_copy 117 = .ok (.iload_n 2, 1) := by decide +kernel
theorem dX5_copy_118 : decode cX5_copy 118 = .ok (.iadd, 1) := by decide +kernel
theorem dX5_copy_119 : decode cX5_copy 119 = .ok (.iload 6, 2) := by decide +kernel
theorem dX5_copy_121 : decode cX5_copy 121 = .ok (.iadd, 1) := by decide +kernel
theorem dX5_copy_122 : decode cX5_copy 122 = .ok (.iaload, 1) := by decide +kernel
theorem dX5_copy_123 : decode cX5_copy 123 = .ok (.iastore, 1) := by decide +kernel
theorem dX5_copy_124 : decode cX5_copy 124 = .ok (.iinc 6 1, 3) := by decide +kernel
theorem dX5_copy_127 : decode cX5_copy 127 = .ok (.goto (-31), 3) := by decide +kernel
theorem dX5_copy_130 : decode cX5_copy 130 = .ok (.iconst 0, 1) := by decide +kernel
theorem dX5_copy_131 : decode cX5_copy 131 = .ok (.istore 6, 2) := by decide +kernel
theorem dX5_copy_133 : decode cX5_copy 133 = .ok (.iload 6, 2) := by decide +kernel
theorem dX5_copy_135 : decode cX5_copy 135 = .ok (.iload 5, 2) := by decide +kernel
theorem dX5_copy_137 : decode cX5_copy 137 = .ok (.if_icmp .ge 31, 3) := by decide +kernel
theorem dX5_copy_140 : decode cX5_copy 140 = .ok (.aload_n 0, 1) := by decide +kernel
theorem dX5_copy_141 : decode cX5_copy 141 = .ok (.getfield 44, 3) := by decide +kernel
theorem dX5_copy_144 : decode cX5_copy 144 = .ok (.bipush 40, 2) := by decide +kernel
theorem dX5_copy_146 : decode cX5_copy 146 = .ok (.iload_n 3, 1) := by decide +kernel
theorem dX5_copy_147 : decode cX5_copy 147 = .ok (.imul, 1) := by decide +kernel
theorem dX5_copy_148 : decode cX5_copy 148 = .ok (.iload 4, 2) := by decide +kernel
theorem dX5_copy_150 : decode cX5_copy 150 = .ok (.iadd, 1) := by decide +kernel
theorem dX5_copy_151 : decode cX5_copy 151 = .ok (.iload 6, 2) := by decide +kernel
theorem dX5_copy_153 : decode cX5_copy 153 = .ok (.iadd, 1) := by decide +kernel
theorem dX5_copy_154 : decode cX5_copy 154 = .ok (.aload_n 0, 1) := by decide +kernel
theorem dX5_copy_155 : decode cX5_copy 155 = .ok (.getfield 47, 3) := by decide +kernel
theorem dX5_copy_158 : decode cX5_copy 158 = .ok (.iload 6, 2) := by decide +kernel
theorem dX5_copy_160 : decode cX5_copy 160 = .ok (.iaload, 1) := by decide +kernel
theorem dX5_copy_161 : decode cX5_copy 161 = .ok (.iastore, 1) := by decide +kernel
theorem dX5_copy_162 : decode cX5_copy 162 = .ok (.iinc 6 1, 3) := by decide +kernel
theorem dX5_copy_165 : decode cX5_copy 165 = .ok (.goto (-32), 3) := by decide +kernel
theorem dX5_copy_168 : decode cX5_copy 168 = .ok (.iconst 1, 1) := by decide +kernel
theorem dX5_copy_169 : decode cX5_copy 169 = .ok (.ireturn, 1) := by decide +kernel
theorem dX5_apart_0 : decode cX5_apart 0 = .ok (.lconst 0, 1) := by decide +kernel
theorem dX5_apart_1 : decode cX5_apart 1 = .ok (.lstore 4, 2) := by decide +kernel
theorem dX5_apart_3 : decode cX5_apart 3 = .ok (.iconst 5, 1) := by decide +kernel
theorem dX5_apart_4 : decode cX5_apart 4 = .ok (.istore 6, 2) := by decide +kernel
theorem dX5_apart_6 : decode cX5_apart 6 = .ok (.iload 6, 2) := by decide +kernel
theorem dX5_apart_8 : decode cX5_apart 8 = .ok (.aload_n 0, 1) := by decide +kernel
theorem dX5_apart_9 : decode cX5_apart 9 = .ok (.getfield 72, 3) := by decide +kernel
theorem dX5_apart_12 : decode cX5_apart 12 = .ok (.bipush 6, 2) := by decide +kernel
theorem dX5_apart_14 : decode cX5_apart 14 = .ok (.isub, 1) := by decide +kernel
theorem dX5_apart_15 : decode cX5_apart 15 = .ok (.if_icmp .gt 50, 3) := by decide +kernel
theorem dX5_apart_18 : decode cX5_apart 18 = .ok (.aload_n 0, 1) := by decide +kernel
theorem dX5_apart_19 : decode cX5_apart 19 = .ok (.getfield 44, 3) := by decide +kernel
theorem dX5_apart_22 : decode cX5_apart 22 = .ok (.bipush 40, 2) := by decide +kernel
theorem dX5_apart_24 : decode cX5_apart 24 = .ok (.iload_n 1, 1) := by decide +kernel
theorem dX5_apart_25 : decode cX5_apart 25 = .ok (.imul, 1) := by decide +kernel
theorem dX5_apart_26 : decode cX5_apart 26 = .ok (.iload 6, 2) := by decide +kernel
theorem dX5_apart_28 : decode cX5_apart 28 = .ok (.iadd, 1) := by decide +kernel
theorem dX5_apart_29 : decode cX5_apart 29 = .ok (.iaload, 1) := by decide +kernel
theorem dX5_apart_30 : decode cX5_apart 30 = .ok (.i2l, 1) := by decide +kernel
theorem dX5_apart_31 : decode cX5_apart 31 = .ok (.aload_n 0, 1) := by decide +kernel
theorem dX5_apart_32 : decode cX5_apart 32 = .ok (.getfield 44, 3) := by decide +kernel
theorem dX5_apart_35 : decode cX5_apart 35 = .ok (.bipush 40, 2) := by decide +kernel
theorem dX5_apart_37 : decode cX5_apart 37 = .ok (.iload_n 2, 1) := by decide +kernel
theorem dX5_apart_38 : decode cX5_apart 38 = .ok (.imul, 1) := by decide +kernel
theorem dX5_apart_39 : decode cX5_apart 39 = .ok (.iload 6, 2) := by decide +kernel
theorem dX5_apart_41 : decode cX5_apart 41 = .ok (.iadd, 1) := by decide +kernel
theorem dX5_apart_42 : decode cX5_apart 42 = .ok (.iload_n 3, 1) := by decide +kernel
theorem dX5_apart_43 : decode cX5_apart 43 = .ok (.iadd, 1) := by decide +kernel
theorem dX5_apart_44 : decode cX5_apart 44 = .ok (.iaload, 1) := by decide +kernel
theorem dX5_apart_45 : decode cX5_apart 45 = .ok (.i2l, 1) := by decide +kernel
theorem dX5_apart_46 : decode cX5_apart 46 = .ok (.lsub, 1) := by decide +kernel
theorem dX5_apart_47 : decode cX5_apart 47 = .ok (.lstore 7, 2) := by decide +kernel
theorem dX5_apart_49 : decode cX5_apart 49 = .ok (.lload 4, 2) := by decide +kernel
theorem dX5_apart_51 : decode cX5_apart 51 = .ok (.lload 7, 2) := by decide +kernel
theorem dX5_apart_53 : decode cX5_apart 53 = .ok (.lload 7, 2) := by decide +kernel
theorem dX5_apart_55 : decode cX5_apart 55 = .ok (.lmul, 1) := by decide +kernel
theorem dX5_apart_56 : decode cX5_apart 56 = .ok (.ladd, 1) := by decide +kernel
theorem dX5_apart_57 : decode cX5_apart 57 = .ok (.lstore 4, 2) := by decide +kernel
theorem dX5_apart_59 : decode cX5_apart 59 = .ok (.iinc 6 1, 3) := by decide +kernel
theorem dX5_apart_62 : decode cX5_apart 62 = .ok (.goto (-56), 3) := by decide +kernel
theorem dX5_apart_65 : decode cX5_apart 65 = .ok (.lload 4, 2) := by decide +kernel
theorem dX5_apart_67 : decode cX5_apart 67 = .ok (.lreturn, 1) := by decide +kernel
theorem dX5_fit_0 : decode cX5_fit 0 = .ok (.iload_n 1, 1) := by decide +kernel
theorem dX5_fit_1 : decode cX5_fit 1 = .ok (.invokestatic 111, 3) := by decide +kernel
theorem dX5_fit_4 : decode cX5_fit 4 = .ok (.ifCond .eq 10, 3) := by decide +kernel
theorem dX5_fit_7 : decode cX5_fit 7 = .ok (.iload_n 2, 1) := by decide +kernel
theorem dX5_fit_8 : decode cX5_fit 8 = .ok (.invokestatic 111, 3) := by decide +kernel
theorem dX5_fit_11 : decode cX5_fit 11 = .ok (.ifCond .ne 5, 3) := by decide +kernel
theorem dX5_fit_14 : decode cX5_fit 14 = .ok (.iconst (-1), 1) := by decide +kernel
theorem dX5_fit_15 : decode cX5_fit 15 = .ok (.ireturn, 1) := by decide +kernel
theorem dX5_fit_16 : decode cX5_fit 16 = .ok (.aload_n 0, 1) := by decide +kernel
theorem dX5_fit_17 : decode cX5_fit 17 = .ok (.getfield 72, 3) := by decide +kernel
theorem dX5_fit_20 : decode cX5_fit 20 = .ok (.bipush 11, 2) := by decide +kernel
theorem dX5_fit_22 : decode cX5_fit 22 = .ok (.if_icmp .ge 6, 3) := by decide +kernel
theorem dX5_fit_25 : decode cX5_fit 25 = .ok (.bipush (-4), 2) := by decide +kernel
theorem dX5_fit_27 : decode cX5_fit 27 = .ok (.ireturn, 1) := by decide +kernel
theorem dX5_fit_28 : decode cX5_fit 28 = .ok (.aload_n 0, 1) := by decide +kernel
theorem dX5_fit_29 : decode cX5_fit 29 = .ok (.getfield 41, 3) := by decide +kernel
theorem dX5_fit_32 : decode cX5_fit 32 = .ok (.iload_n 1, 1) := by decide +kernel
theorem dX5_fit_33 : decode cX5_fit 33 = .ok (.baload, 1) := by decide +kernel
theorem dX5_fit_34 : decode cX5_fit 34 = .ok (.ifCond .eq 12, 3) := by decide +kernel
theorem dX5_fit_37 : decode cX5_fit 37 = .ok (.aload_n 0, 1) := by decide +kernel
theorem dX5_fit_38 : decode cX5_fit 38 = .ok (.getfield 41, 3) := by decide +kernel
theorem dX5_fit_41 : decode cX5_fit 41 = .ok (.iload_n 2, 1) := by decide +kernel
theorem dX5_fit_42 : decode cX5_fit 42 = .ok (.baload, 1) := by decide +kernel
theorem dX5_fit_43 : decode cX5_fit 43 = .ok (.ifCond .ne 9, 3) := by decide +kernel
theorem dX5_fit_46 : decode cX5_fit 46 = .ok (.aload_n 0, 1) := by decide +kernel
theorem dX5_fit_47 : decode cX5_fit 47 = .ok (.iconst 1, 1) := by decide +kernel
theorem dX5_fit_48 : decode cX5_fit 48 = .ok (.invokevirtual 79, 3) := by decide +kernel
theorem dX5_fit_51 : decode cX5_fit 51 = .ok (.ireturn, 1) := by decide +kernel
theorem dX5_fit_52 : decode cX5_fit 52 = .ok (.iconst 0, 1) := by decide +kernel
theorem dX5_fit_53 : decode cX5_fit 53 = .ok (.istore_n 3, 1) := by decide +kernel
theorem dX5_fit_54 : decode cX5_fit 54 = .ok (.iconst 1, 1) := by decide +kernel
theorem dX5_fit_55 : decode cX5_fit 55 = .ok (.istore 4, 2) := by decide +kernel
theorem dX5_fit_57 : decode cX5_fit 57 = .ok (.iload 4, 2) := by decide +kernel
theorem dX5_fit_59 : decode cX5_fit 59 = .ok (.iconst 5, 1) := by decide +kernel
theorem dX5_fit_60 : decode cX5_fit 60 = .ok (.if_icmp .gt 63, 3) := by decide +kernel
theorem dX5_fit_63 : decode cX5_fit 63 = .ok (.aload_n 0, 1) := by decide +kernel
theorem dX5_fit_64 : decode cX5_fit 64 = .ok (.iload_n 1, 1) := by decide +kernel
theorem dX5_fit_65 : decode cX5_fit 65 = .ok (.iload_n 2, 1) := by decide +kernel
theorem dX5_fit_66 : decode cX5_fit 66 = .ok (.iload 4, 2) := by decide +kernel
theorem dX5_fit_68 : decode cX5_fit 68 = .ok (.ineg, 1) := by decide +kernel
theorem dX5_fit_69 : decode cX5_fit 69 = .ok (.invokevirtual 124, 3) := by decide +kernel
theorem dX5_fit_72 : decode cX5_fit 72 = .ok (.aload_n 0, 1) := by decide +kernel
theorem dX5_fit_73 : decode cX5_fit 73 = .ok (.iload_n 1, 1) := by decide +kernel
theorem dX5_fit_74 : decode cX5_fit 74 = .ok (.iload_n 2, 1) := by decide +kernel
theorem dX5_fit_75 : decode cX5_fit 75 = .ok (.iload_n 3, 1) := by decide +kernel
theorem dX5_fit_76 : decode cX5_fit 76 = .ok (.invokevirtual 124, 3) := by decide +kernel
theorem dX5_fit_79 : decode cX5_fit 79 = .ok (.lcmp, 1) := by decide +kernel
theorem dX5_fit_80 : decode cX5_fit 80 = .ok (.ifCond .ge 9, 3) := by decide +kernel
theorem dX5_fit_83 : decode cX5_fit 83 = .ok (.iload 4, 2) := by decide +kernel
theorem dX5_fit_85 : decode cX5_fit 85 = .ok (.ineg, 1) := by decide +kernel
theorem dX5_fit_86 : decode cX5_fit 86 = .ok (.goto 4, 3) := by decide +kernel
theorem dX5_fit_89 : decode cX5_fit 89 = .ok (.iload_n 3, 1) := by decide +kernel
theorem dX5_fit_90 : decode cX5_fit 90 = .ok (.istore_n 3, 1) := by decide +kernel
theorem dX5_fit_91 : decode cX5_fit 91 = .ok (.aload_n 0, 1) := by decide +kernel
theorem dX5_fit_92 : decode cX5_fit 92 = .ok (.iload_n 1, 1) := by decide +kernel
theorem dX5_fit_93 : decode cX5_fit 93 = .ok (.iload_n 2, 1) := by decide +kernel
theorem dX5_fit_94 : decode cX5_fit 94 = .ok (.iload 4, 2) := by decide +kernel
theorem dX5_fit_96 : decode cX5_fit 96 = .ok (.invokevirtual 124, 3) := by decide +kernel
theorem dX5_fit_99 : decode cX5_fit 99 = .ok (.aload_n 0, 1) := by decide +kernel
theorem dX5_fit_100 : decode cX5_fit 100 = .ok (.iload_n 1, 1) := by decide +kernel
theorem dX5_fit_101 : decode cX5_fit 101 = .ok (.iload_n 2, 1) := by decide +kernel
theorem dX5_fit_102 : decode cX5_fit 102 = .ok (.iload_n 3, 1) := by decide +kernel
theorem dX5_fit_103 : decode cX5_fit 103 = .ok (.invokevirtual 124, 3) := by decide +kernel
theorem dX5_fit_106 : decode cX5_fit 106 = .ok (.lcmp, 1) := by decide +kernel
theorem dX5_fit_107 : decode cX5_fit 107 = .ok (.ifCond .ge 8, 3) := by decide +kernel
theorem dX5_fit_110 : decode cX5_fit 110 = .ok (.iload 4, 2) := by decide +kernel
theorem dX5_fit_112 : decode cX5_fit 112 = .ok (.goto 4, 3) := by decide +kernel
theorem dX5_fit_115 : decode cX5_fit 115 = .ok (.iload_n 3, 1) := by decide +kernel
theorem dX5_fit_116 : decode cX5_fit 116 = .ok (.istore_n 3, 1) := by decide +kernel
theorem dX5_fit_117 : decode cX5_fit 117 = .ok (.iinc 4 1, 3) := by decide +kernel
theorem dX5_fit_120 : decode cX5_fit 120 = .ok (.goto (-63), 3) := by decide +kernel
theorem dX5_fit_123 : decode cX5_fit 123 = .ok (.aload_n 0, 1) := by decide +kernel
theorem dX5_fit_124 : decode cX5_fit 124 = .ok (.aload_n 0, 1) := by decide +kernel
theorem dX5_fit_125 : decode cX5_fit 125 = .ok (.iload_n 1, 1) := by decide +kernel
theorem dX5_fit_126 : decode cX5_fit 126 = .ok (.iload_n 2, 1) := by decide +kernel
theorem dX5_fit_127 : decode cX5_fit 127 = .ok (.iload_n 3, 1) := by decide +kernel
theorem dX5_fit_128 : decode cX5_fit 128 = .ok (.invokevirtual 124, 3) := by decide +kernel
theorem dX5_fit_131 : decode cX5_fit 131 = .ok (.bipush 100, 2) := by decide +kernel
theorem dX5_fit_133 : decode cX5_fit 133 = .ok (.iload_n 3, 1) := by decide +kernel
theorem dX5_fit_134 : decode cX5_fit 134 = .ok (.iadd, 1) := by decide +kernel
theorem dX5_fit_135 : decode cX5_fit 135 = .ok (.invokevirtual 96, 3) := by decide +kernel
theorem dX5_fit_138 : decode cX5_fit 138 = .ok (.ireturn, 1) := by decide +kernel
theorem dX5_worst_0 : decode cX5_worst 0 = .ok (.aload_n 0, 1) := by decide +kernel
theorem dX5_worst_1 : decode cX5_worst 1 = .ok (.iload_n 1, 1) := by decide +kernel
theorem dX5_worst_2 : decode cX5_worst 2 = .ok (.invokevirtual 119, 3) := by decide +kernel
theorem dX5_worst_5 : decode cX5_worst 5 = .ok (.istore_n 2, 1) := by decide +kernel
theorem dX5_worst_6 : decode cX5_worst 6 = .ok (.iload_n 2, 1) := by decide +kernel
theorem dX5_worst_7 : decode cX5_worst 7 = .ok (.ifCond .ge 5, 3) := by decide +kernel
theorem dX5_worst_10 : decode cX5_worst 10 = .ok (.iload_n 2, 1) := by decide +kernel
theorem dX5_worst_11 : decode cX5_worst 11 = .ok (.ireturn, 1) := by decide +kernel
theorem dX5_worst_12 : decode cX5_worst 12 = .ok (.iconst 0, 1) := by decide +kernel
theorem dX5_worst_13 : decode cX5_worst 13 = .ok (.istore_n 3, 1) := by decide +kernel
theorem dX5_worst_14 : decode cX5_worst 14 = .ok (.ldc2_w 128, 3) := by decide +kernel
theorem dX5_worst_17 : decode cX5_worst 17 = .ok (.lstore 4, 2) := by decide +kernel
theorem dX5_worst_19 : decode cX5_worst 19 = .ok (.iconst 0, 1) := by decide +kernel
theorem dX5_worst_20 : decode cX5_worst 20 = .ok (.istore 6, 2) := by decide +kernel
theorem dX5_worst_22 : decode cX5_worst 22 = .ok (.iload 6, 2) := by decide +kernel
theorem dX5_worst_24 : decode cX5_worst 24 = .ok (.iconst 1, 1) := by decide +kernel
theorem dX5_worst_25 : decode cX5_worst 25 = .ok (.iadd, 1) := by decide +kernel
theorem dX5_worst_26 : decode cX5_worst 26 = .ok (.aload_n 0, 1) := by decide +kernel
theorem dX5_worst_27 : decode cX5_worst 27 = .ok (.getfield 72, 3) := by decide +kernel
theorem dX5_worst_30 : decode cX5_worst 30 = .ok (.if_icmp .ge 89, 3) := by decide +kernel
theorem dX5_worst_33 : decode cX5_worst 33 = .ok (.aload_n 0, 1) := by decide +kernel
theorem dX5_worst_34 : decode cX5_worst 34 = .ok (.getfield 44, 3) := by decide +kernel
theorem dX5_worst_37 : decode cX5_worst 37 = .ok (.bipush 40, 2) := by decide +kernel
theorem dX5_worst_39 : decode cX5_worst 39 = .ok (.iload_n 1, 1) := by decide +kernel
theorem dX5_worst_40 : decode cX5_worst 40 = .ok (.imul, 1) := by decide +kernel
theorem dX5_worst_41 : decode cX5_worst 41 = .ok (.iload 6, 2) := by decide +kernel
theorem dX5_worst_43 : decode cX5_worst 43 = .ok (.iadd, 1) := by decide +kernel
theorem dX5_worst_44 : decode cX5_worst 44 = .ok (.iaload, 1) := by decide +kernel
theorem dX5_worst_45 : decode cX5_worst 45 = .ok (.i2l, 1) := by decide +kernel
theorem dX5_worst_46 : decode cX5_worst 46 = .ok (.aload_n 0, 1) := by decide +kernel
theorem dX5_worst_47 : decode cX5_worst 47 = .ok (.getfield 44, 3) := by decide +kernel
theorem dX5_worst_50 : decode cX5_worst 50 = .ok (.bipush 40, 2) := by decide +kernel
theorem dX5_worst_52 : decode cX5_worst 52 = .ok (.iload_n 1, 1) := by decide +kernel
theorem dX5_worst_53 : decode cX5_worst 53 = .ok (.imul, 1) := by decide +kernel
theorem dX5_worst_54 : decode cX5_worst 54 = .ok (.iload 6, 2) := by decide +kernel
theorem dX5_worst_56 : decode cX5_worst 56 = .ok (.iadd, 1) := by decide +kernel
theorem dX5_worst_57 : decode cX5_worst 57 = .ok (.iconst 1, 1) := by decide +kernel
theorem dX5_worst_58 : decode cX5_worst 58 = .ok (.iadd, 1) := by decide +kernel
theorem dX5_worst_59 : decode cX5_worst 59 = .ok (.iaload, 1) := by decide +kernel
theorem dX5_worst_60 : decode cX5_worst 60 = .ok (.i2l, 1) := by decide +kernel
theorem dX5_worst_61 : decode cX5_worst 61 = .ok (.lsub, 1) := by decide +kernel
theorem dX5_worst_62 : decode cX5_worst 62 = .ok (.lstore 7, 2) := by decide +kernel
theorem dX5_worst_64 : decode cX5_worst 64 = .ok (.lload 7, 2) := by decide +kernel
theorem dX5_worst_66 : decode cX5_worst 66 = .ok (.lconst 0, 1) := by decide +kernel
theorem dX5_worst_67 : decode cX5_worst 67 = .ok (.lcmp, 1) := by decide +kernel
theorem dX5_worst_68 : decode cX5_worst 68 = .ok (.ifCond .ge 9, 3) := by decide +kernel
theorem dX5_worst_71 : decode cX5_worst 71 = .ok (.lload 7, 2) := by decide +kernel
theorem dX5_worst_73 : decode cX5_worst 73 = .ok (.lneg, 1) := by decide +kernel
theorem dX5_worst_74 : decode cX5_worst 74 = .ok (.goto 5, 3) := by decide +kernel
theorem dX5_worst_77 : decode cX5_worst 77 = .ok (.lload 7, 2) := by decide +kernel
theorem dX5_worst_79 : decode cX5_worst 79 = .ok (.lstore 7, 2) := by decide +kernel
theorem dX5_worst_81 : decode cX5_worst 81 = .ok (.lload 7, 2) := by decide +kernel
theorem dX5_worst_83 : decode cX5_worst 83 = .ok (.lload 4, 2) := by decide +kernel
theorem dX5_worst_85 : decode cX5_worst 85 = .ok (.lcmp, 1) := by decide +kernel
theorem dX5_worst_86 : decode cX5_worst 86 = .ok (.ifCond .le 8, 3) := by decide +kernel
theorem dX5_worst_89 : decode cX5_worst 89 = .ok (.iload 6, 2) := by decide +kernel
theorem dX5_worst_91 : decode cX5_worst 91 = .ok (.goto 4, 3) := by decide +kernel
theorem dX5_worst_94 : decode cX5_worst 94 = .ok (.iload_n 3, 1) := by decide +kernel
theorem dX5_worst_95 : decode cX5_worst 95 = .ok (.istore_n 3, 1) := by decide +kernel
theorem dX5_worst_96 : decode cX5_worst 96 = .ok (.lload 7, 2) := by decide +kernel
theorem dX5_worst_98 : decode cX5_worst 98 = .ok (.lload 4, 2) := by decide +kernel
theorem dX5_worst_100 : decode cX5_worst 100 = .ok (.lcmp, 1) := by decide +kernel
theorem dX5_worst_101 : decode cX5_worst 101 = .ok (.ifCond .le 8, 3) := by decide +kernel
theorem dX5_worst_104 : decode cX5_worst 104 = .ok (.lload 7, 2) := by decide +kernel
theorem dX5_worst_106 : decode cX5_worst 106 = .ok (.goto 5, 3) := by decide +kernel
theorem dX5_worst_109 : decode cX5_worst 109 = .ok (.lload 4, 2) := by decide +kernel
theorem dX5_worst_111 : decode cX5_worst 111 = .ok (.lstore 4, 2) := by decide +kernel
theorem dX5_worst_113 : decode cX5_worst 113 = .ok (.iinc 6 1, 3) := by decide +kernel
theorem dX5_worst_116 : decode cX5_worst 116 = .ok (.goto (-94), 3) := by decide +kernel
theorem dX5_worst_119 : decode cX5_worst 119 = .ok (.aload_n 0, 1) := by decide +kernel
theorem dX5_worst_120 : decode cX5_worst 120 = .ok (.lload 4, 2) := by decide +kernel
theorem dX5_worst_122 : decode cX5_worst 122 = .ok (.iload_n 3, 1) := by decide +kernel
theorem dX5_worst_123 : decode cX5_worst 123 = .ok (.invokevirtual 96, 3) := by decide +kernel
theorem dX5_worst_126 : decode cX5_worst 126 = .ok (.ireturn, 1) := by decide +kernel
theorem dX5_isStretch_0 : decode cX5_isStretch 0 = .ok (.iload_n 0, 1) := by decide +kernel
theorem dX5_isStretch_1 : decode cX5_isStretch 1 = .ok (.iconst 0, 1) := by decide +kernel
theorem dX5_isStretch_2 : decode cX5_isStretch 2 = .ok (.iconst 3, 1) := by decide +kernel
theorem dX5_isStretch_3 : decode cX5_isStretch 3 = .ok (.invokestatic 68, 3) := by decide +kernel
theorem dX5_isStretch_6 : decode cX5_isStretch 6 = .ok (.ireturn, 1) := by decide +kernel
theorem dX5_isWarmth_0 : decode cX5_isWarmth 0 = .ok (.iload_n 0, 1) := by decide +kernel
theorem dX5_isWarmth_1 : decode cX5_isWarmth 1 = .ok (.sipush (-400), 3) := by decide +kernel
theorem dX5_isWarmth_4 : decode cX5_isWarmth 4 = .ok (.sipush 600, 3) := by decide +kernel
theorem dX5_isWarmth_7 : decode cX5_isWarmth 7 = .ok (.invokestatic 68, 3) := by decide +kernel
theorem dX5_isWarmth_10 : decode cX5_isWarmth 10 = .ok (.ireturn, 1) := by decide +kernel
theorem dX5_pull_0 : decode cX5_pull 0 = .ok (.iload_n 1, 1) := by decide +kernel
theorem dX5_pull_1 : decode cX5_pull 1 = .ok (.invokestatic 130, 3) := by decide +kernel
theorem dX5_pull_4 : decode cX5_pull 4 = .ok (.ifCond .eq 16, 3) := by decide +kernel
theorem dX5_pull_7 : decode cX5_pull 7 = .ok (.iload_n 2, 1) := by decide +kernel
theorem dX5_pull_8 : decode cX5_pull 8 = .ok (.sipush (-500), 3) := by decide +kernel
theorem dX5_pull_11 : decode cX5_pull 11 = .ok (.sipush 500, 3) := by decide +kernel
