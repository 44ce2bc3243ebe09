theorem dX1_chord_25 : decode cX1_chord 25 = .ok (.invokevirtual 73, 3) := by decide +kernel
theorem dX1_chord_28 : decode cX1_chord 28 = .ok (.imul, 1) := by decide +kernel
theorem dX1_chord_29 : decode cX1_chord 29 = .ok (.aload_n 0, 1) := by decide +kernel
theorem dX1_chord_30 : decode cX1_chord 30 = .ok (.iload_n 1, 1) := by decide +kernel
theorem dX1_chord_31 : decode cX1_chord 31 = .ok (.iload_n 2, 1) := by decide +kernel
theorem dX1_chord_32 : decode cX1_chord 32 = .ok (.isub, 1) := by decide +kernel
theorem dX1_chord_33 : decode cX1_chord 33 = .ok (.invokevirtual 73, 3) := by decide +kernel
theorem dX1_chord_36 : decode cX1_chord 36 = .ok (.isub, 1) := by decide +kernel
theorem dX1_chord_37 : decode cX1_chord 37 = .ok (.aload_n 0, 1) := by decide +kernel
theorem dX1_chord_38 : decode cX1_chord 38 = .ok (.iload_n 1, 1) := by decide +kernel
theorem dX1_chord_39 : decode cX1_chord 39 = .ok (.iload_n 2, 1) := by decide +kernel
theorem dX1_chord_40 : decode cX1_chord 40 = .ok (.iadd, 1) := by decide +kernel
theorem dX1_chord_41 : decode cX1_chord 41 = .ok (.invokevirtual 73, 3) := by decide +kernel
theorem dX1_chord_44 : decode cX1_chord 44 = .ok (.isub, 1) := by decide +kernel
theorem dX1_chord_45 : decode cX1_chord 45 = .ok (.ireturn, 1) := by decide +kernel
theorem dX1_greatestChord_0 : decode cX1_greatestChord 0 = .ok (.iconst 0, 1) := by decide +kernel
theorem dX1_greatestChord_1 : decode cX1_greatestChord 1 = .ok (.istore_n 3, 1) := by decide +kernel
theorem dX1_greatestChord_2 : decode cX1_greatestChord 2 = .ok (.iload_n 1, 1) := by decide +kernel
theorem dX1_greatestChord_3 : decode cX1_greatestChord 3 = .ok (.istore 4, 2) := by decide +kernel
theorem dX1_greatestChord_5 : decode cX1_greatestChord 5 = .ok (.iload 4, 2) := by decide +kernel
theorem dX1_greatestChord_7 : decode cX1_greatestChord 7 = .ok (.iload_n 2, 1) := by decide +kernel
theorem dX1_greatestChord_8 : decode cX1_greatestChord 8 = .ok (.if_icmp .gt 24, 3) := by decide +kernel
theorem dX1_greatestChord_11 : decode cX1_greatestChord 11 = .ok (.iload_n 3, 1) := by decide +kernel
theorem dX1_greatestChord_12 : decode cX1_greatestChord 12 = .ok (.aload_n 0, 1) := by decide +kernel
theorem dX1_greatestChord_13 : decode cX1_greatestChord 13 = .ok (.iload 4, 2) := by decide +kernel
theorem dX1_greatestChord_15 : decode cX1_greatestChord 15 = .ok (.iconst 1, 1) := by decide +kernel
theorem dX1_greatestChord_16 : decode cX1_greatestChord 16 = .ok (.invokevirtual 80, 3) := by decide +kernel
theorem dX1_greatestChord_19 : decode cX1_greatestChord 19 = .ok (.invokestatic 83, 3) := by decide +kernel
theorem dX1_greatestChord_22 : decode cX1_greatestChord 22 = .ok (.invokestatic 55, 3) := by decide +kernel
theorem dX1_greatestChord_25 : decode cX1_greatestChord 25 = .ok (.istore_n 3, 1) := by decide +kernel
theorem dX1_greatestChord_26 : decode cX1_greatestChord 26 = .ok (.iinc 4 1, 3) := by decide +kernel
theorem dX1_greatestChord_29 : decode cX1_greatestChord 29 = .ok (.goto (-24), 3) := by decide +kernel
theorem dX1_greatestChord_32 : decode cX1_greatestChord 32 = .ok (.iload_n 3, 1) := by decide +kernel
theorem dX1_greatestChord_33 : decode cX1_greatestChord 33 = .ok (.ireturn, 1) := by decide +kernel
theorem dX1_standing_0 : decode cX1_standing 0 = .ok (.iconst 0, 1) := by decide +kernel
theorem dX1_standing_1 : decode cX1_standing 1 = .ok (.istore_n 3, 1) := by decide +kernel
theorem dX1_standing_2 : decode cX1_standing 2 = .ok (.iload_n 1, 1) := by decide +kernel
theorem dX1_standing_3 : decode cX1_standing 3 = .ok (.istore 4, 2) := by decide +kernel
theorem dX1_standing_5 : decode cX1_standing 5 = .ok (.iload 4, 2) := by decide +kernel
theorem dX1_standing_7 : decode cX1_standing 7 = .ok (.iload_n 2, 1) := by decide +kernel
theorem dX1_standing_8 : decode cX1_standing 8 = .ok (.if_icmp .gt 21, 3) := by decide +kernel
theorem dX1_standing_11 : decode cX1_standing 11 = .ok (.aload_n 0, 1) := by decide +kernel
theorem dX1_standing_12 : decode cX1_standing 12 = .ok (.iload 4, 2) := by decide +kernel
theorem dX1_standing_14 : decode cX1_standing 14 = .ok (.invokevirtual 58, 3) := by decide +kernel
theorem dX1_standing_17 : decode cX1_standing 17 = .ok (.ifCond .eq 6, 3) := by decide +kernel
theorem dX1_standing_20 : decode cX1_standing 20 = .ok (.iinc 3 1, 3) := by decide +kernel
theorem dX1_standing_23 : decode cX1_standing 23 = .ok (.iinc 4 1, 3) := by decide +kernel
theorem dX1_standing_26 : decode cX1_standing 26 = .ok (.goto (-21), 3) := by decide +kernel
theorem dX1_standing_29 : decode cX1_standing 29 = .ok (.iload_n 3, 1) := by decide +kernel
theorem dX1_standing_30 : decode cX1_standing 30 = .ok (.ireturn, 1) := by decide +kernel
theorem dX1_sumOfStones_0 : decode cX1_sumOfStones 0 = .ok (.iconst 0, 1) := by decide +kernel
theorem dX1_sumOfStones_1 : decode cX1_sumOfStones 1 = .ok (.istore_n 3, 1) := by decide +kernel
theorem dX1_sumOfStones_2 : decode cX1_sumOfStones 2 = .ok (.iload_n 1, 1) := by decide +kernel
theorem dX1_sumOfStones_3 : decode cX1_sumOfStones 3 = .ok (.istore 4, 2) := by decide +kernel
theorem dX1_sumOfStones_5 : decode cX1_sumOfStones 5 = .ok (.iload 4, 2) := by decide +kernel
theorem dX1_sumOfStones_7 : decode cX1_sumOfStones 7 = .ok (.iload_n 2, 1) := by decide +kernel
theorem dX1_sumOfStones_8 : decode cX1_sumOfStones 8 = .ok (.if_icmp .gt 28, 3) := by decide +kernel
theorem dX1_sumOfStones_11 : decode cX1_sumOfStones 11 = .ok (.aload_n 0, 1) := by decide +kernel
theorem dX1_sumOfStones_12 : decode cX1_sumOfStones 12 = .ok (.iload 4, 2) := by decide +kernel
theorem dX1_sumOfStones_14 : decode cX1_sumOfStones 14 = .ok (.invokevirtual 58, 3) := by decide +kernel
theorem dX1_sumOfStones_17 : decode cX1_sumOfStones 17 = .ok (.ifCond .eq 13, 3) := by decide +kernel
theorem dX1_sumOfStones_20 : decode cX1_sumOfStones 20 = .ok (.iload_n 3, 1) := by decide +kernel
theorem dX1_sumOfStones_21 : decode cX1_sumOfStones 21 = .ok (.aload_n 0, 1) := by decide +kernel
theorem dX1_sumOfStones_22 : decode cX1_sumOfStones 22 = .ok (.getfield 18, 3) := by decide +kernel
theorem dX1_sumOfStones_25 : decode cX1_sumOfStones 25 = .ok (.iload 4, 2) := by decide +kernel
theorem dX1_sumOfStones_27 : decode cX1_sumOfStones 27 = .ok (.iaload, 1) := by decide +kernel
theorem dX1_sumOfStones_28 : decode cX1_sumOfStones 28 = .ok (.iadd, 1) := by decide +kernel
theorem dX1_sumOfStones_29 : decode cX1_sumOfStones 29 = .ok (.istore_n 3, 1) := by decide +kernel
theorem dX1_sumOfStones_30 : decode cX1_sumOfStones 30 = .ok (.iinc 4 1, 3) := by decide +kernel
theorem dX1_sumOfStones_33 : decode cX1_sumOfStones 33 = .ok (.goto (-28), 3) := by decide +kernel
theorem dX1_sumOfStones_36 : decode cX1_sumOfStones 36 = .ok (.iload_n 3, 1) := by decide +kernel
theorem dX1_sumOfStones_37 : decode cX1_sumOfStones 37 = .ok (.ireturn, 1) := by decide +kernel
theorem dX1_sumOfBeds_0 : decode cX1_sumOfBeds 0 = .ok (.iconst 0, 1) := by decide +kernel
theorem dX1_sumOfBeds_1 : decode cX1_sumOfBeds 1 = .ok (.istore_n 1, 1) := by decide +kernel
theorem dX1_sumOfBeds_2 : decode cX1_sumOfBeds 2 = .ok (.iconst 0, 1) := by decide +kernel
theorem dX1_sumOfBeds_3 : decode cX1_sumOfBeds 3 = .ok (.istore_n 2, 1) := by decide +kernel
theorem dX1_sumOfBeds_4 : decode cX1_sumOfBeds 4 = .ok (.iload_n 2, 1) := by decide +kernel
theorem dX1_sumOfBeds_5 : decode cX1_sumOfBeds 5 = .ok (.aload_n 0, 1) := by decide +kernel
theorem dX1_sumOfBeds_6 : decode cX1_sumOfBeds 6 = .ok (.getfield 38, 3) := by decide +kernel
theorem dX1_sumOfBeds_9 : decode cX1_sumOfBeds 9 = .ok (.if_icmp .ge 27, 3) := by decide +kernel
theorem dX1_sumOfBeds_12 : decode cX1_sumOfBeds 12 = .ok (.aload_n 0, 1) := by decide +kernel
theorem dX1_sumOfBeds_13 : decode cX1_sumOfBeds 13 = .ok (.getfield 27, 3) := by decide +kernel
theorem dX1_sumOfBeds_16 : decode cX1_sumOfBeds 16 = .ok (.iload_n 2, 1) := by decide +kernel
theorem dX1_sumOfBeds_17 : decode cX1_sumOfBeds 17 = .ok (.baload, 1) := by decide +kernel
theorem dX1_sumOfBeds_18 : decode cX1_sumOfBeds 18 = .ok (.ifCond .ne 12, 3) := by decide +kernel
theorem dX1_sumOfBeds_21 : decode cX1_sumOfBeds 21 = .ok (.iload_n 1, 1) := by decide +kernel
theorem dX1_sumOfBeds_22 : decode cX1_sumOfBeds 22 = .ok (.aload_n 0, 1) := by decide +kernel
theorem dX1_sumOfBeds_23 : decode cX1_sumOfBeds 23 = .ok (.getfield 15, 3) := by decide +kernel
theorem dX1_sumOfBeds_26 : decode cX1_sumOfBeds 26 = .ok (.iload_n 2, 1) := by decide +kernel
theorem dX1_sumOfBeds_27 : decode cX1_sumOfBeds 27 = .ok (.iaload, 1) := by decide +kernel
theorem dX1_sumOfBeds_28 : decode cX1_sumOfBeds 28 = .ok (.iadd, 1) := by decide +kernel
theorem dX1_sumOfBeds_29 : decode cX1_sumOfBeds 29 = .ok (.istore_n 1, 1) := by decide +kernel
theorem dX1_sumOfBeds_30 : decode cX1_sumOfBeds 30 = .ok (.iinc 2 1, 3) := by decide +kernel
theorem dX1_sumOfBeds_33 : decode cX1_sumOfBeds 33 = .ok (.goto (-29), 3) := by decide +kernel
theorem dX1_sumOfBeds_36 : decode cX1_sumOfBeds 36 = .ok (.iload_n 1, 1) := by decide +kernel
theorem dX1_sumOfBeds_37 : decode cX1_sumOfBeds 37 = .ok (.ireturn, 1) := by decide +kernel
theorem dX2_init_0 : decode cX2_init 0 = .ok (.aload_n 0, 1) := by decide +kernel
theorem dX2_init_1 : decode cX2_init 1 = .ok (.invokespecial 3, 3) := by decide +kernel
theorem dX2_init_4 : decode cX2_init 4 = .ok (.aload_n 0, 1) := by decide +kernel
theorem dX2_init_5 : decode cX2_init 5 = .ok (.bipush 20, 2) := by decide +kernel
theorem dX2_init_7 : decode cX2_init 7 = .ok (.newarray .int, 2) := by decide +kernel
theorem dX2_init_9 : decode cX2_init 9 = .ok (.putfield 9, 3) := by decide +kernel
theorem dX2_init_12 : decode cX2_init 12 = .ok (.aload_n 0, 1) := by decide +kernel
theorem dX2_init_13 : decode cX2_init 13 = .ok (.bipush 16, 2) := by decide +kernel
theorem dX2_init_15 : decode cX2_init 15 = .ok (.newarray .byte, 2) := by decide +kernel
theorem dX2_init_17 : decode cX2_init 17 = .ok (.putfield 15, 3) := by decide +kernel
theorem dX2_init_20 : decode cX2_init 20 = .ok (.aload_n 0, 1) := by decide +kernel
theorem dX2_init_21 : decode cX2_init 21 = .ok (.iconst 0, 1) := by decide +kernel
theorem dX2_init_22 : decode cX2_init 22 = .ok (.putfield 19, 3) := by decide +kernel
theorem dX2_init_25 : decode cX2_init 25 = .ok (.return_, 1) := by decide +kernel
theorem dX2_roll_0 : decode cX2_roll 0 = .ok (.iconst 0, 1) := by decide +kernel
theorem dX2_roll_1 : decode cX2_roll 1 = .ok (.istore_n 3, 1) := by decide +kernel
theorem dX2_roll_2 : decode cX2_roll 2 = .ok (.iconst 0, 1) := by decide +kernel
theorem dX2_roll_3 : decode cX2_roll 3 = .ok (.istore 4, 2) := by decide +kernel
theorem dX2_roll_5 : decode cX2_roll 5 = .ok (.iload 4, 2) := by decide +kernel
theorem dX2_roll_7 : decode cX2_roll 7 = .ok (.iload_n 2, 1) := by decide +kernel
theorem dX2_roll_8 : decode cX2_roll 8 = .ok (.if_icmp .ge 62, 3) := by decide +kernel
theorem dX2_roll_11 : decode cX2_roll 11 = .ok (.iconst 0, 1) := by decide +kernel
theorem dX2_roll_12 : decode cX2_roll 12 = .ok (.istore 5, 2) := by decide +kernel
theorem dX2_roll_14 : decode cX2_roll 14 = .ok (.iload 5, 2) := by decide +kernel
theorem dX2_roll_16 : decode cX2_roll 16 = .ok (.aload_n 1, 1) := by decide +kernel
theorem dX2_roll_17 : decode cX2_roll 17 = .ok (.getfield 23, 3) := by decide +kernel
theorem dX2_roll_20 : decode cX2_roll 20 = .ok (.if_icmp .ge 44, 3) := by decide +kernel
theorem dX2_roll_23 : decode cX2_roll 23 = .ok (.iconst 0, 1) := by decide +kernel
theorem dX2_roll_24 : decode cX2_roll 24 = .ok (.istore 6, 2) := by decide +kernel
theorem dX2_roll_26 : decode cX2_roll 26 = .ok (.iload 6, 2) := by decide +kernel
theorem dX2_roll_28 : decode cX2_roll 28 = .ok (.aload_n 0, 1) := by decide +kernel
theorem dX2_roll_29 : decode cX2_roll 29 = .ok (.getfield 19, 3) := by decide +kernel
theorem dX2_roll_32 : decode cX2_roll 32 = .ok (.if_icmp .ge 26, 3) := by decide +kernel
theorem dX2_roll_35 : decode cX2_roll 35 = .ok (.iload_n 3, 1) := by decide +kernel
theorem dX2_roll_36 : decode cX2_roll 36 = .ok (.aload_n 0, 1) := by decide +kernel
theorem dX2_roll_37 : decode cX2_roll 37 = .ok (.aload_n 1, 1) := by decide +kernel
theorem dX2_roll_38 : decode cX2_roll 38 = .ok (.iload 5, 2) := by decide +kernel
theorem dX2_roll_40 : decode cX2_roll 40 = .ok (.aload_n 0, 1) := by decide +kernel
theorem dX2_roll_41 : decode cX2_roll 41 = .ok (.getfield 9, 3) := by decide +kernel
theorem dX2_roll_44 : decode cX2_roll 44 = .ok (.iload 6, 2) := by decide +kernel
theorem dX2_roll_46 : decode cX2_roll 46 = .ok (.iaload, 1) := by decide +kernel
theorem dX2_roll_47 : decode cX2_roll 47 = .ok (.invokevirtual 28, 3) := by decide +kernel
theorem dX2_roll_50 : decode cX2_roll 50 = .ok (.iadd, 1) := by decide +kernel
theorem dX2_roll_51 : decode cX2_roll 51 = .ok (.istore_n 3, 1) := by decide +kernel
theorem dX2_roll_52 : decode cX2_roll 52 = .ok (.iinc 6 1, 3) := by decide +kernel
theorem dX2_roll_55 : decode cX2_roll 55 = .ok (.goto (-29), 3) := by decide +kernel
theorem dX2_roll_58 : decode cX2_roll 58 = .ok (.iinc 5 1, 3) := by decide +kernel
theorem dX2_roll_61 : decode cX2_roll 61 = .ok (.goto (-47), 3) := by decide +kernel
theorem dX2_roll_64 : decode cX2_roll 64 = .ok (.iinc 4 1, 3) := by decide +kernel
theorem dX2_roll_67 : decode cX2_roll 67 = .ok (.goto (-62), 3) := by decide +kernel
theorem dX2_roll_70 : decode cX2_roll 70 = .ok (.iload_n 3, 1) := by decide +kernel
theorem dX2_roll_71 : decode cX2_roll 71 = .ok (.ireturn, 1) := by decide +kernel
theorem dX2_pressAt_0 : decode cX2_pressAt 0 = .ok (.iload_n 3, 1) := by decide +kernel
theorem dX2_pressAt_1 : decode cX2_pressAt 1 = .ok (.istore 4, 2) := by decide +kernel
theorem dX2_pressAt_3 : decode cX2_pressAt 3 = .ok (.aload_n 1, 1) := by decide +kernel
theorem dX2_pressAt_4 : decode cX2_pressAt 4 = .ok (.iload_n 2, 1) := by decide +kernel
theorem dX2_pressAt_5 : decode cX2_pressAt 5 = .ok (.invokevirtual 32, 3) := by decide +kernel
theorem dX2_pressAt_8 : decode cX2_pressAt 8 = .ok (.ifCond .eq 20, 3) := by decide +kernel
theorem dX2_pressAt_11 : decode cX2_pressAt 11 = .ok (.aload_n 1, 1) := by decide +kernel
theorem dX2_pressAt_12 : decode cX2_pressAt 12 = .ok (.getfield 36, 3) := by decide +kernel
theorem dX2_pressAt_15 : decode cX2_pressAt 15 = .ok (.iload_n 2, 1) := by decide +kernel
theorem dX2_pressAt_16 : decode cX2_pressAt 16 = .ok (.dup2, 1) := by decide +kernel
theorem dX2_pressAt_17 : decode cX2_pressAt 17 = .ok (.iaload, 1) := by decide +kernel
theorem dX2_pressAt_18 : decode cX2_pressAt 18 = .ok (.iconst 1, 1) := by decide +kernel
theorem dX2_pressAt_19 : decode cX2_pressAt 19 = .ok (.iadd, 1) := by decide +kernel
theorem dX2_pressAt_20 : decode cX2_pressAt 20 = .ok (.iastore, 1) := by decide +kernel
theorem dX2_pressAt_21 : decode cX2_pressAt 21 = .ok (.iload_n 3, 1) := by decide +kernel
theorem dX2_pressAt_22 : decode cX2_pressAt 22 = .ok (.iload_n 3, 1) := by decide +kernel
theorem dX2_pressAt_23 : decode cX2_pressAt 23 = .ok (.iconst 2, 1) := by decide +kernel
theorem dX2_pressAt_24 : decode cX2_pressAt 24 = .ok (.idiv, 1) := by decide +kernel
theorem dX2_pressAt_25 : decode cX2_pressAt 25 = .ok (.iadd, 1) := by decide +kernel
theorem dX2_pressAt_26 : decode cX2_pressAt 26 = .ok (.istore 4, 2) := by decide +kernel
theorem dX2_pressAt_28 : decode cX2_pressAt 28 = .ok (.aload_n 1, 1) := by decide +kernel
theorem dX2_pressAt_29 : decode cX2_pressAt 29 = .ok (.iload_n 2, 1) := by decide +kernel
theorem dX2_pressAt_30 : decode cX2_pressAt 30 = .ok (.iconst 1, 1) := by decide +kernel
theorem dX2_pressAt_31 : decode cX2_pressAt 31 = .ok (.isub, 1) := by decide +kernel
theorem dX2_pressAt_32 : decode cX2_pressAt 32 = .ok (.invokevirtual 39, 3) := by decide +kernel
theorem dX2_pressAt_35 : decode cX2_pressAt 35 = .ok (.ifCond .eq 7, 3) := by decide +kernel
theorem dX2_pressAt_38 : decode cX2_pressAt 38 = .ok (.iconst 1, 1) := by decide +kernel
theorem dX2_pressAt_39 : decode cX2_pressAt 39 = .ok (.goto 4, 3) := by decide +kernel
theorem dX2_pressAt_42 : decode cX2_pressAt 42 = .ok (.iconst 0, 1) := by decide +kernel
theorem dX2_pressAt_43 : decode cX2_pressAt 43 = .ok (.istore 5, 2) := by decide +kernel
theorem dX2_pressAt_45 : decode cX2_pressAt 45 = .ok (.aload_n 1, 1) := by decide +kernel
theorem dX2_pressAt_46 : decode cX2_pressAt 46 = .ok (.iload_n 2, 1) := by decide +kernel
theorem dX2_pressAt_47 : decode cX2_pressAt 47 = .ok (.invokevirtual 39, 3) := by decide +kernel
theorem dX2_pressAt_50 : decode cX2_pressAt 50 = .ok (.ifCond .eq 7, 3) := by decide +kernel
theorem dX2_pressAt_53 : decode cX2_pressAt 53 = .ok (.iconst 2, 1) := by decide +kernel
theorem dX2_pressAt_54 : decode cX2_pressAt 54 = .ok (.goto 4, 3) := by decide +kernel
theorem dX2_pressAt_57 : decode cX2_pressAt 57 = .ok (.iconst 0, 1) := by decide +kernel
theorem dX2_pressAt_58 : decode cX2_pressAt 58 = .ok (.istore 6, 2) := by decide +kernel
theorem dX2_pressAt_60 : decode cX2_pressAt 60 = .ok (.aload_n 1, 1) := by decide +kernel
theorem dX2_pressAt_61 : decode cX2_pressAt 61 = .ok (.iload_n 2, 1) := by decide +kernel
theorem dX2_pressAt_62 : decode cX2_pressAt 62 = .ok (.iconst 1, 1) := by decide +kernel
theorem dX2_pressAt_63 : decode cX2_pressAt 63 = .ok (.iadd, 1) := by decide +kernel
theorem dX2_pressAt_64 : decode cX2_pressAt 64 = .ok (.invokevirtual 39, 3) := by decide +kernel
theorem dX2_pressAt_67 : decode cX2_pressAt 67 = .ok (.ifCond .eq 7, 3) := by decide +kernel
theorem dX2_pressAt_70 : decode cX2_pressAt 70 = .ok (.iconst 1, 1) := by decide +kernel
theorem dX2_pressAt_71 : decode cX2_pressAt 71 = .ok (.goto 4, 3) := by decide +kernel
theorem dX2_pressAt_74 : decode cX2_pressAt 74 = .ok (.iconst 0, 1) := by decide +kernel
theorem dX2_pressAt_75 : decode cX2_pressAt 75 = .ok (.istore 7, 2) := by decide +kernel
theorem dX2_pressAt_77 : decode cX2_pressAt 77 = .ok (.iload 5, 2) := by decide +kernel
theorem dX2_pressAt_79 : decode cX2_pressAt 79 = .ok (.iload 6, 2) := by decide +kernel
theorem dX2_pressAt_81 : decode cX2_pressAt 81 = .ok (.iadd, 1) := by decide +kernel
theorem dX2_pressAt_82 : decode cX2_pressAt 82 = .ok (.iload 7, 2) := by decide +kernel
theorem dX2_pressAt_84 : decode cX2_pressAt 84 = .ok (.iadd, 1) := by decide +kernel
theorem dX2_pressAt_85 : decode cX2_pressAt 85 = .ok (.istore 8, 2) := by decide +kernel
theorem dX2_pressAt_87 : decode cX2_pressAt 87 = .ok (.aload_n 0, 1) := by decide +kernel
theorem dX2_pressAt_88 : decode cX2_pressAt 88 = .ok (.aload_n 1, 1) := by decide +kernel
theorem dX2_pressAt_89 : decode cX2_pressAt 89 = .ok (.iload_n 2, 1) := by decide +kernel
theorem dX2_pressAt_90 : decode cX2_pressAt 90 = .ok (.iconst 1, 1) := by decide +kernel
theorem dX2_pressAt_91 : decode cX2_pressAt 91 = .ok (.isub, 1) := by decide +kernel
theorem dX2_pressAt_92 : decode cX2_pressAt 92 = .ok (.iload 4, 2) := by decide +kernel
theorem dX2_pressAt_94 : decode cX2_pressAt 94 = .ok (.iload 5, 2) := by decide +kernel
theorem dX2_pressAt_96 : decode cX2_pressAt 96 = .ok (.iload 8, 2) := by decide +kernel
theorem dX2_pressAt_98 : decode cX2_pressAt 98 = .ok (.invokevirtual 42, 3) := by decide +kernel
theorem dX2_pressAt_101 : decode cX2_pressAt 101 = .ok (.aload_n 0, 1) := by decide +kernel
theorem dX2_pressAt_102 : decode cX2_pressAt 102 = .ok (.aload_n 1, 1) := by decide +kernel
theorem dX2_pressAt_103 : decode cX2_pressAt 103 = .ok (.iload_n 2, 1) := by decide +kernel
theorem dX2_pressAt_104 : decode cX2_pressAt 104 = .ok (.iload 4, 2) := by decide +kernel
theorem dX2_pressAt_106 : decode cX2_pressAt 106 = .ok (.iload 6, 2) := by decide +kernel
theorem dX2_pressAt_108 : decode cX2_pressAt 108 = .ok (.iload 8, 2) := by decide +kernel
theorem dX2_pressAt_110 : decode cX2_pressAt 110 = .ok (.invokevirtual 42, 3) := by decide +kernel
theorem dX2_pressAt_113 : decode cX2_pressAt 113 = .ok (.iadd, 1) := by decide +kernel
theorem dX2_pressAt_114 : decode cX2_pressAt 114 = .ok (.aload_n 0, 1) := by decide +kernel
theorem dX2_pressAt_115 : decode cX2_pressAt 115 = .ok (.aload_n 1, 1) := by decide +kernel
theorem dX2_pressAt_116 : decode cX2_pressAt 116 = .ok (.iload_n 2, 1) := by decide +kernel
theorem dX2_pressAt_117 : decode cX2_pressAt 117 = .ok (.iconst 1, 1) := by decide +kernel
theorem dX2_pressAt_118 : decode cX2_pressAt 118 = .ok (.iadd, 1) := by decide +kernel
theorem dX2_pressAt_119 : decode cX2_pressAt 119 = .ok (.iload 4, 2) := by decide +kernel
theorem dX2_pressAt_121 : decode cX2_pressAt 121 = .ok (.iload 7, 2) := by decide +kernel
theorem dX2_pressAt_123 : decode cX2_pressAt 123 = .ok (.iload 8, 2) := by decide +kernel
theorem dX2_pressAt_125 : decode cX2_pressAt 125 = .ok (.invokevirtual 42, 3) := by decide +kernel
theorem dX2_pressAt_128 : decode cX2_pressAt 128 = .ok (.iadd, 1) := by decide +kernel
theorem dX2_pressAt_129 : decode cX2_pressAt 129 = .ok (.ireturn, 1) := by decide +kernel
theorem dX2_settle_0 : decode cX2_settle 0 = .ok (.iload 4, 2) := by decide +kernel
theorem dX2_settle_2 : decode cX2_settle 2 = .ok (.ifCond .eq 11, 3) := by decide +kernel
theorem dX2_settle_5 : decode cX2_settle 5 = .ok (.aload_n 1, 1) := by decide +kernel
theorem dX2_settle_6 : decode cX2_settle 6 = .ok (.iload_n 2, 1) := by decide +kernel
theorem dX2_settle_7 : decode cX2_settle 7 = .ok (.invokevirtual 46, 3) := by decide +kernel
theorem dX2_settle_10 : decode cX2_settle 10 = .ok (.ifCond .ne 5, 3) := by decide +kernel
theorem dX2_settle_13 : decode cX2_settle 13 = .ok (.iconst 0, 1) := by decide +kernel
theorem dX2_settle_14 : decode cX2_settle 14 = .ok (.ireturn, 1) := by decide +kernel
theorem dX2_settle_15 : decode cX2_settle 15 = .ok (.iload_n 3, 1) := by decide +kernel
theorem dX2_settle_16 : decode cX2_settle 16 = .ok (.iload 4, 2) := by decide +kernel
theorem dX2_settle_18 : decode cX2_settle 18 = .ok (.imul, 1) := by decide +kernel
theorem dX2_settle_19 : decode cX2_settle 19 = .ok (.iload 5, 2) := by decide +kernel
theorem dX2_settle_21 : decode cX2_settle 21 = .ok (.invokestatic 49, 3) := by decide +kernel
theorem dX2_settle_24 : decode cX2_settle 24 = .ok (.istore 6, 2) := by decide +kernel
theorem dX2_settle_26 : decode cX2_settle 26 = .ok (.iload 6, 2) := by decide +kernel
theorem dX2_settle_28 : decode cX2_settle 28 = .ok (.aload_n 1, 1) := by decide +kernel
theorem dX2_settle_29 : decode cX2_settle 29 = .ok (.getfield 53, 3) := by decide +kernel
theorem dX2_settle_32 : decode cX2_settle 32 = .ok (.iload_n 2, 1) := by decide +kernel
theorem dX2_settle_33 : decode cX2_settle 33 = .ok (.iaload, 1) := by decide +kernel
theorem dX2_settle_34 : decode cX2_settle 34 = .ok (.invokestatic 49, 3) := by decide +kernel
theorem dX2_settle_37 : decode cX2_settle 37 = .ok (.bipush 15, 2) := by decide +kernel
theorem dX2_settle_39 : decode cX2_settle 39 = .ok (.invokestatic 56, 3) := by decide +kernel
theorem dX2_settle_42 : decode cX2_settle 42 = .ok (.istore 7, 2) := by decide +kernel
theorem dX2_settle_44 : decode cX2_settle 44 = .ok (.iconst 0, 1) := by decide +kernel
theorem dX2_settle_45 : decode cX2_settle 45 = .ok (.aload_n 0, 1) := by decide +kernel
theorem dX2_settle_46 : decode cX2_settle 46 = .ok (.getfield 15, 3) := by decide +kernel
theorem dX2_settle_49 : decode cX2_settle 49 = .ok (.iload 7, 2) := by decide +kernel
theorem dX2_settle_51 : decode cX2_settle 51 = .ok (.baload, 1) := by decide +kernel
theorem dX2_settle_52 : decode cX2_settle 52 = .ok (.invokestatic 61, 3) := by decide +kernel
theorem dX2_settle_55 : decode cX2_settle 55 = .ok (.istore 8, 2) := by decide +kernel
theorem dX2_settle_57 : decode cX2_settle 57 = .ok (.aload_n 1, 1) := by decide +kernel
theorem dX2_settle_58 : decode cX2_settle 58 = .ok (.iload_n 2, 1) := by decide +kernel
theorem dX2_settle_59 : decode cX2_settle 59 = .ok (.iconst 1, 1) := by decide +kernel
theorem dX2_settle_60 : decode cX2_settle 60 = .ok (.invokevirtual 64, 3) := by decide +kernel
theorem dX2_settle_63 : decode cX2_settle 63 = .ok (.ifCond .eq 15, 3) := by decide +kernel
theorem dX2_settle_66 : decode cX2_settle 66 = .ok (.iload 8, 2) := by decide +kernel
theorem dX2_settle_68 : decode cX2_settle 68 = .ok (.iload 8, 2) := by decide +kernel
theorem dX2_settle_70 : decode cX2_settle 70 = .ok (.iconst 4, 1) := by decide +kernel
theorem dX2_settle_71 : decode cX2_settle 71 = .ok (.idiv, 1) := by decide +kernel
theorem dX2_settle_72 : decode cX2_settle 72 = .ok (.isub, 1) := by decide +kernel
theorem dX2_settle_73 : decode cX2_settle 73 = .ok (.istore 8, 2) := by decide +kernel
theorem dX2_settle_75 : decode cX2_settle 75 = .ok (.goto 21, 3) := by decide +kernel
theorem dX2_settle_78 : decode cX2_settle 78 = .ok (.aload_n 1, 1) := by decide +kernel
theorem dX2_settle_79 : decode cX2_settle 79 = .ok (.iload_n 2, 1) := by decide +kernel
theorem dX2_settle_80 : decode cX2_settle 80 = .ok (.iconst 2, 1) := by decide +kernel
theorem dX2_settle_81 : decode cX2_settle 81 = .ok (.invokevirtual 64, 3) := by decide +kernel
theorem dX2_settle_84 : decode cX2_settle 84 = .ok (.ifCond .eq 12, 3) := by decide +kernel
theorem dX2_settle_87 : decode cX2_settle 87 = .ok (.iload 8, 2) := by decide +kernel
theorem dX2_settle_89 : decode cX2_settle 89 = .ok (.iload 8, 2) := by decide +kernel
theorem dX2_settle_91 : decode cX2_settle 91 = .ok (.iconst 4, 1) := by decide +kernel
theorem dX2_settle_92 : decode cX2_settle 92 = .ok (.idiv, 1) := by decide +kernel
theorem dX2_settle_93 : decode cX2_settle 93 = .ok (.iadd, 1) := by decide +kernel
theorem dX2_settle_94 : decode cX2_settle 94 = .ok (.istore 8, 2) := by decide +kernel
theorem dX2_settle_96 : decode cX2_settle 96 = .ok (.aload_n 1, 1) := by decide +kernel
theorem dX2_settle_97 : decode cX2_settle 97 = .ok (.iload_n 2, 1) := by decide +kernel
theorem dX2_settle_98 : decode cX2_settle 98 = .ok (.iload 8, 2) := by decide +kernel
theorem dX2_settle_100 : decode cX2_settle 100 = .ok (.invokevirtual 68, 3) := by decide +kernel
theorem dX2_settle_103 : decode cX2_settle 103 = .ok (.ireturn, 1) := by decide +kernel
theorem dX3_init_0 : decode cX3_init 0 = .ok (.aload_n 0, 1) := by decide +kernel
theorem dX3_init_1 : decode cX3_init 1 = .ok (.invokespecial 3, 3) := by decide +kernel
theorem dX3_init_4 : decode cX3_init 4 = .ok (.aload_n 0, 1) := by decide +kernel
theorem dX3_init_5 : decode cX3_init 5 = .ok (.bipush 14, 2) := by decide +kernel
theorem dX3_init_7 : decode cX3_init 7 = .ok (.newarray .int, 2) := by decide +kernel
theorem dX3_init_9 : decode cX3_init 9 = .ok (.putfield 9, 3) := by decide +kernel
theorem dX3_init_12 : decode cX3_init 12 = .ok (.aload_n 0, 1) := by decide +kernel
theorem dX3_init_13 : decode cX3_init 13 = .ok (.bipush 14, 2) := by decide +kernel
theorem dX3_init_15 : decode cX3_init 15 = .ok (.newarray .int, 2) := by decide +kernel
theorem dX3_init_17 : decode cX3_init 17 = .ok (.putfield 15, 3) := by decide +kernel
theorem dX3_init_20 : decode cX3_init 20 = .ok (.aload_n 0, 1) := by decide +kernel
theorem dX3_init_21 : decode cX3_init 21 = .ok (.bipush 14, 2) := by decide +kernel
theorem dX3_init_23 : decode cX3_init 23 = .ok (.newarray .int, 2) := by decide +kernel
theorem dX3_init_25 : decode cX3_init 25 = .ok (.putfield 18, 3) := by decide +kernel
theorem dX3_init_28 : decode cX3_init 28 = .ok (.aload_n 0, 1) := by decide +kernel
theorem dX3_init_29 : decode cX3_init 29 = .ok (.bipush 14, 2) := by decide +kernel
theorem dX3_init_31 : decode cX3_init 31 = .ok (.newarray .int, 2) := by decide +kernel
theorem dX3_init_33 : decode cX3_init 33 = .ok (.putfield 21, 3) := by decide +kernel
theorem dX3_init_36 : decode cX3_init 36 = .ok (.aload_n 0, 1) := by decide +kernel
theorem dX3_init_37 : decode cX3_init 37 = .ok (.bipush 14, 2) := by decide +kernel
theorem dX3_init_39 : decode cX3_init 39 = .ok (.newarray .int, 2) := by decide +kernel
theorem dX3_init_41 : decode cX3_init 41 = .ok (.putfield 24, 3) := by decide +kernel
theorem dX3_init_44 : decode cX3_init 44 = .ok (.aload_n 0, 1) := by decide +kernel
theorem dX3_init_45 : decode cX3_init 45 = .ok (.iconst 0, 1) := by decide +kernel
theorem dX3_init_46 : decode cX3_init 46 = .ok (.putfield 27, 3) := by decide +kernel
theorem dX3_init_49 : decode cX3_init 49 = .ok (.return_, 1) := by decide +kernel
theorem dX3_add_0 : decode cX3_add 0 = .ok (.aload_n 0, 1) := by decide +kernel
theorem dX3_add_1 : decode cX3_add 1 = .ok (.getfield 27, 3) := by decide +kernel
theorem dX3_add_4 : decode cX3_add 4 = .ok (.istore_n 3, 1) := by decide +kernel
theorem dX3_add_5 : decode cX3_add 5 = .ok (.aload_n 0, 1) := by decide +kernel
theorem dX3_add_6 : decode cX3_add 6 = .ok (.getfield 9, 3) := by decide +kernel
theorem dX3_add_9 : decode cX3_add 9 = .ok (.iload_n 3, 1) := by decide +kernel
theorem dX3_add_10 : decode cX3_add 10 = .ok (.iload_n 1, 1) := by decide +kernel
theorem dX3_add_11 : decode cX3_add 11 = .ok (.iastore, 1) := by decide +kernel
theorem dX3_add_12 : decode cX3_add 12 = .ok (.aload_n 0, 1) := by decide +kernel
theorem dX3_add_13 : decode cX3_add 13 = .ok (.getfield 15, 3) := by decide +kernel
theorem dX3_add_16 : decode cX3_add 16 = .ok (.iload_n 3, 1) := by decide +kernel
theorem dX3_add_17 : decode cX3_add 17 = .ok (.iload_n 2, 1) := by decide +kernel
theorem dX3_add_18 : decode cX3_add 18 = .ok (.iastore, 1) := by decide +kernel
theorem dX3_add_19 : decode cX3_add 19 = .ok (.iload_n 3, 1) := by decide +kernel
theorem dX3_add_20 : decode cX3_add 20 = .ok (.ifCond .le 49, 3) := by decide +kernel
theorem dX3_add_23 : decode cX3_add 23 = .ok (.aload_n 0, 1) := by decide +kernel
theorem dX3_add_24 : decode cX3_add 24 = .ok (.getfield 18, 3) := by decide +kernel
theorem dX3_add_27 : decode cX3_add 27 = .ok (.iload_n 3, 1) := by decide +kernel
theorem dX3_add_28 : decode cX3_add 28 = .ok (.aload_n 0, 1) := by decide +kernel
theorem dX3_add_29 : decode cX3_add 29 = .ok (.getfield 18, 3) := by decide +kernel
theorem dX3_add_32 : decode cX3_add 32 = .ok (.iload_n 3, 1) := by decide +kernel
theorem dX3_add_33 : decode cX3_add 33 = .ok (.iconst 1, 1) := by decide +kernel
theorem dX3_add_34 : decode cX3_add 34 = .ok (.isub, 1) := by decide +kernel
theorem dX3_add_35 : decode cX3_add 35 = .ok (.iaload, 1) := by decide +kernel
theorem dX3_add_36 : decode cX3_add 36 = .ok (.aload_n 0, 1) := by decide +kernel
theorem dX3_add_37 : decode cX3_add 37 = .ok (.getfield 9, 3) := by decide +kernel
theorem dX3_add_40 : decode cX3_add 40 = .ok (.iload_n 3, 1) := by decide +kernel
theorem dX3_add_41 : decode cX3_add 41 = .ok (.iconst 1, 1) := by decide +kernel
theorem dX3_add_42 : decode cX3_add 42 = .ok (.isub, 1) := by decide +kernel
theorem dX3_add_43 : decode cX3_add 43 = .ok (.iaload, 1) := by decide +kernel
theorem dX3_add_44 : decode cX3_add 44 = .ok (.iadd, 1) := by decide +kernel
theorem dX3_add_45 : decode cX3_add 45 = .ok (.iastore, 1) := by decide +kernel
theorem dX3_add_46 : decode cX3_add 46 = .ok (.aload_n 0, 1) := by decide +kernel
theorem dX3_add_47 : decode cX3_add 47 = .ok (.getfield 21, 3) := by decide +kernel
theorem dX3_add_50 : decode cX3_add 50 = .ok (.iload_n 3, 1) := by decide +kernel
theorem dX3_add_51 : decode cX3_add 51 = .ok (.aload_n 0, 1) := by decide +kernel
theorem dX3_add_52 : decode cX3_add 52 = .ok (.getfield 21, 3) := by decide +kernel
theorem dX3_add_55 : decode cX3_add 55 = .ok (.iload_n 3, 1) := by decide +kernel
theorem dX3_add_56 : decode cX3_add 56 = .ok (.iconst 1, 1) := by decide +kernel
theorem dX3_add_57 : decode cX3_add 57 = .ok (.isub, 1) := by decide +kernel
theorem dX3_add_58 : decode cX3_add 58 = .ok (.iaload, 1) := by decide +kernel
theorem dX3_add_59 : decode cX3_add 59 = .ok (.aload_n 0, 1) := by decide +kernel
theorem dX3_add_60 : decode cX3_add 60 = .ok (.getfield 15, 3) := by decide +kernel
theorem dX3_add_63 : decode cX3_add 63 = .ok (.iload_n 3, 1) := by decide +kernel
theorem dX3_add_64 : decode cX3_add 64 = .ok (.iconst 1, 1) := by decide +kernel
theorem dX3_add_65 : decode cX3_add 65 = .ok (.isub, 1) := by decide +kernel
theorem dX3_add_66 : decode cX3_add 66 = .ok (.iaload, 1) := by decide +kernel
theorem dX3_add_67 : decode cX3_add 67 = .ok (.iadd, 1) := by decide +kernel
theorem dX3_add_68 : decode cX3_add 68 = .ok (.iastore, 1) := by decide +kernel
theorem dX3_add_69 : decode cX3_add 69 = .ok (.iload_n 3, 1) := by decide +kernel
theorem dX3_add_70 : decode cX3_add 70 = .ok (.istore 4, 2) := by decide +kernel
theorem dX3_add_72 : decode cX3_add 72 = .ok (.iload 4, 2) := by decide +kernel
theorem dX3_add_74 : decode cX3_add 74 = .ok (.ifCond .le 42, 3) := by decide +kernel
theorem dX3_add_77 : decode cX3_add 77 = .ok (.aload_n 0, 1) := by decide +kernel
theorem dX3_add_78 : decode cX3_add 78 = .ok (.iload_n 3, 1) := by decide +kernel
theorem dX3_add_79 : decode cX3_add 79 = .ok (.aload_n 0, 1) := by decide +kernel
theorem dX3_add_80 : decode cX3_add 80 = .ok (.getfield 24, 3) := by decide +kernel
theorem dX3_add_83 : decode cX3_add 83 = .ok (.iload 4, 2) := by decide +kernel
theorem dX3_add_85 : decode cX3_add 85 = .ok (.iconst 1, 1) := by decide +kernel
theorem dX3_add_86 : decode cX3_add 86 = .ok (.isub, 1) := by decide +kernel
theorem dX3_add_87 : decode cX3_add 87 = .ok (.iaload, 1) := by decide +kernel
theorem dX3_add_88 : decode cX3_add 88 = .ok (.invokevirtual 31, 3) := by decide +kernel
theorem dX3_add_91 : decode cX3_add 91 = .ok (.ifCond .eq 25, 3) := by decide +kernel
theorem dX3_add_94 : decode cX3_add 94 = .ok (.aload_n 0, 1) := by decide +kernel
theorem dX3_add_95 : decode cX3_add 95 = .ok (.getfield 24, 3) := by decide +kernel
theorem dX3_add_98 : decode cX3_add 98 = .ok (.iload 4, 2) := by decide +kernel
theorem dX3_add_100 : decode cX3_add 100 = .ok (.aload_n 0, 1) := by decide +kernel
theorem dX3_add_101 : decode cX3_add 101 = .ok (.getfield 24, 3) := by decide +kernel
theorem dX3_add_104 : decode cX3_add 104 = .ok (.iload 4, 2) := by decide +kernel
theorem dX3_add_106 : decode cX3_add 106 = .ok (.iconst 1, 1) := by decide +kernel
theorem dX3_add_107 : decode cX3_add 107 = .ok (.isub, 1) := by decide +kernel
theorem dX3_add_108 : decode cX3_add 108 = .ok (.iaload, 1) := by decide +kernel
theorem dX3_add_109 : decode cX3_add 109 = .ok (.iastore, 1) := by decide +kernel
theorem dX3_add_110 : decode cX3_add 110 = .ok (.iinc 4 (-1), 3) := by decide +kernel
theorem dX3_add_113 : decode cX3_add 113 = .ok (.goto (-41), 3) := by decide +kernel
theorem dX3_add_116 : decode cX3_add 116 = .ok (.aload_n 0, 1) := by decide +kernel
theorem dX3_add_117 : decode cX3_add 117 = .ok (.getfield 24, 3) := by decide +kernel
theorem dX3_add_120 : decode cX3_add 120 = .ok (.iload 4, 2) := by decide +kernel
theorem dX3_add_122 : decode cX3_add 122 = .ok (.iload_n 3, 1) := by decide +kernel
theorem dX3_add_123 : decode cX3_add 123 = .ok (.iastore, 1) := by decide +kernel
theorem dX3_add_124 : decode cX3_add 124 = .ok (.aload_n 0, 1) := by decide +kernel
theorem dX3_add_125 : decode cX3_add 125 = .ok (.dup, 1) := by decide +kernel
theorem dX3_add_126 : decode cX3_add 126 = .ok (.getfield 27, 3) := by decide +kernel
theorem dX3_add_129 : decode cX3_add 129 = .ok (.iconst 1, 1) := by decide +kernel
theorem dX3_add_130 : decode cX3_add 130 = .ok (.iadd, 1) := by decide +kernel
theorem dX3_add_131 : decode cX3_add 131 = .ok (.putfield 27, 3) := by decide +kernel
theorem dX3_add_134 : decode cX3_add 134 = .ok (.iload_n 3, 1) := by decide +kernel
theorem dX3_add_135 : decode cX3_add 135 = .ok (.ireturn, 1) := by decide +kernel
theorem dX3_isWorse_0 : decode cX3_isWorse 0 = .ok (.aload_n 0, 1) := by decide +kernel
theorem dX3_isWorse_1 : decode cX3_isWorse 1 = .ok (.getfield 15, 3) := by decide +kernel
theorem dX3_isWorse_4 : decode cX3_isWorse 4 = .ok (.iload_n 1, 1) := by decide +kernel
theorem dX3_isWorse_5 : decode cX3_isWorse 5 = .ok (.iaload, 1) := by decide +kernel
theorem dX3_isWorse_6 : decode cX3_isWorse 6 = .ok (.aload_n 0, 1) := by decide +kernel
theorem dX3_isWorse_7 : decode cX3_isWorse 7 = .ok (.getfield 9, 3) := by decide +kernel
theorem dX3_isWorse_10 : decode cX3_isWorse 10 = .ok (.iload_n 2, 1) := by decide +kernel
theorem dX3_isWorse_11 : decode cX3_isWorse 11 = .ok (.iaload, 1) := by decide +kernel
theorem dX3_isWorse_12 : decode cX3_isWorse 12 = .ok (.imul, 1) := by decide +kernel
theorem dX3_isWorse_13 : decode cX3_isWorse 13 = .ok (.aload_n 0, 1) := by decide +kernel
theorem dX3_isWorse_14 : decode cX3_isWorse 14 = .ok (.getfield 15, 3) := by decide +kernel
theorem dX3_isWorse_17 : decode cX3_isWorse 17 = .ok (.iload_n 2, 1) := by decide +kernel
theorem dX3_isWorse_18 : decode cX3_isWorse 18 = .ok (.iaload, 1) := by decide +kernel
theorem dX3_isWorse_19 : decode cX3_isWorse 19 = .ok (.aload_n 0, 1) := by decide +kernel
theorem dX3_isWorse_20 : decode cX3_isWorse 20 = .ok (.getfield 9, 3) := by decide +kernel
theorem dX3_isWorse_23 : decode cX3_isWorse 23 = .ok (.iload_n 1, 1) := by decide +kernel
theorem dX3_isWorse_24 : decode cX3_isWorse 24 = .ok (.iaload, 1) := by decide +kernel
theorem dX3_isWorse_25 : decode cX3_isWorse 25 = .ok (.imul, 1) := by decide +kernel
theorem dX3_isWorse_26 : decode cX3_isWorse 26 = .ok (.if_icmp .le 7, 3) := by decide +kernel
theorem dX3_isWorse_29 : decode cX3_isWorse 29 = .ok (.iconst 1, 1) := by decide +kernel
theorem dX3_isWorse_30 : decode cX3_isWorse 30 = .ok (.goto 4, 3) := by decide +kernel
theorem dX3_isWorse_33 : decode cX3_isWorse 33 = .ok (.iconst 0, 1) := by decide +kernel
theorem dX3_isWorse_34 : decode cX3_isWorse 34 = .ok (.ireturn, 1) := by decide +kernel
theorem dX3_bestSet_0 : decode cX3_bestSet 0 = .ok (.iconst 0, 1) := by decide +kernel
theorem dX3_bestSet_1 : decode cX3_bestSet 1 = .ok (.istore_n 2, 1) := by decide +kernel
theorem dX3_bestSet_2 : decode cX3_bestSet 2 = .ok (.iconst 0, 1) := by decide +kernel
theorem dX3_bestSet_3 : decode cX3_bestSet 3 = .ok (.istore_n 3, 1) := by decide +kernel
theorem dX3_bestSet_4 : decode cX3_bestSet 4 = .ok (.iconst 0, 1) := by decide +kernel
theorem dX3_bestSet_5 : decode cX3_bestSet 5 = .ok (.istore 4, 2) := by decide +kernel
theorem dX3_bestSet_7 : decode cX3_bestSet 7 = .ok (.iconst 0, 1) := by decide +kernel
theorem dX3_bestSet_8 : decode cX3_bestSet 8 = .ok (.istore 5, 2) := by decide +kernel
theorem dX3_bestSet_10 : decode cX3_bestSet 10 = .ok (.iconst 0, 1) := by decide +kernel
theorem dX3_bestSet_11 : decode cX3_bestSet 11 = .ok (.istore 6, 2) := by decide +kernel
theorem dX3_bestSet_13 : decode cX3_bestSet 13 = .ok (.iconst 1, 1) := by decide +kernel
theorem dX3_bestSet_14 : decode cX3_bestSet 14 = .ok (.istore 7, 2) := by decide +kernel
theorem dX3_bestSet_16 : decode cX3_bestSet 16 = .ok (.iload 7, 2) := by decide +kernel
theorem dX3_bestSet_18 : decode cX3_bestSet 18 = .ok (.iconst 1, 1) := by decide +kernel
theorem dX3_bestSet_19 : decode cX3_bestSet 19 = .ok (.aload_n 0, 1) := by decide +kernel
theorem dX3_bestSet_20 : decode cX3_bestSet 20 = .ok (.getfield 27, 3) := by decide +kernel
theorem dX3_bestSet_23 : decode cX3_bestSet 23 = .ok (.ishl, 1) := by decide +kernel
theorem dX3_bestSet_24 : decode cX3_bestSet 24 = .ok (.if_icmp .ge 98, 3) := by decide +kernel
theorem dX3_bestSet_27 : decode cX3_bestSet 27 = .ok (.iload 7, 2) := by decide +kernel
theorem dX3_bestSet_29 : decode cX3_bestSet 29 = .ok (.iload 7, 2) := by decide +kernel
theorem dX3_bestSet_31 : decode cX3_bestSet 31 = .ok (.ineg, 1) := by decide +kernel
theorem dX3_bestSet_32 : decode cX3_bestSet 32 = .ok (.iand, 1) := by decide +kernel
theorem dX3_bestSet_33 : decode cX3_bestSet 33 = .ok (.iconst 1, 1) := by decide +kernel
theorem dX3_bestSet_34 : decode cX3_bestSet 34 = .ok (.isub, 1) := by decide +kernel
theorem dX3_bestSet_35 : decode cX3_bestSet 35 = .ok (.invokestatic 35, 3) := by decide +kernel
theorem dX3_bestSet_38 : decode cX3_bestSet 38 = .ok (.istore 8, 2) := by decide +kernel
theorem dX3_bestSet_40 : decode cX3_bestSet 40 = .ok (.iload 5, 2) := by decide +kernel
theorem dX3_bestSet_42 : decode cX3_bestSet 42 = .ok (.aload_n 0, 1) := by decide +kernel
theorem dX3_bestSet_43 : decode cX3_bestSet 43 = .ok (.getfield 9, 3) := by decide +kernel
theorem dX3_bestSet_46 : decode cX3_bestSet 46 = .ok (.iload 8, 2) := by decide +kernel
theorem dX3_bestSet_48 : decode cX3_bestSet 48 = .ok (.iaload, 1) := by decide +kernel
theorem dX3_bestSet_49 : decode cX3_bestSet 49 = .ok (.aload_n 0, 1) := by decide +kernel
theorem dX3_bestSet_50 : decode cX3_bestSet 50 = .ok (.getfield 18, 3) := by decide +kernel
theorem dX3_bestSet_53 : decode cX3_bestSet 53 = .ok (.iload 8, 2) := by decide +kernel
theorem dX3_bestSet_55 : decode cX3_bestSet 55 = .ok (.iaload, 1) := by decide +kernel
theorem dX3_bestSet_56 : decode cX3_bestSet 56 = .ok (.isub, 1) := by decide +kernel
theorem dX3_bestSet_57 : decode cX3_bestSet 57 = .ok (.iadd, 1) := by decide +kernel
theorem dX3_bestSet_58 : decode cX3_bestSet 58 = .ok (.istore 5, 2) := by decide +kernel
theorem dX3_bestSet_60 : decode cX3_bestSet 60 = .ok (.iload 6, 2) := by decide +kernel
theorem dX3_bestSet_62 : decode cX3_bestSet 62 = .ok (.aload_n 0, 1) := by decide +kernel
theorem dX3_bestSet_63 : decode cX3_bestSet 63 = .ok (.getfield 15, 3) := by decide +kernel
theorem dX3_bestSet_66 : decode cX3_bestSet 66 = .ok (.iload 8, 2) := by decide +kernel
theorem dX3_bestSet_68 : decode cX3_bestSet 68 = .ok (.iaload, 1) := by decide +kernel
theorem dX3_bestSet_69 : decode cX3_bestSet 69 = .ok (.aload_n 0, 1) := by decide +kernel
theorem dX3_bestSet_70 : decode cX3_bestSet 70 = .ok (.getfield 21, 3) := by decide +kernel
theorem dX3_bestSet_73 : decode cX3_bestSet 73 = .ok (.iload 8, 2) := by decide +kernel
theorem dX3_bestSet_75 : decode cX3_bestSet 75 = .ok (.iaload, 1) := by decide +kernel
theorem dX3_bestSet_76 : decode cX3_bestSet 76 = .ok (.isub, 1) := by decide +kernel
theorem dX3_bestSet_77 : decode cX3_bestSet 77 = .ok (.iadd, 1) := by decide +kernel
theorem dX3_bestSet_78 : decode cX3_bestSet 78 = .ok (.istore 6, 2) := by decide +kernel
theorem dX3_bestSet_80 : decode cX3_bestSet 80 = .ok (.iload 5, 2) := by decide +kernel
theorem dX3_bestSet_82 : decode cX3_bestSet 82 = .ok (.iload_n 1, 1) := by decide +kernel
theorem dX3_bestSet_83 : decode cX3_bestSet 83 = .ok (.if_icmp .gt 33, 3) := by decide +kernel
theorem dX3_bestSet_86 : decode cX3_bestSet 86 = .ok (.iload 6, 2) := by decide +kernel
theorem dX3_bestSet_88 : decode cX3_bestSet 88 = .ok (.iload 4, 2) := by decide +kernel
theorem dX3_bestSet_90 : decode cX3_bestSet 90 = .ok (.if_icmp .gt 16, 3) := by decide +kernel
theorem dX3_bestSet_93 : decode cX3_bestSet 93 = .ok (.iload 6, 2) := by decide +kernel
theorem dX3_bestSet_95 : decode cX3_bestSet 95 = .ok (.iload 4, 2) := by decide +kernel
theorem dX3_bestSet_97 : decode cX3_bestSet 97 = .ok (.if_icmp .ne 19, 3) := by decide +kernel
theorem dX3_bestSet_100 : decode cX3_bestSet 100 = .ok (.iload 5, 2) := by decide +kernel
theorem dX3_bestSet_102 : decode cX3_bestSet 102 = .ok (.iload_n 3, 1) := by decide +kernel
theorem dX3_bestSet_103 : decode cX3_bestSet 103 = .ok (.if_icmp .ge 13, 3) := by decide +kernel
theorem dX3_bestSet_106 : decode cX3_bestSet 106 = .ok (.iload 7, 2) := by decide +kernel
theorem dX3_bestSet_108 : decode cX3_bestSet 108 = .ok (.istore_n 2, 1) := by decide +kernel
theorem dX3_bestSet_109 : decode cX3_bestSet 109 = .ok (.iload 5, 2) := by decide +kernel
theorem dX3_bestSet_111 : decode cX3_bestSet 111 = .ok (.istore_n 3, 1) := by decide +kernel
theorem dX3_bestSet_112 : decode cX3_bestSet 112 = .ok (.iload 6, 2) := by decide +kernel
theorem dX3_bestSet_114 : decode cX3_bestSet 114 = .ok (.istore 4, 2) := by decide +kernel
theorem dX3_bestSet_116 : decode cX3_bestSet 116 = .ok (.iinc 7 1, 3) := by decide +kernel
theorem dX3_bestSet_119 : decode cX3_bestSet 119 = .ok (.goto (-103), 3) := by decide +kernel
theorem dX3_bestSet_122 : decode cX3_bestSet 122 = .ok (.iload_n 2, 1) := by decide +kernel
theorem dX3_bestSet_123 : decode cX3_bestSet 123 = .ok (.ireturn, 1) := by decide +kernel
theorem dX3_worstFirst_0 : decode cX3_worstFirst 0 = .ok (.iconst 0, 1) := by decide +kernel
theorem dX3_worstFirst_1 : decode cX3_worstFirst 1 = .ok (.istore_n 2, 1) := by decide +kernel
theorem dX3_worstFirst_2 : decode cX3_worstFirst 2 = .ok (.iload_n 1, 1) := by decide +kernel
theorem dX3_worstFirst_3 : decode cX3_worstFirst 3 = .ok (.istore_n 3, 1) := by decide +kernel
theorem dX3_worstFirst_4 : decode cX3_worstFirst 4 = .ok (.iconst 0, 1) := by decide +kernel
theorem dX3_worstFirst_5 : decode cX3_worstFirst 5 = .ok (.istore 4, 2) := by decide +kernel
theorem dX3_worstFirst_7 : decode cX3_worstFirst 7 = .ok (.iload 4, 2) := by decide +kernel
theorem dX3_worstFirst_9 : decode cX3_worstFirst 9 = .ok (.aload_n 0, 1) := by decide +kernel
theorem dX3_worstFirst_10 : decode cX3_worstFirst 10 = .ok (.getfield 27, 3) := by decide +kernel
theorem dX3_worstFirst_13 : decode cX3_worstFirst 13 = .ok (.if_icmp .ge 46, 3) := by decide +kernel
theorem dX3_worstFirst_16 : decode cX3_worstFirst 16 = .ok (.aload_n 0, 1) := by decide +kernel
theorem dX3_worstFirst_17 : decode cX3_worstFirst 17 = .ok (.getfield 24, 3) := by decide +kernel
theorem dX3_worstFirst_20 : decode cX3_worstFirst 20 = .ok (.iload 4, 2) := by decide +kernel
theorem dX3_worstFirst_22 : decode cX3_worstFirst 22 = .ok (.iaload, 1) := by decide +kernel
theorem dX3_worstFirst_23 : decode cX3_worstFirst 23 = .ok (.istore 5, 2) := by decide +kernel
theorem dX3_worstFirst_25 : decode cX3_worstFirst 25 = .ok (.aload_n 0, 1) := by decide +kernel
theorem dX3_worstFirst_26 : decode cX3_worstFirst 26 = .ok (.getfield 9, 3) := by decide +kernel
theorem dX3_worstFirst_29 : decode cX3_worstFirst 29 = .ok (.iload 5, 2) := by decide +kernel
theorem dX3_worstFirst_31 : decode cX3_worstFirst 31 = .ok (.iaload, 1) := by decide +kernel
theorem dX3_worstFirst_32 : decode cX3_worstFirst 32 = .ok (.iload_n 3, 1) := by decide +kernel
theorem dX3_worstFirst_33 : decode cX3_worstFirst 33 = .ok (.if_icmp .gt 20, 3) := by decide +kernel
theorem dX3_worstFirst_36 : decode cX3_worstFirst 36 = .ok (.iload_n 3, 1) := by decide +kernel
theorem dX3_worstFirst_37 : decode cX3_worstFirst 37 = .ok (.aload_n 0, 1) := by decide +kernel
theorem dX3_worstFirst_38 : decode cX3_worstFirst 38 = .ok (.getfield 9, 3) := by decide +kernel
theorem dX3_worstFirst_41 : decode cX3_worstFirst 41 = .ok (.iload 5, 2) := by decide +kernel
theorem dX3_worstFirst_43 : decode cX3_worstFirst 43 = .ok (.iaload, 1) := by decide +kernel
theorem dX3_worstFirst_44 : decode cX3_worstFirst 44 = .ok (.isub, 1) := by decide +kernel
theorem dX3_worstFirst_45 : decode cX3_worstFirst 45 = .ok (.istore_n 3, 1) := by decide +kernel
theorem dX3_worstFirst_46 : decode cX3_worstFirst 46 = .ok (.iload_n 2, 1) := by decide +kernel
theorem dX3_worstFirst_47 : decode cX3_worstFirst 47 = .ok (.iconst 1, 1) := by decide +kernel
theorem dX3_worstFirst_48 : decode cX3_worstFirst 48 = .ok (.iload 5, 2) := by decide +kernel
theorem dX3_worstFirst_50 : decode cX3_worstFirst 50 = .ok (.ishl, 1) := by decide +kernel
theorem dX3_worstFirst_51 : decode cX3_worstFirst 51 = .ok (.ior, 1) := by decide +kernel
theorem dX3_worstFirst_52 : decode cX3_worstFirst 52 = .ok (.istore_n 2, 1) := by decide +kernel
theorem dX3_worstFirst_53 : decode cX3_worstFirst 53 = .ok (.iinc 4 1, 3) := by decide +kernel
theorem dX3_worstFirst_56 : decode cX3_worstFirst 56 = .ok (.goto (-49), 3) := by decide +kernel
theorem dX3_worstFirst_59 : decode cX3_worstFirst 59 = .ok (.iload_n 2, 1) := by decide +kernel
theorem dX3_worstFirst_60 : decode cX3_worstFirst 60 = .ok (.ireturn, 1) := by decide +kernel
theorem dX3_gainOf_0 : decode cX3_gainOf 0 = .ok (.iconst 0, 1) := by decide +kernel
theorem dX3_gainOf_1 : decode cX3_gainOf 1 = .ok (.istore_n 2, 1) := by decide +kernel
theorem dX3_gainOf_2 : decode cX3_gainOf 2 = .ok (.iconst 0, 1) := by decide +kernel
theorem dX3_gainOf_3 : decode cX3_gainOf 3 = .ok (.istore_n 3, 1) := by decide +kernel
theorem dX3_gainOf_4 : decode cX3_gainOf 4 = .ok (.iload_n 3, 1) := by decide +kernel
theorem dX3_gainOf_5 : decode cX3_gainOf 5 = .ok (.aload_n 0, 1) := by decide +kernel
theorem dX3_gainOf_6 : decode cX3_gainOf 6 = .ok (.getfield 27, 3) := by decide +kernel
theorem dX3_gainOf_9 : decode cX3_gainOf 9 = .ok (.if_icmp .ge 27, 3) := by decide +kernel
theorem dX3_gainOf_12 : decode cX3_gainOf 12 = .ok (.iload_n 1, 1) := by decide +kernel
theorem dX3_gainOf_13 : decode cX3_gainOf 13 = .ok (.iload_n 3, 1) := by decide +kernel
theorem dX3_gainOf_14 : decode cX3_gainOf 14 = .ok (.ishr, 1) := by decide +kernel
theorem dX3_gainOf_15 : decode cX3_gainOf 15 = .ok (.iconst 1, 1) := by decide +kernel
theorem dX3_gainOf_16 : decode cX3_gainOf 16 = .ok (.iand, 1) := by decide +kernel
theorem dX3_gainOf_17 : decode cX3_gainOf 17 = .ok (.iconst 1, 1) := by decide +kernel
theorem dX3_gainOf_18 : decode cX3_gainOf 18 = .ok (.if_icmp .ne 12, 3) := by decide +kernel
theorem dX3_gainOf_21 : decode cX3_gainOf 21 = .ok (.iload_n 2, 1) := by decide +kernel
theorem dX3_gainOf_22 : decode cX3_gainOf 22 = .ok (.aload_n 0, 1) := by decide +kernel
theorem dX3_gainOf_23 : decode cX3_gainOf 23 = .ok (.getfield 15, 3) := by decide +kernel
theorem dX3_gainOf_26 : decode cX3_gainOf 26 = .ok (.iload_n 3, 1) := by decide +kernel
theorem dX3_gainOf_27 : decode cX3_gainOf 27 = .ok (.iaload, 1) := by decide +kernel
theorem dX3_gainOf_28 : decode cX3_gainOf 28 = .ok (.iadd, 1) := by decide +kernel
theorem dX3_gainOf_29 : decode cX3_gainOf 29 = .ok (.istore_n 2, 1) := by decide +kernel
theorem dX3_gainOf_30 : decode cX3_gainOf 30 = .ok (.iinc 3 1, 3) := by decide +kernel
theorem dX3_gainOf_33 : decode cX3_gainOf 33 = .ok (.goto (-29), 3) := by decide +kernel
theorem dX3_gainOf_36 : decode cX3_gainOf 36 = .ok (.iload_n 2, 1) := by decide +kernel
theorem dX3_gainOf_37 : decode cX3_gainOf 37 = .ok (.ireturn, 1) := by decide +kernel
theorem dX4_init_0 : decode cX4_init 0 = .ok (.aload_n 0, 1) := by decide +kernel
theorem dX4_init_1 : decode cX4_init 1 = .ok (.invokespecial 1, 3) := by decide +kernel
theorem dX4_init_4 : decode cX4_init 4 = .ok (.aload_n 0, 1) := by decide +kernel
theorem dX4_init_5 : decode cX4_init 5 = .ok (.new 7, 3) := by decide +kernel
theorem dX4_init_8 : decode cX4_init 8 = .ok (.dup, 1) := by decide +kernel
theorem dX4_init_9 : decode cX4_init 9 = .ok (.invokespecial 9, 3) := by decide +kernel
theorem dX4_init_12 : decode cX4_init 12 = .ok (.putfield 10, 3) := by decide +kernel
theorem dX4_init_15 : decode cX4_init 15 = .ok (.aload_n 0, 1) := by decide +kernel
theorem dX4_init_16 : decode cX4_init 16 = .ok (.new 16, 3) := by decide +kernel
theorem dX4_init_19 : decode cX4_init 19 = .ok (.dup, 1) := by decide +kernel
theorem dX4_init_20 : decode cX4_init 20 = .ok (.invokespecial 18, 3) := by decide +kernel
theorem dX4_init_23 : decode cX4_init 23 = .ok (.putfield 19, 3) := by decide +kernel
theorem dX4_init_26 : decode cX4_init 26 = .ok (.aload_n 0, 1) := by decide +kernel
theorem dX4_init_27 : decode cX4_init 27 = .ok (.new 23, 3) := by decide +kernel
theorem dX4_init_30 : decode cX4_init 30 = .ok (.dup, 1) := by decide +kernel
theorem dX4_init_31 : decode cX4_init 31 = .ok (.invokespecial 25, 3) := by decide +kernel
theorem dX4_init_34 : decode cX4_init 34 = .ok (.putfield 26, 3) := by decide +kernel
theorem dX4_init_37 : decode cX4_init 37 = .ok (.aload_n 0, 1) := by decide +kernel
theorem dX4_init_38 : decode cX4_init 38 = .ok (.new 30, 3) := by decide +kernel
theorem dX4_init_41 : decode cX4_init 41 = .ok (.dup, 1) := by decide +kernel
theorem dX4_init_42 : decode cX4_init 42 = .ok (.invokespecial 32, 3) := by decide +kernel
theorem dX4_init_45 : decode cX4_init 45 = .ok (.putfield 33, 3) := by decide +kernel
theorem dX4_init_48 : decode cX4_init 48 = .ok (.aload_n 0, 1) := by decide +kernel
theorem dX4_init_49 : decode cX4_init 49 = .ok (.iconst 4, 1) := by decide +kernel
theorem dX4_init_50 : decode cX4_init 50 = .ok (.newarray .int, 2) := by decide +kernel
theorem dX4_init_52 : decode cX4_init 52 = .ok (.putfield 37, 3) := by decide +kernel
theorem dX4_init_55 : decode cX4_init 55 = .ok (.iconst 0, 1) := by decide +kernel
theorem dX4_init_56 : decode cX4_init 56 = .ok (.istore_n 1, 1) := by decide +kernel
theorem dX4_init_57 : decode cX4_init 57 = .ok (.iload_n 1, 1) := by decide +kernel
theorem dX4_init_58 : decode cX4_init 58 = .ok (.iconst 4, 1) := by decide +kernel
theorem dX4_init_59 : decode cX4_init 59 = .ok (.if_icmp .ge 18, 3) := by decide +kernel
theorem dX4_init_62 : decode cX4_init 62 = .ok (.aload_n 0, 1) := by decide +kernel
theorem dX4_init_63 : decode cX4_init 63 = .ok (.getfield 37, 3) := by decide +kernel
theorem dX4_init_66 : decode cX4_init 66 = .ok (.iload_n 1, 1) := by decide +kernel
theorem dX4_init_67 : decode cX4_init 67 = .ok (.sipush 250, 3) := by decide +kernel
theorem dX4_init_70 : decode cX4_init 70 = .ok (.iastore, 1) := by decide +kernel
theorem dX4_init_71 : decode cX4_init 71 = .ok (.iinc 1 1, 3) := by decide +kernel
theorem dX4_init_74 : decode cX4_init 74 = .ok (.goto (-17), 3) := by decide +kernel
theorem dX4_init_77 : decode cX4_init 77 = .ok (.aload_n 0, 1) := by decide +kernel
theorem dX4_init_78 : decode cX4_init 78 = .ok (.bipush 6, 2) := by decide +kernel
theorem dX4_init_80 : decode cX4_init 80 = .ok (.newarray .int, 2) := by decide +kernel
theorem dX4_init_82 : decode cX4_init 82 = .ok (.putfield 41, 3) := by decide +kernel
theorem dX4_init_85 : decode cX4_init 85 = .ok (.aload_n 0, 1) := by decide +kernel
theorem dX4_init_86 : decode cX4_init 86 = .ok (.iconst 0, 1) := by decide +kernel
theorem dX4_init_87 : decode cX4_init 87 = .ok (.putfield 44, 3) := by decide +kernel
theorem dX4_init_90 : decode cX4_init 90 = .ok (.aload_n 0, 1) := by decide +kernel
theorem dX4_init_91 : decode cX4_init 91 = .ok (.lconst 0, 1) := by decide +kernel
theorem dX4_init_92 : decode cX4_init 92 = .ok (.putfield 48, 3) := by decide +kernel
theorem dX4_init_95 : decode cX4_init 95 = .ok (.return_, 1) := by decide +kernel
theorem dX4_line_0 : decode cX4_line 0 = .ok (.iload_n 1, 1) := by decide +kernel
theorem dX4_line_1 : decode cX4_line 1 = .ok (.iconst 3, 1) := by decide +kernel
theorem dX4_line_2 : decode cX4_line 2 = .ok (.bipush 40, 2) := by decide +kernel
theorem dX4_line_4 : decode cX4_line 4 = .ok (.invokestatic 52, 3) := by decide +kernel
theorem dX4_line_7 : decode cX4_line 7 = .ok (.ifCond .ne 5, 3) := by decide +kernel
theorem dX4_line_10 : decode cX4_line 10 = .ok (.iconst (-1), 1) := by decide +kernel
theorem dX4_line_11 : decode cX4_line 11 = .ok (.ireturn, 1) := by decide +kernel
theorem dX4_line_12 : decode cX4_line 12 = .ok (.aload_n 0, 1) := by decide +kernel
theorem dX4_line_13 : decode cX4_line 13 = .ok (.getfield 10, 3) := by decide +kernel
theorem dX4_line_16 : decode cX4_line 16 = .ok (.iload_n 1, 1) := by decide +kernel
theorem dX4_line_17 : decode cX4_line 17 = .ok (.invokevirtual 56, 3) := by decide +kernel
theorem dX4_line_20 : decode cX4_line 20 = .ok (.iload_n 1, 1) := by decide +kernel
theorem dX4_line_21 : decode cX4_line 21 = .ok (.ireturn, 1) := by decide +kernel
theorem dX4_sleeper_0 : decode cX4_sleeper 0 = .ok (.aload_n 0, 1) := by decide +kernel
theorem dX4_sleeper_1 : decode cX4_sleeper 1 = .ok (.getfield 10, 3) := by decide +kernel
theorem dX4_sleeper_4 : decode cX4_sleeper 4 = .ok (.iload_n 1, 1) := by decide +kernel
theorem dX4_sleeper_5 : decode cX4_sleeper 5 = .ok (.invokevirtual 60, 3) := by decide +kernel
theorem dX4_sleeper_8 : decode cX4_sleeper 8 = .ok (.ifCond .eq 12, 3) := by decide +kernel
theorem dX4_sleeper_11 : decode cX4_sleeper 11 = .ok (.iload_n 2, 1) := by decide +kernel
theorem dX4_sleeper_12 : decode cX4_sleeper 12 = .ok (.iconst 0, 1) := by decide +kernel
theorem dX4_sleeper_13 : decode cX4_sleeper 13 = .ok (.iconst 3, 1) := by decide +kernel
theorem dX4_sleeper_14 : decode cX4_sleeper 14 = .ok (.invokestatic 52, 3) := by decide +kernel
theorem dX4_sleeper_17 : decode cX4_sleeper 17 = .ok (.ifCond .ne 5, 3) := by decide +kernel
theorem dX4_sleeper_20 : decode cX4_sleeper 20 = .ok (.iconst (-1), 1) := by decide +kernel
theorem dX4_sleeper_21 : decode cX4_sleeper 21 = .ok (.ireturn, 1) := by decide +kernel
theorem dX4_sleeper_22 : decode cX4_sleeper 22 = .ok (.aload_n 0, 1) := by decide +kernel
theorem dX4_sleeper_23 : decode cX4_sleeper 23 = .ok (.getfield 10, 3) := by decide +kernel
theorem dX4_sleeper_26 : decode cX4_sleeper 26 = .ok (.getfield 64, 3) := by decide +kernel
theorem dX4_sleeper_29 : decode cX4_sleeper 29 = .ok (.iload_n 1, 1) := by decide +kernel
theorem dX4_sleeper_30 : decode cX4_sleeper 30 = .ok (.iaload, 1) := by decide +kernel
theorem dX4_sleeper_31 : decode cX4_sleeper 31 = .ok (.istore_n 3, 1) := by decide +kernel
theorem dX4_sleeper_32 : decode cX4_sleeper 32 = .ok (.aload_n 0, 1) := by decide +kernel
theorem dX4_sleeper_33 : decode cX4_sleeper 33 = .ok (.getfield 10, 3) := by decide +kernel
theorem dX4_sleeper_36 : decode cX4_sleeper 36 = .ok (.getfield 64, 3) := by decide +kernel
theorem dX4_sleeper_39 : decode cX4_sleeper 39 = .ok (.iload_n 1, 1) := by decide +kernel
theorem dX4_sleeper_40 : decode cX4_sleeper 40 = .ok (.iload_n 2, 1) := by decide +kernel
theorem dX4_sleeper_41 : decode cX4_sleeper 41 = .ok (.iastore, 1) := by decide +kernel
theorem dX4_sleeper_42 : decode cX4_sleeper 42 = .ok (.aload_n 0, 1) := by decide +kernel
theorem dX4_sleeper_43 : decode cX4_sleeper 43 = .ok (.getfield 10, 3) := by decide +kernel
theorem dX4_sleeper_46 : decode cX4_sleeper 46 = .ok (.iload_n 1, 1) := by decide +kernel
theorem dX4_sleeper_47 : decode cX4_sleeper 47 = .ok (.iconst 0, 1) := by decide +kernel
theorem dX4_sleeper_48 : decode cX4_sleeper 48 = .ok (.invokevirtual 67, 3) := by decide +kernel
theorem dX4_sleeper_51 : decode cX4_sleeper 51 = .ok (.iload_n 3, 1) := by decide +kernel
theorem dX4_sleeper_52 : decode cX4_sleeper 52 = .ok (.ireturn, 1) := by decide +kernel
theorem dX4_lose_0 : decode cX4_lose 0 = .ok (.aload_n 0, 1) := by decide +kernel
theorem dX4_lose_1 : decode cX4_lose 1 = .ok (.getfield 10, 3) := by decide +kernel
theorem dX4_lose_4 : decode cX4_lose 4 = .ok (.iload_n 1, 1) := by decide +kernel
theorem dX4_lose_5 : decode cX4_lose 5 = .ok (.invokevirtual 60, 3) := by decide +kernel
theorem dX4_lose_8 : decode cX4_lose 8 = .ok (.ifCond .ne 5, 3) := by decide +kernel
theorem dX4_lose_11 : decode cX4_lose 11 = .ok (.iconst (-1), 1) := by decide +kernel
theorem dX4_lose_12 : decode cX4_lose 12 = .ok (.ireturn, 1) := by decide +kernel
theorem dX4_lose_13 : decode cX4_lose 13 = .ok (.aload_n 0, 1) := by decide +kernel
theorem dX4_lose_14 : decode cX4_lose 14 = .ok (.getfield 10, 3) := by decide +kernel
theorem dX4_lose_17 : decode cX4_lose 17 = .ok (.getfield 71, 3) := by decide +kernel
theorem dX4_lose_20 : decode cX4_lose 20 = .ok (.iload_n 1, 1) := by decide +kernel
theorem dX4_lose_21 : decode cX4_lose 21 = .ok (.baload, 1) := by decide +kernel
theorem dX4_lose_22 : decode cX4_lose 22 = .ok (.ifCond .eq 7, 3) := by decide +kernel
theorem dX4_lose_25 : decode cX4_lose 25 = .ok (.iconst 1, 1) := by decide +kernel
theorem dX4_lose_26 : decode cX4_lose 26 = .ok (.goto 4, 3) := by decide +kernel
theorem dX4_lose_29 : decode cX4_lose 29 = .ok (.iconst 0, 1) := by decide +kernel
theorem dX4_lose_30 : decode cX4_lose 30 = .ok (.istore_n 3, 1) := by decide +kernel
theorem dX4_lose_31 : decode cX4_lose 31 = .ok (.aload_n 0, 1) := by decide +kernel
theorem dX4_lose_32 : decode cX4_lose 32 = .ok (.getfield 10, 3) := by decide +kernel
theorem dX4_lose_35 : decode cX4_lose 35 = .ok (.iload_n 1, 1) := by decide +kernel
theorem dX4_lose_36 : decode cX4_lose 36 = .ok (.iload_n 2, 1) := by decide +kernel
theorem dX4_lose_37 : decode cX4_lose 37 = .ok (.invokevirtual 67, 3) := by decide +kernel
theorem dX4_lose_40 : decode cX4_lose 40 = .ok (.iload_n 3, 1) := by decide +kernel
theorem dX4_lose_41 : decode cX4_lose 41 = .ok (.ireturn, 1) := by decide +kernel
theorem dX4_bed_0 : decode cX4_bed 0 = .ok (.aload_n 0, 1) := by decide +kernel
theorem dX4_bed_1 : decode cX4_bed 1 = .ok (.getfield 10, 3) := by decide +kernel
theorem dX4_bed_4 : decode cX4_bed 4 = .ok (.iload_n 1, 1) := by decide +kernel
theorem dX4_bed_5 : decode cX4_bed 5 = .ok (.invokevirtual 60, 3) := by decide +kernel
theorem dX4_bed_8 : decode cX4_bed 8 = .ok (.ifCond .eq 16, 3) := by decide +kernel
theorem dX4_bed_11 : decode cX4_bed 11 = .ok (.iload_n 2, 1) := by decide +kernel
theorem dX4_bed_12 : decode cX4_bed 12 = .ok (.sipush (-10000), 3) := by decide +kernel
theorem dX4_bed_15 : decode cX4_bed 15 = .ok (.sipush 10000, 3) := by decide +kernel
theorem dX4_bed_18 : decode cX4_bed 18 = .ok (.invokestatic 52, 3) := by decide +kernel
theorem dX4_bed_21 : decode cX4_bed 21 = .ok (.ifCond .ne 5, 3) := by decide +kernel
theorem dX4_bed_24 : decode cX4_bed 24 = .ok (.iconst (-1), 1) := by decide +kernel
theorem dX4_bed_25 : decode cX4_bed 25 = .ok (.ireturn, 1) := by decide +kernel
theorem dX4_bed_26 : decode cX4_bed 26 = .ok (.aload_n 0, 1) := by decide +kernel
theorem dX4_bed_27 : decode cX4_bed 27 = .ok (.getfield 10, 3) := by decide +kernel
theorem dX4_bed_30 : decode cX4_bed 30 = .ok (.getfield 71, 3) := by decide +kernel
theorem dX4_bed_33 : decode cX4_bed 33 = .ok (.iload_n 1, 1) := by decide +kernel
theorem dX4_bed_34 : decode cX4_bed 34 = .ok (.baload, 1) := by decide +kernel
theorem dX4_bed_35 : decode cX4_bed 35 = .ok (.ifCond .eq 9, 3) := by decide +kernel
theorem dX4_bed_38 : decode cX4_bed 38 = .ok (.aload_n 0, 1) := by decide +kernel
theorem dX4_bed_39 : decode cX4_bed 39 = .ok (.iconst 1, 1) := by decide +kernel
theorem dX4_bed_40 : decode cX4_bed 40 = .ok (.invokevirtual 75, 3) := by decide +kernel
theorem dX4_bed_43 : decode cX4_bed 43 = .ok (.ireturn, 1) := by decide +kernel
