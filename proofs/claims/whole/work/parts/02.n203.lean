theorem dX4_pull_0 : decode cX4_pull 0 = .ok (.iload_n 1, 1) := by decide +kernel
theorem dX4_pull_1 : decode cX4_pull 1 = .ok (.invokestatic 183, 3) := by decide +kernel
theorem dX4_pull_4 : decode cX4_pull 4 = .ok (.ifCond .eq 16, 3) := by decide +kernel
theorem dX4_pull_7 : decode cX4_pull 7 = .ok (.iload_n 2, 1) := by decide +kernel
theorem dX4_pull_8 : decode cX4_pull 8 = .ok (.sipush (-500), 3) := by decide +kernel
theorem dX4_pull_11 : decode cX4_pull 11 = .ok (.sipush 500, 3) := by decide +kernel
theorem dX4_pull_14 : decode cX4_pull 14 = .ok (.invokestatic 52, 3) := by decide +kernel
theorem dX4_pull_17 : decode cX4_pull 17 = .ok (.ifCond .ne 5, 3) := by decide +kernel
theorem dX4_pull_20 : decode cX4_pull 20 = .ok (.iconst (-1), 1) := by decide +kernel
theorem dX4_pull_21 : decode cX4_pull 21 = .ok (.ireturn, 1) := by decide +kernel
theorem dX4_pull_22 : decode cX4_pull 22 = .ok (.aload_n 0, 1) := by decide +kernel
theorem dX4_pull_23 : decode cX4_pull 23 = .ok (.getfield 37, 3) := by decide +kernel
theorem dX4_pull_26 : decode cX4_pull 26 = .ok (.iload_n 1, 1) := by decide +kernel
theorem dX4_pull_27 : decode cX4_pull 27 = .ok (.dup2, 1) := by decide +kernel
theorem dX4_pull_28 : decode cX4_pull 28 = .ok (.iaload, 1) := by decide +kernel
theorem dX4_pull_29 : decode cX4_pull 29 = .ok (.iload_n 2, 1) := by decide +kernel
theorem dX4_pull_30 : decode cX4_pull 30 = .ok (.iadd, 1) := by decide +kernel
theorem dX4_pull_31 : decode cX4_pull 31 = .ok (.iastore, 1) := by decide +kernel
theorem dX4_pull_32 : decode cX4_pull 32 = .ok (.iconst 1, 1) := by decide +kernel
theorem dX4_pull_33 : decode cX4_pull 33 = .ok (.ireturn, 1) := by decide +kernel
theorem dX4_cut_0 : decode cX4_cut 0 = .ok (.iload_n 1, 1) := by decide +kernel
theorem dX4_cut_1 : decode cX4_cut 1 = .ok (.invokestatic 183, 3) := by decide +kernel
theorem dX4_cut_4 : decode cX4_cut 4 = .ok (.ifCond .eq 10, 3) := by decide +kernel
theorem dX4_cut_7 : decode cX4_cut 7 = .ok (.iload_n 2, 1) := by decide +kernel
theorem dX4_cut_8 : decode cX4_cut 8 = .ok (.invokestatic 186, 3) := by decide +kernel
theorem dX4_cut_11 : decode cX4_cut 11 = .ok (.ifCond .ne 5, 3) := by decide +kernel
theorem dX4_cut_14 : decode cX4_cut 14 = .ok (.iconst (-1), 1) := by decide +kernel
theorem dX4_cut_15 : decode cX4_cut 15 = .ok (.ireturn, 1) := by decide +kernel
theorem dX4_cut_16 : decode cX4_cut 16 = .ok (.aload_n 0, 1) := by decide +kernel
theorem dX4_cut_17 : decode cX4_cut 17 = .ok (.getfield 37, 3) := by decide +kernel
theorem dX4_cut_20 : decode cX4_cut 20 = .ok (.iload_n 1, 1) := by decide +kernel
theorem dX4_cut_21 : decode cX4_cut 21 = .ok (.iaload, 1) := by decide +kernel
theorem dX4_cut_22 : decode cX4_cut 22 = .ok (.istore_n 3, 1) := by decide +kernel
theorem dX4_cut_23 : decode cX4_cut 23 = .ok (.aload_n 0, 1) := by decide +kernel
theorem dX4_cut_24 : decode cX4_cut 24 = .ok (.getfield 37, 3) := by decide +kernel
theorem dX4_cut_27 : decode cX4_cut 27 = .ok (.iload_n 1, 1) := by decide +kernel
theorem dX4_cut_28 : decode cX4_cut 28 = .ok (.iload_n 2, 1) := by decide +kernel
theorem dX4_cut_29 : decode cX4_cut 29 = .ok (.iastore, 1) := by decide +kernel
theorem dX4_cut_30 : decode cX4_cut 30 = .ok (.aload_n 0, 1) := by decide +kernel
theorem dX4_cut_31 : decode cX4_cut 31 = .ok (.iload_n 3, 1) := by decide +kernel
theorem dX4_cut_32 : decode cX4_cut 32 = .ok (.i2l, 1) := by decide +kernel
theorem dX4_cut_33 : decode cX4_cut 33 = .ok (.invokevirtual 86, 3) := by decide +kernel
theorem dX4_cut_36 : decode cX4_cut 36 = .ok (.ireturn, 1) := by decide +kernel
theorem dX4_press_0 : decode cX4_press 0 = .ok (.iload_n 1, 1) := by decide +kernel
theorem dX4_press_1 : decode cX4_press 1 = .ok (.invokestatic 183, 3) := by decide +kernel
theorem dX4_press_4 : decode cX4_press 4 = .ok (.ifCond .eq 10, 3) := by decide +kernel
theorem dX4_press_7 : decode cX4_press 7 = .ok (.iload_n 2, 1) := by decide +kernel
theorem dX4_press_8 : decode cX4_press 8 = .ok (.invokestatic 186, 3) := by decide +kernel
theorem dX4_press_11 : decode cX4_press 11 = .ok (.ifCond .ne 5, 3) := by decide +kernel
theorem dX4_press_14 : decode cX4_press 14 = .ok (.iconst (-1), 1) := by decide +kernel
theorem dX4_press_15 : decode cX4_press 15 = .ok (.ireturn, 1) := by decide +kernel
theorem dX4_press_16 : decode cX4_press 16 = .ok (.aload_n 0, 1) := by decide +kernel
theorem dX4_press_17 : decode cX4_press 17 = .ok (.aload_n 0, 1) := by decide +kernel
theorem dX4_press_18 : decode cX4_press 18 = .ok (.iload_n 1, 1) := by decide +kernel
theorem dX4_press_19 : decode cX4_press 19 = .ok (.iload_n 2, 1) := by decide +kernel
theorem dX4_press_20 : decode cX4_press 20 = .ok (.invokevirtual 189, 3) := by decide +kernel
theorem dX4_press_23 : decode cX4_press 23 = .ok (.i2l, 1) := by decide +kernel
theorem dX4_press_24 : decode cX4_press 24 = .ok (.invokevirtual 86, 3) := by decide +kernel
theorem dX4_press_27 : decode cX4_press 27 = .ok (.ireturn, 1) := by decide +kernel
theorem dX4_margin_0 : decode cX4_margin 0 = .ok (.iload_n 1, 1) := by decide +kernel
theorem dX4_margin_1 : decode cX4_margin 1 = .ok (.invokestatic 183, 3) := by decide +kernel
theorem dX4_margin_4 : decode cX4_margin 4 = .ok (.ifCond .eq 10, 3) := by decide +kernel
theorem dX4_margin_7 : decode cX4_margin 7 = .ok (.iload_n 2, 1) := by decide +kernel
theorem dX4_margin_8 : decode cX4_margin 8 = .ok (.invokestatic 186, 3) := by decide +kernel
theorem dX4_margin_11 : decode cX4_margin 11 = .ok (.ifCond .ne 5, 3) := by decide +kernel
theorem dX4_margin_14 : decode cX4_margin 14 = .ok (.iconst (-1), 1) := by decide +kernel
theorem dX4_margin_15 : decode cX4_margin 15 = .ok (.ireturn, 1) := by decide +kernel
theorem dX4_margin_16 : decode cX4_margin 16 = .ok (.aload_n 0, 1) := by decide +kernel
theorem dX4_margin_17 : decode cX4_margin 17 = .ok (.getfield 10, 3) := by decide +kernel
theorem dX4_margin_20 : decode cX4_margin 20 = .ok (.getfield 120, 3) := by decide +kernel
theorem dX4_margin_23 : decode cX4_margin 23 = .ok (.iconst 4, 1) := by decide +kernel
theorem dX4_margin_24 : decode cX4_margin 24 = .ok (.idiv, 1) := by decide +kernel
theorem dX4_margin_25 : decode cX4_margin 25 = .ok (.istore_n 3, 1) := by decide +kernel
theorem dX4_margin_26 : decode cX4_margin 26 = .ok (.iload_n 1, 1) := by decide +kernel
theorem dX4_margin_27 : decode cX4_margin 27 = .ok (.iload_n 3, 1) := by decide +kernel
theorem dX4_margin_28 : decode cX4_margin 28 = .ok (.imul, 1) := by decide +kernel
theorem dX4_margin_29 : decode cX4_margin 29 = .ok (.istore 4, 2) := by decide +kernel
theorem dX4_margin_31 : decode cX4_margin 31 = .ok (.iload_n 1, 1) := by decide +kernel
theorem dX4_margin_32 : decode cX4_margin 32 = .ok (.iconst 3, 1) := by decide +kernel
theorem dX4_margin_33 : decode cX4_margin 33 = .ok (.if_icmp .ne 15, 3) := by decide +kernel
theorem dX4_margin_36 : decode cX4_margin 36 = .ok (.aload_n 0, 1) := by decide +kernel
theorem dX4_margin_37 : decode cX4_margin 37 = .ok (.getfield 10, 3) := by decide +kernel
theorem dX4_margin_40 : decode cX4_margin 40 = .ok (.getfield 120, 3) := by decide +kernel
theorem dX4_margin_43 : decode cX4_margin 43 = .ok (.iconst 1, 1) := by decide +kernel
theorem dX4_margin_44 : decode cX4_margin 44 = .ok (.isub, 1) := by decide +kernel
theorem dX4_margin_45 : decode cX4_margin 45 = .ok (.goto 9, 3) := by decide +kernel
theorem dX4_margin_48 : decode cX4_margin 48 = .ok (.iload 4, 2) := by decide +kernel
theorem dX4_margin_50 : decode cX4_margin 50 = .ok (.iload_n 3, 1) := by decide +kernel
theorem dX4_margin_51 : decode cX4_margin 51 = .ok (.iadd, 1) := by decide +kernel
theorem dX4_margin_52 : decode cX4_margin 52 = .ok (.iconst 1, 1) := by decide +kernel
theorem dX4_margin_53 : decode cX4_margin 53 = .ok (.isub, 1) := by decide +kernel
theorem dX4_margin_54 : decode cX4_margin 54 = .ok (.istore 5, 2) := by decide +kernel
theorem dX4_margin_56 : decode cX4_margin 56 = .ok (.aload_n 0, 1) := by decide +kernel
theorem dX4_margin_57 : decode cX4_margin 57 = .ok (.getfield 10, 3) := by decide +kernel
theorem dX4_margin_60 : decode cX4_margin 60 = .ok (.iload 4, 2) := by decide +kernel
theorem dX4_margin_62 : decode cX4_margin 62 = .ok (.iload 5, 2) := by decide +kernel
theorem dX4_margin_64 : decode cX4_margin 64 = .ok (.invokevirtual 123, 3) := by decide +kernel
theorem dX4_margin_67 : decode cX4_margin 67 = .ok (.istore 6, 2) := by decide +kernel
theorem dX4_margin_69 : decode cX4_margin 69 = .ok (.iload 6, 2) := by decide +kernel
theorem dX4_margin_71 : decode cX4_margin 71 = .ok (.ifCond .ne 9, 3) := by decide +kernel
theorem dX4_margin_74 : decode cX4_margin 74 = .ok (.aload_n 0, 1) := by decide +kernel
theorem dX4_margin_75 : decode cX4_margin 75 = .ok (.iconst 4, 1) := by decide +kernel
theorem dX4_margin_76 : decode cX4_margin 76 = .ok (.invokevirtual 75, 3) := by decide +kernel
theorem dX4_margin_79 : decode cX4_margin 79 = .ok (.ireturn, 1) := by decide +kernel
theorem dX4_margin_80 : decode cX4_margin 80 = .ok (.aload_n 0, 1) := by decide +kernel
theorem dX4_margin_81 : decode cX4_margin 81 = .ok (.getfield 10, 3) := by decide +kernel
theorem dX4_margin_84 : decode cX4_margin 84 = .ok (.iload 4, 2) := by decide +kernel
theorem dX4_margin_86 : decode cX4_margin 86 = .ok (.iload 5, 2) := by decide +kernel
theorem dX4_margin_88 : decode cX4_margin 88 = .ok (.invokevirtual 192, 3) := by decide +kernel
theorem dX4_margin_91 : decode cX4_margin 91 = .ok (.iload 6, 2) := by decide +kernel
theorem dX4_margin_93 : decode cX4_margin 93 = .ok (.invokestatic 195, 3) := by decide +kernel
theorem dX4_margin_96 : decode cX4_margin 96 = .ok (.istore 7, 2) := by decide +kernel
theorem dX4_margin_98 : decode cX4_margin 98 = .ok (.ldc2_w 198, 3) := by decide +kernel
theorem dX4_margin_101 : decode cX4_margin 101 = .ok (.ldc2_w 200, 3) := by decide +kernel
theorem dX4_margin_104 : decode cX4_margin 104 = .ok (.iload 7, 2) := by decide +kernel
theorem dX4_margin_106 : decode cX4_margin 106 = .ok (.i2l, 1) := by decide +kernel
theorem dX4_margin_107 : decode cX4_margin 107 = .ok (.lmul, 1) := by decide +kernel
theorem dX4_margin_108 : decode cX4_margin 108 = .ok (.ladd, 1) := by decide +kernel
theorem dX4_margin_109 : decode cX4_margin 109 = .ok (.ldc2_w 202, 3) := by decide +kernel
theorem dX4_margin_112 : decode cX4_margin 112 = .ok (.aload_n 0, 1) := by decide +kernel
theorem dX4_margin_113 : decode cX4_margin 113 = .ok (.getfield 10, 3) := by decide +kernel
theorem dX4_margin_116 : decode cX4_margin 116 = .ok (.iload 4, 2) := by decide +kernel
theorem dX4_margin_118 : decode cX4_margin 118 = .ok (.iload 5, 2) := by decide +kernel
theorem dX4_margin_120 : decode cX4_margin 120 = .ok (.invokevirtual 204, 3) := by decide +kernel
theorem dX4_margin_123 : decode cX4_margin 123 = .ok (.i2l, 1) := by decide +kernel
theorem dX4_margin_124 : decode cX4_margin 124 = .ok (.lmul, 1) := by decide +kernel
theorem dX4_margin_125 : decode cX4_margin 125 = .ok (.lsub, 1) := by decide +kernel
theorem dX4_margin_126 : decode cX4_margin 126 = .ok (.aload_n 0, 1) := by decide +kernel
theorem dX4_margin_127 : decode cX4_margin 127 = .ok (.iload_n 1, 1) := by decide +kernel
theorem dX4_margin_128 : decode cX4_margin 128 = .ok (.iload_n 2, 1) := by decide +kernel
theorem dX4_margin_129 : decode cX4_margin 129 = .ok (.invokevirtual 189, 3) := by decide +kernel
theorem dX4_margin_132 : decode cX4_margin 132 = .ok (.i2l, 1) := by decide +kernel
theorem dX4_margin_133 : decode cX4_margin 133 = .ok (.lsub, 1) := by decide +kernel
theorem dX4_margin_134 : decode cX4_margin 134 = .ok (.lstore 8, 2) := by decide +kernel
theorem dX4_margin_136 : decode cX4_margin 136 = .ok (.aload_n 0, 1) := by decide +kernel
theorem dX4_margin_137 : decode cX4_margin 137 = .ok (.lload 8, 2) := by decide +kernel
theorem dX4_margin_139 : decode cX4_margin 139 = .ok (.invokevirtual 86, 3) := by decide +kernel
theorem dX4_margin_142 : decode cX4_margin 142 = .ok (.pop, 1) := by decide +kernel
theorem dX4_margin_143 : decode cX4_margin 143 = .ok (.lload 8, 2) := by decide +kernel
theorem dX4_margin_145 : decode cX4_margin 145 = .ok (.lconst 0, 1) := by decide +kernel
theorem dX4_margin_146 : decode cX4_margin 146 = .ok (.lcmp, 1) := by decide +kernel
theorem dX4_margin_147 : decode cX4_margin 147 = .ok (.ifCond .gt 7, 3) := by decide +kernel
theorem dX4_margin_150 : decode cX4_margin 150 = .ok (.iconst 1, 1) := by decide +kernel
theorem dX4_margin_151 : decode cX4_margin 151 = .ok (.goto 4, 3) := by decide +kernel
theorem dX4_margin_154 : decode cX4_margin 154 = .ok (.iconst 0, 1) := by decide +kernel
theorem dX4_margin_155 : decode cX4_margin 155 = .ok (.ireturn, 1) := by decide +kernel
theorem dX4_work_0 : decode cX4_work 0 = .ok (.iload_n 1, 1) := by decide +kernel
theorem dX4_work_1 : decode cX4_work 1 = .ok (.iconst 1, 1) := by decide +kernel
theorem dX4_work_2 : decode cX4_work 2 = .ok (.sipush 1000, 3) := by decide +kernel
theorem dX4_work_5 : decode cX4_work 5 = .ok (.invokestatic 52, 3) := by decide +kernel
theorem dX4_work_8 : decode cX4_work 8 = .ok (.ifCond .eq 14, 3) := by decide +kernel
theorem dX4_work_11 : decode cX4_work 11 = .ok (.iload_n 2, 1) := by decide +kernel
theorem dX4_work_12 : decode cX4_work 12 = .ok (.iconst 0, 1) := by decide +kernel
theorem dX4_work_13 : decode cX4_work 13 = .ok (.sipush 1000, 3) := by decide +kernel
theorem dX4_work_16 : decode cX4_work 16 = .ok (.invokestatic 52, 3) := by decide +kernel
theorem dX4_work_19 : decode cX4_work 19 = .ok (.ifCond .ne 5, 3) := by decide +kernel
theorem dX4_work_22 : decode cX4_work 22 = .ok (.iconst (-1), 1) := by decide +kernel
theorem dX4_work_23 : decode cX4_work 23 = .ok (.ireturn, 1) := by decide +kernel
theorem dX4_work_24 : decode cX4_work 24 = .ok (.aload_n 0, 1) := by decide +kernel
theorem dX4_work_25 : decode cX4_work 25 = .ok (.getfield 33, 3) := by decide +kernel
theorem dX4_work_28 : decode cX4_work 28 = .ok (.getfield 207, 3) := by decide +kernel
theorem dX4_work_31 : decode cX4_work 31 = .ok (.bipush 14, 2) := by decide +kernel
theorem dX4_work_33 : decode cX4_work 33 = .ok (.if_icmp .lt 6, 3) := by decide +kernel
theorem dX4_work_36 : decode cX4_work 36 = .ok (.bipush (-2), 2) := by decide +kernel
theorem dX4_work_38 : decode cX4_work 38 = .ok (.ireturn, 1) := by decide +kernel
theorem dX4_work_39 : decode cX4_work 39 = .ok (.aload_n 0, 1) := by decide +kernel
theorem dX4_work_40 : decode cX4_work 40 = .ok (.getfield 33, 3) := by decide +kernel
theorem dX4_work_43 : decode cX4_work 43 = .ok (.iload_n 1, 1) := by decide +kernel
theorem dX4_work_44 : decode cX4_work 44 = .ok (.iload_n 2, 1) := by decide +kernel
theorem dX4_work_45 : decode cX4_work 45 = .ok (.invokevirtual 208, 3) := by decide +kernel
theorem dX4_work_48 : decode cX4_work 48 = .ok (.ireturn, 1) := by decide +kernel
theorem dX4_best_0 : decode cX4_best 0 = .ok (.iload_n 1, 1) := by decide +kernel
theorem dX4_best_1 : decode cX4_best 1 = .ok (.iconst 0, 1) := by decide +kernel
theorem dX4_best_2 : decode cX4_best 2 = .ok (.sipush 14000, 3) := by decide +kernel
theorem dX4_best_5 : decode cX4_best 5 = .ok (.invokestatic 52, 3) := by decide +kernel
theorem dX4_best_8 : decode cX4_best 8 = .ok (.ifCond .ne 5, 3) := by decide +kernel
theorem dX4_best_11 : decode cX4_best 11 = .ok (.iconst (-1), 1) := by decide +kernel
theorem dX4_best_12 : decode cX4_best 12 = .ok (.ireturn, 1) := by decide +kernel
theorem dX4_best_13 : decode cX4_best 13 = .ok (.aload_n 0, 1) := by decide +kernel
theorem dX4_best_14 : decode cX4_best 14 = .ok (.getfield 33, 3) := by decide +kernel
theorem dX4_best_17 : decode cX4_best 17 = .ok (.iload_n 1, 1) := by decide +kernel
theorem dX4_best_18 : decode cX4_best 18 = .ok (.invokevirtual 211, 3) := by decide +kernel
theorem dX4_best_21 : decode cX4_best 21 = .ok (.istore_n 2, 1) := by decide +kernel
theorem dX4_best_22 : decode cX4_best 22 = .ok (.aload_n 0, 1) := by decide +kernel
theorem dX4_best_23 : decode cX4_best 23 = .ok (.iload_n 2, 1) := by decide +kernel
theorem dX4_best_24 : decode cX4_best 24 = .ok (.i2l, 1) := by decide +kernel
theorem dX4_best_25 : decode cX4_best 25 = .ok (.invokevirtual 86, 3) := by decide +kernel
theorem dX4_best_28 : decode cX4_best 28 = .ok (.pop, 1) := by decide +kernel
theorem dX4_best_29 : decode cX4_best 29 = .ok (.aload_n 0, 1) := by decide +kernel
theorem dX4_best_30 : decode cX4_best 30 = .ok (.getfield 33, 3) := by decide +kernel
theorem dX4_best_33 : decode cX4_best 33 = .ok (.iload_n 2, 1) := by decide +kernel
theorem dX4_best_34 : decode cX4_best 34 = .ok (.invokevirtual 214, 3) := by decide +kernel
theorem dX4_best_37 : decode cX4_best 37 = .ok (.ireturn, 1) := by decide +kernel
theorem dX4_first_0 : decode cX4_first 0 = .ok (.iload_n 1, 1) := by decide +kernel
theorem dX4_first_1 : decode cX4_first 1 = .ok (.iconst 0, 1) := by decide +kernel
theorem dX4_first_2 : decode cX4_first 2 = .ok (.sipush 14000, 3) := by decide +kernel
theorem dX4_first_5 : decode cX4_first 5 = .ok (.invokestatic 52, 3) := by decide +kernel
theorem dX4_first_8 : decode cX4_first 8 = .ok (.ifCond .ne 5, 3) := by decide +kernel
theorem dX4_first_11 : decode cX4_first 11 = .ok (.iconst (-1), 1) := by decide +kernel
theorem dX4_first_12 : decode cX4_first 12 = .ok (.ireturn, 1) := by decide +kernel
theorem dX4_first_13 : decode cX4_first 13 = .ok (.aload_n 0, 1) := by decide +kernel
theorem dX4_first_14 : decode cX4_first 14 = .ok (.getfield 33, 3) := by decide +kernel
theorem dX4_first_17 : decode cX4_first 17 = .ok (.iload_n 1, 1) := by decide +kernel
theorem dX4_first_18 : decode cX4_first 18 = .ok (.invokevirtual 217, 3) := by decide +kernel
theorem dX4_first_21 : decode cX4_first 21 = .ok (.istore_n 2, 1) := by decide +kernel
theorem dX4_first_22 : decode cX4_first 22 = .ok (.aload_n 0, 1) := by decide +kernel
theorem dX4_first_23 : decode cX4_first 23 = .ok (.iload_n 2, 1) := by decide +kernel
theorem dX4_first_24 : decode cX4_first 24 = .ok (.i2l, 1) := by decide +kernel
theorem dX4_first_25 : decode cX4_first 25 = .ok (.invokevirtual 86, 3) := by decide +kernel
theorem dX4_first_28 : decode cX4_first 28 = .ok (.pop, 1) := by decide +kernel
theorem dX4_first_29 : decode cX4_first 29 = .ok (.aload_n 0, 1) := by decide +kernel
theorem dX4_first_30 : decode cX4_first 30 = .ok (.getfield 33, 3) := by decide +kernel
theorem dX4_first_33 : decode cX4_first 33 = .ok (.iload_n 2, 1) := by decide +kernel
theorem dX4_first_34 : decode cX4_first 34 = .ok (.invokevirtual 214, 3) := by decide +kernel
theorem dX4_first_37 : decode cX4_first 37 = .ok (.ireturn, 1) := by decide +kernel
theorem dX4_asked_0 : decode cX4_asked 0 = .ok (.aload_n 0, 1) := by decide +kernel
theorem dX4_asked_1 : decode cX4_asked 1 = .ok (.getfield 48, 3) := by decide +kernel
theorem dX4_asked_4 : decode cX4_asked 4 = .ok (.lreturn, 1) := by decide +kernel
theorem dX4_count_0 : decode cX4_count 0 = .ok (.iload_n 1, 1) := by decide +kernel
theorem dX4_count_1 : decode cX4_count 1 = .ok (.tableswitch 93 0 4 #[35, 43, 69, 77, 85], 35) := by decide +kernel
theorem dX4_count_36 : decode cX4_count 36 = .ok (.aload_n 0, 1) := by decide +kernel
theorem dX4_count_37 : decode cX4_count 37 = .ok (.getfield 10, 3) := by decide +kernel
theorem dX4_count_40 : decode cX4_count 40 = .ok (.getfield 120, 3) := by decide +kernel
theorem dX4_count_43 : decode cX4_count 43 = .ok (.ireturn, 1) := by decide +kernel
theorem dX4_count_44 : decode cX4_count 44 = .ok (.aload_n 0, 1) := by decide +kernel
theorem dX4_count_45 : decode cX4_count 45 = .ok (.getfield 10, 3) := by decide +kernel
theorem dX4_count_48 : decode cX4_count 48 = .ok (.getfield 120, 3) := by decide +kernel
theorem dX4_count_51 : decode cX4_count 51 = .ok (.aload_n 0, 1) := by decide +kernel
theorem dX4_count_52 : decode cX4_count 52 = .ok (.getfield 10, 3) := by decide +kernel
theorem dX4_count_55 : decode cX4_count 55 = .ok (.iconst 0, 1) := by decide +kernel
theorem dX4_count_56 : decode cX4_count 56 = .ok (.aload_n 0, 1) := by decide +kernel
theorem dX4_count_57 : decode cX4_count 57 = .ok (.getfield 10, 3) := by decide +kernel
theorem dX4_count_60 : decode cX4_count 60 = .ok (.getfield 120, 3) := by decide +kernel
theorem dX4_count_63 : decode cX4_count 63 = .ok (.iconst 1, 1) := by decide +kernel
theorem dX4_count_64 : decode cX4_count 64 = .ok (.isub, 1) := by decide +kernel
theorem dX4_count_65 : decode cX4_count 65 = .ok (.invokevirtual 123, 3) := by decide +kernel
theorem dX4_count_68 : decode cX4_count 68 = .ok (.isub, 1) := by decide +kernel
theorem dX4_count_69 : decode cX4_count 69 = .ok (.ireturn, 1) := by decide +kernel
theorem dX4_count_70 : decode cX4_count 70 = .ok (.aload_n 0, 1) := by decide +kernel
theorem dX4_count_71 : decode cX4_count 71 = .ok (.getfield 19, 3) := by decide +kernel
theorem dX4_count_74 : decode cX4_count 74 = .ok (.getfield 106, 3) := by decide +kernel
theorem dX4_count_77 : decode cX4_count 77 = .ok (.ireturn, 1) := by decide +kernel
theorem dX4_count_78 : decode cX4_count 78 = .ok (.aload_n 0, 1) := by decide +kernel
theorem dX4_count_79 : decode cX4_count 79 = .ok (.getfield 26, 3) := by decide +kernel
theorem dX4_count_82 : decode cX4_count 82 = .ok (.invokevirtual 220, 3) := by decide +kernel
theorem dX4_count_85 : decode cX4_count 85 = .ok (.ireturn, 1) := by decide +kernel
theorem dX4_count_86 : decode cX4_count 86 = .ok (.aload_n 0, 1) := by decide +kernel
theorem dX4_count_87 : decode cX4_count 87 = .ok (.getfield 33, 3) := by decide +kernel
theorem dX4_count_90 : decode cX4_count 90 = .ok (.getfield 207, 3) := by decide +kernel
theorem dX4_count_93 : decode cX4_count 93 = .ok (.ireturn, 1) := by decide +kernel
theorem dX4_count_94 : decode cX4_count 94 = .ok (.iconst (-1), 1) := by decide +kernel
theorem dX4_count_95 : decode cX4_count 95 = .ok (.ireturn, 1) := by decide +kernel
theorem dX4_finding_0 : decode cX4_finding 0 = .ok (.aload_n 0, 1) := by decide +kernel
theorem dX4_finding_1 : decode cX4_finding 1 = .ok (.getfield 44, 3) := by decide +kernel
theorem dX4_finding_4 : decode cX4_finding 4 = .ok (.ireturn, 1) := by decide +kernel
theorem dX4_findings_0 : decode cX4_findings 0 = .ok (.iload_n 1, 1) := by decide +kernel
theorem dX4_findings_1 : decode cX4_findings 1 = .ok (.iconst 1, 1) := by decide +kernel
theorem dX4_findings_2 : decode cX4_findings 2 = .ok (.iconst 5, 1) := by decide +kernel
theorem dX4_findings_3 : decode cX4_findings 3 = .ok (.invokestatic 52, 3) := by decide +kernel
theorem dX4_findings_6 : decode cX4_findings 6 = .ok (.ifCond .ne 5, 3) := by decide +kernel
theorem dX4_findings_9 : decode cX4_findings 9 = .ok (.iconst (-1), 1) := by decide +kernel
theorem dX4_findings_10 : decode cX4_findings 10 = .ok (.ireturn, 1) := by decide +kernel
theorem dX4_findings_11 : decode cX4_findings 11 = .ok (.aload_n 0, 1) := by decide +kernel
theorem dX4_findings_12 : decode cX4_findings 12 = .ok (.getfield 41, 3) := by decide +kernel
theorem dX4_findings_15 : decode cX4_findings 15 = .ok (.iload_n 1, 1) := by decide +kernel
theorem dX4_findings_16 : decode cX4_findings 16 = .ok (.iaload, 1) := by decide +kernel
theorem dX4_findings_17 : decode cX4_findings 17 = .ok (.ireturn, 1) := by decide +kernel
theorem dX4_digest_0 : decode cX4_digest 0 = .ok (.ldc2_w 223, 3) := by decide +kernel
theorem dX4_digest_3 : decode cX4_digest 3 = .ok (.lstore_n 1, 1) := by decide +kernel
theorem dX4_digest_4 : decode cX4_digest 4 = .ok (.iconst 0, 1) := by decide +kernel
theorem dX4_digest_5 : decode cX4_digest 5 = .ok (.istore_n 3, 1) := by decide +kernel
theorem dX4_digest_6 : decode cX4_digest 6 = .ok (.iload_n 3, 1) := by decide +kernel
theorem dX4_digest_7 : decode cX4_digest 7 = .ok (.iconst 5, 1) := by decide +kernel
theorem dX4_digest_8 : decode cX4_digest 8 = .ok (.if_icmp .ge 22, 3) := by decide +kernel
theorem dX4_digest_11 : decode cX4_digest 11 = .ok (.ldc2_w 225, 3) := by decide +kernel
theorem dX4_digest_14 : decode cX4_digest 14 = .ok (.lload_n 1, 1) := by decide +kernel
theorem dX4_digest_15 : decode cX4_digest 15 = .ok (.lmul, 1) := by decide +kernel
theorem dX4_digest_16 : decode cX4_digest 16 = .ok (.aload_n 0, 1) := by decide +kernel
theorem dX4_digest_17 : decode cX4_digest 17 = .ok (.iload_n 3, 1) := by decide +kernel
theorem dX4_digest_18 : decode cX4_digest 18 = .ok (.invokevirtual 227, 3) := by decide +kernel
theorem dX4_digest_21 : decode cX4_digest 21 = .ok (.i2l, 1) := by decide +kernel
theorem dX4_digest_22 : decode cX4_digest 22 = .ok (.ladd, 1) := by decide +kernel
theorem dX4_digest_23 : decode cX4_digest 23 = .ok (.lstore_n 1, 1) := by decide +kernel
theorem dX4_digest_24 : decode cX4_digest 24 = .ok (.iinc 3 1, 3) := by decide +kernel
theorem dX4_digest_27 : decode cX4_digest 27 = .ok (.goto (-21), 3) := by decide +kernel
theorem dX4_digest_30 : decode cX4_digest 30 = .ok (.iconst 0, 1) := by decide +kernel
theorem dX4_digest_31 : decode cX4_digest 31 = .ok (.istore_n 3, 1) := by decide +kernel
theorem dX4_digest_32 : decode cX4_digest 32 = .ok (.iload_n 3, 1) := by decide +kernel
theorem dX4_digest_33 : decode cX4_digest 33 = .ok (.aload_n 0, 1) := by decide +kernel
theorem dX4_digest_34 : decode cX4_digest 34 = .ok (.getfield 10, 3) := by decide +kernel
theorem dX4_digest_37 : decode cX4_digest 37 = .ok (.getfield 120, 3) := by decide +kernel
theorem dX4_digest_40 : decode cX4_digest 40 = .ok (.if_icmp .ge 56, 3) := by decide +kernel
theorem dX4_digest_43 : decode cX4_digest 43 = .ok (.iconst 0, 1) := by decide +kernel
theorem dX4_digest_44 : decode cX4_digest 44 = .ok (.istore 4, 2) := by decide +kernel
theorem dX4_digest_46 : decode cX4_digest 46 = .ok (.iload 4, 2) := by decide +kernel
theorem dX4_digest_48 : decode cX4_digest 48 = .ok (.iconst 4, 1) := by decide +kernel
theorem dX4_digest_49 : decode cX4_digest 49 = .ok (.if_icmp .ge 24, 3) := by decide +kernel
theorem dX4_digest_52 : decode cX4_digest 52 = .ok (.ldc2_w 225, 3) := by decide +kernel
theorem dX4_digest_55 : decode cX4_digest 55 = .ok (.lload_n 1, 1) := by decide +kernel
theorem dX4_digest_56 : decode cX4_digest 56 = .ok (.lmul, 1) := by decide +kernel
theorem dX4_digest_57 : decode cX4_digest 57 = .ok (.aload_n 0, 1) := by decide +kernel
theorem dX4_digest_58 : decode cX4_digest 58 = .ok (.iload_n 3, 1) := by decide +kernel
theorem dX4_digest_59 : decode cX4_digest 59 = .ok (.iload 4, 2) := by decide +kernel
theorem dX4_digest_61 : decode cX4_digest 61 = .ok (.invokevirtual 230, 3) := by decide +kernel
theorem dX4_digest_64 : decode cX4_digest 64 = .ok (.i2l, 1) := by decide +kernel
theorem dX4_digest_65 : decode cX4_digest 65 = .ok (.ladd, 1) := by decide +kernel
theorem dX4_digest_66 : decode cX4_digest 66 = .ok (.lstore_n 1, 1) := by decide +kernel
theorem dX4_digest_67 : decode cX4_digest 67 = .ok (.iinc 4 1, 3) := by decide +kernel
theorem dX4_digest_70 : decode cX4_digest 70 = .ok (.goto (-24), 3) := by decide +kernel
theorem dX4_digest_73 : decode cX4_digest 73 = .ok (.ldc2_w 225, 3) := by decide +kernel
theorem dX4_digest_76 : decode cX4_digest 76 = .ok (.lload_n 1, 1) := by decide +kernel
theorem dX4_digest_77 : decode cX4_digest 77 = .ok (.lmul, 1) := by decide +kernel
theorem dX4_digest_78 : decode cX4_digest 78 = .ok (.aload_n 0, 1) := by decide +kernel
theorem dX4_digest_79 : decode cX4_digest 79 = .ok (.getfield 10, 3) := by decide +kernel
theorem dX4_digest_82 : decode cX4_digest 82 = .ok (.getfield 79, 3) := by decide +kernel
theorem dX4_digest_85 : decode cX4_digest 85 = .ok (.iload_n 3, 1) := by decide +kernel
theorem dX4_digest_86 : decode cX4_digest 86 = .ok (.iaload, 1) := by decide +kernel
theorem dX4_digest_87 : decode cX4_digest 87 = .ok (.i2l, 1) := by decide +kernel
theorem dX4_digest_88 : decode cX4_digest 88 = .ok (.ladd, 1) := by decide +kernel
theorem dX4_digest_89 : decode cX4_digest 89 = .ok (.lstore_n 1, 1) := by decide +kernel
theorem dX4_digest_90 : decode cX4_digest 90 = .ok (.iinc 3 1, 3) := by decide +kernel
theorem dX4_digest_93 : decode cX4_digest 93 = .ok (.goto (-61), 3) := by decide +kernel
theorem dX4_digest_96 : decode cX4_digest 96 = .ok (.iconst 0, 1) := by decide +kernel
theorem dX4_digest_97 : decode cX4_digest 97 = .ok (.istore_n 3, 1) := by decide +kernel
theorem dX4_digest_98 : decode cX4_digest 98 = .ok (.iload_n 3, 1) := by decide +kernel
theorem dX4_digest_99 : decode cX4_digest 99 = .ok (.iconst 4, 1) := by decide +kernel
theorem dX4_digest_100 : decode cX4_digest 100 = .ok (.if_icmp .ge 23, 3) := by decide +kernel
theorem dX4_digest_103 : decode cX4_digest 103 = .ok (.ldc2_w 225, 3) := by decide +kernel
theorem dX4_digest_106 : decode cX4_digest 106 = .ok (.lload_n 1, 1) := by decide +kernel
theorem dX4_digest_107 : decode cX4_digest 107 = .ok (.lmul, 1) := by decide +kernel
theorem dX4_digest_108 : decode cX4_digest 108 = .ok (.aload_n 0, 1) := by decide +kernel
theorem dX4_digest_109 : decode cX4_digest 109 = .ok (.getfield 37, 3) := by decide +kernel
theorem dX4_digest_112 : decode cX4_digest 112 = .ok (.iload_n 3, 1) := by decide +kernel
theorem dX4_digest_113 : decode cX4_digest 113 = .ok (.iaload, 1) := by decide +kernel
theorem dX4_digest_114 : decode cX4_digest 114 = .ok (.i2l, 1) := by decide +kernel
theorem dX4_digest_115 : decode cX4_digest 115 = .ok (.ladd, 1) := by decide +kernel
theorem dX4_digest_116 : decode cX4_digest 116 = .ok (.lstore_n 1, 1) := by decide +kernel
theorem dX4_digest_117 : decode cX4_digest 117 = .ok (.iinc 3 1, 3) := by decide +kernel
theorem dX4_digest_120 : decode cX4_digest 120 = .ok (.goto (-22), 3) := by decide +kernel
theorem dX4_digest_123 : decode cX4_digest 123 = .ok (.iconst 0, 1) := by decide +kernel
theorem dX4_digest_124 : decode cX4_digest 124 = .ok (.istore_n 3, 1) := by decide +kernel
theorem dX4_digest_125 : decode cX4_digest 125 = .ok (.iload_n 3, 1) := by decide +kernel
theorem dX4_digest_126 : decode cX4_digest 126 = .ok (.bipush 6, 2) := by decide +kernel
theorem dX4_digest_128 : decode cX4_digest 128 = .ok (.if_icmp .ge 19, 3) := by decide +kernel
theorem dX4_digest_131 : decode cX4_digest 131 = .ok (.aload_n 0, 1) := by decide +kernel
theorem dX4_digest_132 : decode cX4_digest 132 = .ok (.getfield 26, 3) := by decide +kernel
theorem dX4_digest_135 : decode cX4_digest 135 = .ok (.lload_n 1, 1) := by decide +kernel
theorem dX4_digest_136 : decode cX4_digest 136 = .ok (.iload_n 3, 1) := by decide +kernel
theorem dX4_digest_137 : decode cX4_digest 137 = .ok (.invokevirtual 233, 3) := by decide +kernel
theorem dX4_digest_140 : decode cX4_digest 140 = .ok (.lstore_n 1, 1) := by decide +kernel
theorem dX4_digest_141 : decode cX4_digest 141 = .ok (.iinc 3 1, 3) := by decide +kernel
theorem dX4_digest_144 : decode cX4_digest 144 = .ok (.goto (-19), 3) := by decide +kernel
theorem dX4_digest_147 : decode cX4_digest 147 = .ok (.lload_n 1, 1) := by decide +kernel
theorem dX4_digest_148 : decode cX4_digest 148 = .ok (.lreturn, 1) := by decide +kernel
theorem dX4_found_0 : decode cX4_found 0 = .ok (.aload_n 0, 1) := by decide +kernel
theorem dX4_found_1 : decode cX4_found 1 = .ok (.iload_n 1, 1) := by decide +kernel
theorem dX4_found_2 : decode cX4_found 2 = .ok (.putfield 44, 3) := by decide +kernel
theorem dX4_found_5 : decode cX4_found 5 = .ok (.aload_n 0, 1) := by decide +kernel
theorem dX4_found_6 : decode cX4_found 6 = .ok (.getfield 41, 3) := by decide +kernel
theorem dX4_found_9 : decode cX4_found 9 = .ok (.iload_n 1, 1) := by decide +kernel
theorem dX4_found_10 : decode cX4_found 10 = .ok (.dup2, 1) := by decide +kernel
theorem dX4_found_11 : decode cX4_found 11 = .ok (.iaload, 1) := by decide +kernel
theorem dX4_found_12 : decode cX4_found 12 = .ok (.iconst 1, 1) := by decide +kernel
theorem dX4_found_13 : decode cX4_found 13 = .ok (.iadd, 1) := by decide +kernel
theorem dX4_found_14 : decode cX4_found 14 = .ok (.iastore, 1) := by decide +kernel
theorem dX4_found_15 : decode cX4_found 15 = .ok (.bipush (-3), 2) := by decide +kernel
theorem dX4_found_17 : decode cX4_found 17 = .ok (.ireturn, 1) := by decide +kernel
theorem dX4_tell_0 : decode cX4_tell 0 = .ok (.aload_n 0, 1) := by decide +kernel
theorem dX4_tell_1 : decode cX4_tell 1 = .ok (.lload_n 1, 1) := by decide +kernel
theorem dX4_tell_2 : decode cX4_tell 2 = .ok (.putfield 48, 3) := by decide +kernel
theorem dX4_tell_5 : decode cX4_tell 5 = .ok (.iconst 1, 1) := by decide +kernel
theorem dX4_tell_6 : decode cX4_tell 6 = .ok (.ireturn, 1) := by decide +kernel
theorem dX4_pressOf_0 : decode cX4_pressOf 0 = .ok (.iload_n 2, 1) := by decide +kernel
theorem dX4_pressOf_1 : decode cX4_pressOf 1 = .ok (.aload_n 0, 1) := by decide +kernel
theorem dX4_pressOf_2 : decode cX4_pressOf 2 = .ok (.getfield 37, 3) := by decide +kernel
theorem dX4_pressOf_5 : decode cX4_pressOf 5 = .ok (.iload_n 1, 1) := by decide +kernel
theorem dX4_pressOf_6 : decode cX4_pressOf 6 = .ok (.iaload, 1) := by decide +kernel
theorem dX4_pressOf_7 : decode cX4_pressOf 7 = .ok (.isub, 1) := by decide +kernel
theorem dX4_pressOf_8 : decode cX4_pressOf 8 = .ok (.bipush 24, 2) := by decide +kernel
theorem dX4_pressOf_10 : decode cX4_pressOf 10 = .ok (.imul, 1) := by decide +kernel
theorem dX4_pressOf_11 : decode cX4_pressOf 11 = .ok (.ireturn, 1) := by decide +kernel
theorem dX4_within_0 : decode cX4_within 0 = .ok (.iload_n 0, 1) := by decide +kernel
theorem dX4_within_1 : decode cX4_within 1 = .ok (.iload_n 1, 1) := by decide +kernel
theorem dX4_within_2 : decode cX4_within 2 = .ok (.if_icmp .lt 12, 3) := by decide +kernel
theorem dX4_within_5 : decode cX4_within 5 = .ok (.iload_n 0, 1) := by decide +kernel
theorem dX4_within_6 : decode cX4_within 6 = .ok (.iload_n 2, 1) := by decide +kernel
theorem dX4_within_7 : decode cX4_within 7 = .ok (.if_icmp .gt 7, 3) := by decide +kernel
theorem dX4_within_10 : decode cX4_within 10 = .ok (.iconst 1, 1) := by decide +kernel
theorem dX4_within_11 : decode cX4_within 11 = .ok (.goto 4, 3) := by decide +kernel
theorem dX4_within_14 : decode cX4_within 14 = .ok (.iconst 0, 1) := by decide +kernel
theorem dX4_within_15 : decode cX4_within 15 = .ok (.ireturn, 1) := by decide +kernel
theorem dX4_isRun_0 : decode cX4_isRun 0 = .ok (.iload_n 0, 1) := by decide +kernel
theorem dX4_isRun_1 : decode cX4_isRun 1 = .ok (.iconst 0, 1) := by decide +kernel
theorem dX4_isRun_2 : decode cX4_isRun 2 = .ok (.iconst 5, 1) := by decide +kernel
theorem dX4_isRun_3 : decode cX4_isRun 3 = .ok (.invokestatic 52, 3) := by decide +kernel
theorem dX4_isRun_6 : decode cX4_isRun 6 = .ok (.ireturn, 1) := by decide +kernel
theorem dX4_isStretch_0 : decode cX4_isStretch 0 = .ok (.iload_n 0, 1) := by decide +kernel
theorem dX4_isStretch_1 : decode cX4_isStretch 1 = .ok (.iconst 0, 1) := by decide +kernel
theorem dX4_isStretch_2 : decode cX4_isStretch 2 = .ok (.iconst 3, 1) := by decide +kernel
theorem dX4_isStretch_3 : decode cX4_isStretch 3 = .ok (.invokestatic 52, 3) := by decide +kernel
theorem dX4_isStretch_6 : decode cX4_isStretch 6 = .ok (.ireturn, 1) := by decide +kernel
theorem dX4_isTemperature_0 : decode cX4_isTemperature 0 = .ok (.iload_n 0, 1) := by decide +kernel
theorem dX4_isTemperature_1 : decode cX4_isTemperature 1 = .ok (.sipush (-400), 3) := by decide +kernel
theorem dX4_isTemperature_4 : decode cX4_isTemperature 4 = .ok (.sipush 600, 3) := by decide +kernel
theorem dX4_isTemperature_7 : decode cX4_isTemperature 7 = .ok (.invokestatic 52, 3) := by decide +kernel
theorem dX4_isTemperature_10 : decode cX4_isTemperature 10 = .ok (.ireturn, 1) := by decide +kernel
theorem dX4_holdsPlaces_0 : decode cX4_holdsPlaces 0 = .ok (.iload_n 1, 1) := by decide +kernel
theorem dX4_holdsPlaces_1 : decode cX4_holdsPlaces 1 = .ok (.bipush 40, 2) := by decide +kernel
theorem dX4_holdsPlaces_3 : decode cX4_holdsPlaces 3 = .ok (.if_icmp .gt 19, 3) := by decide +kernel
theorem dX4_holdsPlaces_6 : decode cX4_holdsPlaces 6 = .ok (.iload_n 0, 1) := by decide +kernel
theorem dX4_holdsPlaces_7 : decode cX4_holdsPlaces 7 = .ok (.iconst 0, 1) := by decide +kernel
theorem dX4_holdsPlaces_8 : decode cX4_holdsPlaces 8 = .ok (.bipush 40, 2) := by decide +kernel
theorem dX4_holdsPlaces_10 : decode cX4_holdsPlaces 10 = .ok (.iload_n 1, 1) := by decide +kernel
theorem dX4_holdsPlaces_11 : decode cX4_holdsPlaces 11 = .ok (.isub, 1) := by decide +kernel
theorem dX4_holdsPlaces_12 : decode cX4_holdsPlaces 12 = .ok (.invokestatic 52, 3) := by decide +kernel
theorem dX4_holdsPlaces_15 : decode cX4_holdsPlaces 15 = .ok (.ifCond .eq 7, 3) := by decide +kernel
theorem dX4_holdsPlaces_18 : decode cX4_holdsPlaces 18 = .ok (.iconst 1, 1) := by decide +kernel
theorem dX4_holdsPlaces_19 : decode cX4_holdsPlaces 19 = .ok (.goto 4, 3) := by decide +kernel
theorem dX4_holdsPlaces_22 : decode cX4_holdsPlaces 22 = .ok (.iconst 0, 1) := by decide +kernel
theorem dX4_holdsPlaces_23 : decode cX4_holdsPlaces 23 = .ok (.ireturn, 1) := by decide +kernel
theorem dX4_cutShare_0 : decode cX4_cutShare 0 = .ok (.iload_n 1, 1) := by decide +kernel
theorem dX4_cutShare_1 : decode cX4_cutShare 1 = .ok (.iconst 1, 1) := by decide +kernel
theorem dX4_cutShare_2 : decode cX4_cutShare 2 = .ok (.if_icmp .ge 7, 3) := by decide +kernel
theorem dX4_cutShare_5 : decode cX4_cutShare 5 = .ok (.iconst 0, 1) := by decide +kernel
theorem dX4_cutShare_6 : decode cX4_cutShare 6 = .ok (.goto 6, 3) := by decide +kernel
theorem dX4_cutShare_9 : decode cX4_cutShare 9 = .ok (.iload_n 0, 1) := by decide +kernel
theorem dX4_cutShare_10 : decode cX4_cutShare 10 = .ok (.iload_n 1, 1) := by decide +kernel
theorem dX4_cutShare_11 : decode cX4_cutShare 11 = .ok (.idiv, 1) := by decide +kernel
theorem dX4_cutShare_12 : decode cX4_cutShare 12 = .ok (.ireturn, 1) := by decide +kernel
theorem dX4_floorShare_0 : decode cX4_floorShare 0 = .ok (.iload_n 1, 1) := by decide +kernel
theorem dX4_floorShare_1 : decode cX4_floorShare 1 = .ok (.iconst 1, 1) := by decide +kernel
theorem dX4_floorShare_2 : decode cX4_floorShare 2 = .ok (.if_icmp .ge 7, 3) := by decide +kernel
theorem dX4_floorShare_5 : decode cX4_floorShare 5 = .ok (.iconst 0, 1) := by decide +kernel
theorem dX4_floorShare_6 : decode cX4_floorShare 6 = .ok (.goto 8, 3) := by decide +kernel
theorem dX4_floorShare_9 : decode cX4_floorShare 9 = .ok (.iload_n 0, 1) := by decide +kernel
theorem dX4_floorShare_10 : decode cX4_floorShare 10 = .ok (.iload_n 1, 1) := by decide +kernel
theorem dX4_floorShare_11 : decode cX4_floorShare 11 = .ok (.invokestatic 237, 3) := by decide +kernel
theorem dX4_floorShare_14 : decode cX4_floorShare 14 = .ok (.ireturn, 1) := by decide +kernel
theorem dX5_init_0 : decode cX5_init 0 = .ok (.aload_n 0, 1) := by decide +kernel
theorem dX5_init_1 : decode cX5_init 1 = .ok (.invokespecial 1, 3) := by decide +kernel
theorem dX5_init_4 : decode cX5_init 4 = .ok (.aload_n 0, 1) := by decide +kernel
theorem dX5_init_5 : decode cX5_init 5 = .ok (.bipush 6, 2) := by decide +kernel
theorem dX5_init_7 : decode cX5_init 7 = .ok (.newarray .int, 2) := by decide +kernel
theorem dX5_init_9 : decode cX5_init 9 = .ok (.putfield 7, 3) := by decide +kernel
theorem dX5_init_12 : decode cX5_init 12 = .ok (.aload_n 0, 1) := by decide +kernel
theorem dX5_init_13 : decode cX5_init 13 = .ok (.bipush 40, 2) := by decide +kernel
theorem dX5_init_15 : decode cX5_init 15 = .ok (.newarray .int, 2) := by decide +kernel
theorem dX5_init_17 : decode cX5_init 17 = .ok (.putfield 13, 3) := by decide +kernel
theorem dX5_init_20 : decode cX5_init 20 = .ok (.aload_n 0, 1) := by decide +kernel
theorem dX5_init_21 : decode cX5_init 21 = .ok (.bipush 40, 2) := by decide +kernel
theorem dX5_init_23 : decode cX5_init 23 = .ok (.newarray .int, 2) := by decide +kernel
theorem dX5_init_25 : decode cX5_init 25 = .ok (.putfield 16, 3) := by decide +kernel
theorem dX5_init_28 : decode cX5_init 28 = .ok (.aload_n 0, 1) := by decide +kernel
theorem dX5_init_29 : decode cX5_init 29 = .ok (.bipush 40, 2) := by decide +kernel
theorem dX5_init_31 : decode cX5_init 31 = .ok (.newarray .int, 2) := by decide +kernel
theorem dX5_init_33 : decode cX5_init 33 = .ok (.putfield 19, 3) := by decide +kernel
theorem dX5_init_36 : decode cX5_init 36 = .ok (.aload_n 0, 1) := by decide +kernel
theorem dX5_init_37 : decode cX5_init 37 = .ok (.bipush 40, 2) := by decide +kernel
theorem dX5_init_39 : decode cX5_init 39 = .ok (.newarray .int, 2) := by decide +kernel
theorem dX5_init_41 : decode cX5_init 41 = .ok (.putfield 22, 3) := by decide +kernel
theorem dX5_init_44 : decode cX5_init 44 = .ok (.aload_n 0, 1) := by decide +kernel
theorem dX5_init_45 : decode cX5_init 45 = .ok (.bipush 40, 2) := by decide +kernel
theorem dX5_init_47 : decode cX5_init 47 = .ok (.newarray .int, 2) := by decide +kernel
theorem dX5_init_49 : decode cX5_init 49 = .ok (.putfield 25, 3) := by decide +kernel
theorem dX5_init_52 : decode cX5_init 52 = .ok (.aload_n 0, 1) := by decide +kernel
theorem dX5_init_53 : decode cX5_init 53 = .ok (.bipush 40, 2) := by decide +kernel
theorem dX5_init_55 : decode cX5_init 55 = .ok (.newarray .boolean, 2) := by decide +kernel
theorem dX5_init_57 : decode cX5_init 57 = .ok (.putfield 28, 3) := by decide +kernel
theorem dX5_init_60 : decode cX5_init 60 = .ok (.aload_n 0, 1) := by decide +kernel
theorem dX5_init_61 : decode cX5_init 61 = .ok (.iconst 4, 1) := by decide +kernel
theorem dX5_init_62 : decode cX5_init 62 = .ok (.newarray .int, 2) := by decide +kernel
theorem dX5_init_64 : decode cX5_init 64 = .ok (.putfield 32, 3) := by decide +kernel
theorem dX5_init_67 : decode cX5_init 67 = .ok (.aload_n 0, 1) := by decide +kernel
theorem dX5_init_68 : decode cX5_init 68 = .ok (.bipush 20, 2) := by decide +kernel
theorem dX5_init_70 : decode cX5_init 70 = .ok (.newarray .int, 2) := by decide +kernel
theorem dX5_init_72 : decode cX5_init 72 = .ok (.putfield 35, 3) := by decide +kernel
theorem dX5_init_75 : decode cX5_init 75 = .ok (.aload_n 0, 1) := by decide +kernel
theorem dX5_init_76 : decode cX5_init 76 = .ok (.bipush 16, 2) := by decide +kernel
theorem dX5_init_78 : decode cX5_init 78 = .ok (.newarray .int, 2) := by decide +kernel
theorem dX5_init_80 : decode cX5_init 80 = .ok (.putfield 38, 3) := by decide +kernel
theorem dX5_init_83 : decode cX5_init 83 = .ok (.aload_n 0, 1) := by decide +kernel
theorem dX5_init_84 : decode cX5_init 84 = .ok (.bipush 6, 2) := by decide +kernel
theorem dX5_init_86 : decode cX5_init 86 = .ok (.newarray .boolean, 2) := by decide +kernel
theorem dX5_init_88 : decode cX5_init 88 = .ok (.putfield 41, 3) := by decide +kernel
theorem dX5_init_91 : decode cX5_init 91 = .ok (.aload_n 0, 1) := by decide +kernel
theorem dX5_init_92 : decode cX5_init 92 = .ok (.sipush 240, 3) := by decide +kernel
theorem dX5_init_95 : decode cX5_init 95 = .ok (.newarray .int, 2) := by decide +kernel
theorem dX5_init_97 : decode cX5_init 97 = .ok (.putfield 44, 3) := by decide +kernel
theorem dX5_init_100 : decode cX5_init 100 = .ok (.aload_n 0, 1) := by decide +kernel
theorem dX5_init_101 : decode cX5_init 101 = .ok (.bipush 40, 2) := by decide +kernel
theorem dX5_init_103 : decode cX5_init 103 = .ok (.newarray .int, 2) := by decide +kernel
theorem dX5_init_105 : decode cX5_init 105 = .ok (.putfield 47, 3) := by decide +kernel
theorem dX5_init_108 : decode cX5_init 108 = .ok (.aload_n 0, 1) := by decide +kernel
theorem dX5_init_109 : decode cX5_init 109 = .ok (.bipush 14, 2) := by decide +kernel
theorem dX5_init_111 : decode cX5_init 111 = .ok (.newarray .int, 2) := by decide +kernel
theorem dX5_init_113 : decode cX5_init 113 = .ok (.putfield 50, 3) := by decide +kernel
theorem dX5_init_116 : decode cX5_init 116 = .ok (.aload_n 0, 1) := by decide +kernel
theorem dX5_init_117 : decode cX5_init 117 = .ok (.bipush 14, 2) := by decide +kernel
theorem dX5_init_119 : decode cX5_init 119 = .ok (.newarray .int, 2) := by decide +kernel
theorem dX5_init_121 : decode cX5_init 121 = .ok (.putfield 53, 3) := by decide +kernel
theorem dX5_init_124 : decode cX5_init 124 = .ok (.iconst 0, 1) := by decide +kernel
theorem dX5_init_125 : decode cX5_init 125 = .ok (.istore_n 1, 1) := by decide +kernel
theorem dX5_init_126 : decode cX5_init 126 = .ok (.iload_n 1, 1) := by decide +kernel
theorem dX5_init_127 : decode cX5_init 127 = .ok (.iconst 4, 1) := by decide +kernel
theorem dX5_init_128 : decode cX5_init 128 = .ok (.if_icmp .ge 18, 3) := by decide +kernel
theorem dX5_init_131 : decode cX5_init 131 = .ok (.aload_n 0, 1) := by decide +kernel
theorem dX5_init_132 : decode cX5_init 132 = .ok (.getfield 32, 3) := by decide +kernel
theorem dX5_init_135 : decode cX5_init 135 = .ok (.iload_n 1, 1) := by decide +kernel
theorem dX5_init_136 : decode cX5_init 136 = .ok (.sipush 250, 3) := by decide +kernel
theorem dX5_init_139 : decode cX5_init 139 = .ok (.iastore, 1) := by decide +kernel
theorem dX5_init_140 : decode cX5_init 140 = .ok (.iinc 1 1, 3) := by decide +kernel
theorem dX5_init_143 : decode cX5_init 143 = .ok (.goto (-17), 3) := by decide +kernel
theorem dX5_init_146 : decode cX5_init 146 = .ok (.aload_n 0, 1) := by decide +kernel
theorem dX5_init_147 : decode cX5_init 147 = .ok (.bipush 10, 2) := by decide +kernel
theorem dX5_init_149 : decode cX5_init 149 = .ok (.invokevirtual 56, 3) := by decide +kernel
theorem dX5_init_152 : decode cX5_init 152 = .ok (.istore_n 1, 1) := by decide +kernel
theorem dX5_init_153 : decode cX5_init 153 = .ok (.return_, 1) := by decide +kernel
theorem dX5_in_0 : decode cX5_in 0 = .ok (.iload_n 0, 1) := by decide +kernel
theorem dX5_in_1 : decode cX5_in 1 = .ok (.iload_n 1, 1) := by decide +kernel
theorem dX5_in_2 : decode cX5_in 2 = .ok (.if_icmp .lt 12, 3) := by decide +kernel
theorem dX5_in_5 : decode cX5_in 5 = .ok (.iload_n 0, 1) := by decide +kernel
theorem dX5_in_6 : decode cX5_in 6 = .ok (.iload_n 2, 1) := by decide +kernel
theorem dX5_in_7 : decode cX5_in 7 = .ok (.if_icmp .gt 7, 3) := by decide +kernel
theorem dX5_in_10 : decode cX5_in 10 = .ok (.iconst 1, 1) := by decide +kernel
theorem dX5_in_11 : decode cX5_in 11 = .ok (.goto 4, 3) := by decide +kernel
theorem dX5_in_14 : decode cX5_in 14 = .ok (.iconst 0, 1) := by decide +kernel
theorem dX5_in_15 : decode cX5_in 15 = .ok (.ireturn, 1) := by decide +kernel
theorem dX5_meets_0 : decode cX5_meets 0 = .ok (.aload_n 0, 1) := by decide +kernel
theorem dX5_meets_1 : decode cX5_meets 1 = .ok (.iload_n 1, 1) := by decide +kernel
theorem dX5_meets_2 : decode cX5_meets 2 = .ok (.putfield 60, 3) := by decide +kernel
theorem dX5_meets_5 : decode cX5_meets 5 = .ok (.aload_n 0, 1) := by decide +kernel
theorem dX5_meets_6 : decode cX5_meets 6 = .ok (.getfield 7, 3) := by decide +kernel
theorem dX5_meets_9 : decode cX5_meets 9 = .ok (.iload_n 1, 1) := by decide +kernel
theorem dX5_meets_10 : decode cX5_meets 10 = .ok (.dup2, 1) := by decide +kernel
theorem dX5_meets_11 : decode cX5_meets 11 = .ok (.iaload, 1) := by decide +kernel
theorem dX5_meets_12 : decode cX5_meets 12 = .ok (.iconst 1, 1) := by decide +kernel
theorem dX5_meets_13 : decode cX5_meets 13 = .ok (.iadd, 1) := by decide +kernel
theorem dX5_meets_14 : decode cX5_meets 14 = .ok (.iastore, 1) := by decide +kernel
theorem dX5_meets_15 : decode cX5_meets 15 = .ok (.bipush (-3), 2) := by decide +kernel
theorem dX5_meets_17 : decode cX5_meets 17 = .ok (.ireturn, 1) := by decide +kernel
theorem dX5_tell_0 : decode cX5_tell 0 = .ok (.aload_n 0, 1) := by decide +kernel
theorem dX5_tell_1 : decode cX5_tell 1 = .ok (.lload_n 1, 1) := by decide +kernel
theorem dX5_tell_2 : decode cX5_tell 2 = .ok (.putfield 64, 3) := by decide +kernel
theorem dX5_tell_5 : decode cX5_tell 5 = .ok (.iload_n 3, 1) := by decide +kernel
theorem dX5_tell_6 : decode cX5_tell 6 = .ok (.ireturn, 1) := by decide +kernel
theorem dX5_line_0 : decode cX5_line 0 = .ok (.iload_n 1, 1) := by decide +kernel
theorem dX5_line_1 : decode cX5_line 1 = .ok (.iconst 3, 1) := by decide +kernel
theorem dX5_line_2 : decode cX5_line 2 = .ok (.bipush 40, 2) := by decide +kernel
theorem dX5_line_4 : decode cX5_line 4 = .ok (.invokestatic 68, 3) := by decide +kernel
theorem dX5_line_7 : decode cX5_line 7 = .ok (.ifCond .ne 5, 3) := by decide +kernel
theorem dX5_line_10 : decode cX5_line 10 = .ok (.iconst (-1), 1) := by decide +kernel
theorem dX5_line_11 : decode cX5_line 11 = .ok (.ireturn, 1) := by decide +kernel
theorem dX5_line_12 : decode cX5_line 12 = .ok (.aload_n 0, 1) := by decide +kernel
theorem dX5_line_13 : decode cX5_line 13 = .ok (.iload_n 1, 1) := by decide +kernel
theorem dX5_line_14 : decode cX5_line 14 = .ok (.putfield 72, 3) := by decide +kernel
theorem dX5_line_17 : decode cX5_line 17 = .ok (.iconst 0, 1) := by decide +kernel
theorem dX5_line_18 : decode cX5_line 18 = .ok (.istore_n 2, 1) := by decide +kernel
theorem dX5_line_19 : decode cX5_line 19 = .ok (.iload_n 2, 1) := by decide +kernel
theorem dX5_line_20 : decode cX5_line 20 = .ok (.bipush 40, 2) := by decide +kernel
theorem dX5_line_22 : decode cX5_line 22 = .ok (.if_icmp .ge 51, 3) := by decide +kernel
theorem dX5_line_25 : decode cX5_line 25 = .ok (.aload_n 0, 1) := by decide +kernel
theorem dX5_line_26 : decode cX5_line 26 = .ok (.getfield 13, 3) := by decide +kernel
theorem dX5_line_29 : decode cX5_line 29 = .ok (.iload_n 2, 1) := by decide +kernel
theorem dX5_line_30 : decode cX5_line 30 = .ok (.iconst 0, 1) := by decide +kernel
theorem dX5_line_31 : decode cX5_line 31 = .ok (.iastore, 1) := by decide +kernel
theorem dX5_line_32 : decode cX5_line 32 = .ok (.aload_n 0, 1) := by decide +kernel
theorem dX5_line_33 : decode cX5_line 33 = .ok (.getfield 16, 3) := by decide +kernel
theorem dX5_line_36 : decode cX5_line 36 = .ok (.iload_n 2, 1) := by decide +kernel
theorem dX5_line_37 : decode cX5_line 37 = .ok (.iconst 0, 1) := by decide +kernel
theorem dX5_line_38 : decode cX5_line 38 = .ok (.iastore, 1) := by decide +kernel
theorem dX5_line_39 : decode cX5_line 39 = .ok (.aload_n 0, 1) := by decide +kernel
theorem dX5_line_40 : decode cX5_line 40 = .ok (.getfield 19, 3) := by decide +kernel
theorem dX5_line_43 : decode cX5_line 43 = .ok (.iload_n 2, 1) := by decide +kernel
theorem dX5_line_44 : decode cX5_line 44 = .ok (.iconst 5, 1) := by decide +kernel
theorem dX5_line_45 : decode cX5_line 45 = .ok (.iastore, 1) := by decide +kernel
theorem dX5_line_46 : decode cX5_line 46 = .ok (.aload_n 0, 1) := by decide +kernel
theorem dX5_line_47 : decode cX5_line 47 = .ok (.getfield 22, 3) := by decide +kernel
theorem dX5_line_50 : decode cX5_line 50 = .ok (.iload_n 2, 1) := by decide +kernel
theorem dX5_line_51 : decode cX5_line 51 = .ok (.iconst 0, 1) := by decide +kernel
theorem dX5_line_52 : decode cX5_line 52 = .ok (.iastore, 1) := by decide +kernel
theorem dX5_line_53 : decode cX5_line 53 = .ok (.aload_n 0, 1) := by decide +kernel
theorem dX5_line_54 : decode cX5_line 54 = .ok (.getfield 25, 3) := by decide +kernel
theorem dX5_line_57 : decode cX5_line 57 = .ok (.iload_n 2, 1) := by decide +kernel
theorem dX5_line_58 : decode cX5_line 58 = .ok (.iconst 0, 1) := by decide +kernel
theorem dX5_line_59 : decode cX5_line 59 = .ok (.iastore, 1) := by decide +kernel
theorem dX5_line_60 : decode cX5_line 60 = .ok (.aload_n 0, 1) := by decide +kernel
theorem dX5_line_61 : decode cX5_line 61 = .ok (.getfield 28, 3) := by decide +kernel
theorem dX5_line_64 : decode cX5_line 64 = .ok (.iload_n 2, 1) := by decide +kernel
theorem dX5_line_65 : decode cX5_line 65 = .ok (.iconst 0, 1) := by decide +kernel
theorem dX5_line_66 : decode cX5_line 66 = .ok (.bastore, 1) := by decide +kernel
theorem dX5_line_67 : decode cX5_line 67 = .ok (.iinc 2 1, 3) := by decide +kernel
theorem dX5_line_70 : decode cX5_line 70 = .ok (.goto (-51), 3) := by decide +kernel
theorem dX5_line_73 : decode cX5_line 73 = .ok (.iload_n 1, 1) := by decide +kernel
theorem dX5_line_74 : decode cX5_line 74 = .ok (.ireturn, 1) := by decide +kernel
theorem dX5_isSleeper_0 : decode cX5_isSleeper 0 = .ok (.iload_n 1, 1) := by decide +kernel
theorem dX5_isSleeper_1 : decode cX5_isSleeper 1 = .ok (.iconst 0, 1) := by decide +kernel
theorem dX5_isSleeper_2 : decode cX5_isSleeper 2 = .ok (.aload_n 0, 1) := by decide +kernel
theorem dX5_isSleeper_3 : decode cX5_isSleeper 3 = .ok (.getfield 72, 3) := by decide +kernel
theorem dX5_isSleeper_6 : decode cX5_isSleeper 6 = .ok (.iconst 1, 1) := by decide +kernel
theorem dX5_isSleeper_7 : decode cX5_isSleeper 7 = .ok (.isub, 1) := by decide +kernel
theorem dX5_isSleeper_8 : decode cX5_isSleeper 8 = .ok (.invokestatic 68, 3) := by decide +kernel
theorem dX5_isSleeper_11 : decode cX5_isSleeper 11 = .ok (.ireturn, 1) := by decide +kernel
theorem dX5_looked_0 : decode cX5_looked 0 = .ok (.aload_n 0, 1) := by decide +kernel
theorem dX5_looked_1 : decode cX5_looked 1 = .ok (.iload_n 1, 1) := by decide +kernel
theorem dX5_looked_2 : decode cX5_looked 2 = .ok (.invokevirtual 75, 3) := by decide +kernel
theorem dX5_looked_5 : decode cX5_looked 5 = .ok (.ifCond .ne 7, 3) := by decide +kernel
theorem dX5_looked_8 : decode cX5_looked 8 = .ok (.iconst (-1), 1) := by decide +kernel
theorem dX5_looked_9 : decode cX5_looked 9 = .ok (.goto 21, 3) := by decide +kernel
theorem dX5_looked_12 : decode cX5_looked 12 = .ok (.aload_n 0, 1) := by decide +kernel
theorem dX5_looked_13 : decode cX5_looked 13 = .ok (.getfield 28, 3) := by decide +kernel
theorem dX5_looked_16 : decode cX5_looked 16 = .ok (.iload_n 1, 1) := by decide +kernel
theorem dX5_looked_17 : decode cX5_looked 17 = .ok (.baload, 1) := by decide +kernel
theorem dX5_looked_18 : decode cX5_looked 18 = .ok (.ifCond .eq 11, 3) := by decide +kernel
theorem dX5_looked_21 : decode cX5_looked 21 = .ok (.aload_n 0, 1) := by decide +kernel
theorem dX5_looked_22 : decode cX5_looked 22 = .ok (.iconst 1, 1) := by decide +kernel
theorem dX5_looked_23 : decode cX5_looked 23 = .ok (.invokevirtual 79, 3) := by decide +kernel
theorem dX5_looked_26 : decode cX5_looked 26 = .ok (.goto 4, 3) := by decide +kernel
theorem dX5_looked_29 : decode cX5_looked 29 = .ok (.iconst 0, 1) := by decide +kernel
theorem dX5_looked_30 : decode cX5_looked 30 = .ok (.ireturn, 1) := by decide +kernel
theorem dX5_sleeper_0 : decode cX5_sleeper 0 = .ok (.aload_n 0, 1) := by decide +kernel
theorem dX5_sleeper_1 : decode cX5_sleeper 1 = .ok (.iload_n 1, 1) := by decide +kernel
theorem dX5_sleeper_2 : decode cX5_sleeper 2 = .ok (.invokevirtual 75, 3) := by decide +kernel
theorem dX5_sleeper_5 : decode cX5_sleeper 5 = .ok (.ifCond .eq 12, 3) := by decide +kernel
theorem dX5_sleeper_8 : decode cX5_sleeper 8 = .ok (.iload_n 2, 1) := by decide +kernel
theorem dX5_sleeper_9 : decode cX5_sleeper 9 = .ok (.iconst 0, 1) := by decide +kernel
theorem dX5_sleeper_10 : decode cX5_sleeper 10 = .ok (.iconst 3, 1) := by decide +kernel
theorem dX5_sleeper_11 : decode cX5_sleeper 11 = .ok (.invokestatic 68, 3) := by decide +kernel
theorem dX5_sleeper_14 : decode cX5_sleeper 14 = .ok (.ifCond .ne 5, 3) := by decide +kernel
theorem dX5_sleeper_17 : decode cX5_sleeper 17 = .ok (.iconst (-1), 1) := by decide +kernel
theorem dX5_sleeper_18 : decode cX5_sleeper 18 = .ok (.ireturn, 1) := by decide +kernel
theorem dX5_sleeper_19 : decode cX5_sleeper 19 = .ok (.aload_n 0, 1) := by decide +kernel
theorem dX5_sleeper_20 : decode cX5_sleeper 20 = .ok (.getfield 13, 3) := by decide +kernel
theorem dX5_sleeper_23 : decode cX5_sleeper 23 = .ok (.iload_n 1, 1) := by decide +kernel
theorem dX5_sleeper_24 : decode cX5_sleeper 24 = .ok (.iaload, 1) := by decide +kernel
theorem dX5_sleeper_25 : decode cX5_sleeper 25 = .ok (.istore_n 3, 1) := by decide +kernel
theorem dX5_sleeper_26 : decode cX5_sleeper 26 = .ok (.aload_n 0, 1) := by decide +kernel
theorem dX5_sleeper_27 : decode cX5_sleeper 27 = .ok (.getfield 13, 3) := by decide +kernel
theorem dX5_sleeper_30 : decode cX5_sleeper 30 = .ok (.iload_n 1, 1) := by decide +kernel
theorem dX5_sleeper_31 : decode cX5_sleeper 31 = .ok (.iload_n 2, 1) := by decide +kernel
theorem dX5_sleeper_32 : decode cX5_sleeper 32 = .ok (.iastore, 1) := by decide +kernel
theorem dX5_sleeper_33 : decode cX5_sleeper 33 = .ok (.aload_n 0, 1) := by decide +kernel
theorem dX5_sleeper_34 : decode cX5_sleeper 34 = .ok (.getfield 28, 3) := by decide +kernel
theorem dX5_sleeper_37 : decode cX5_sleeper 37 = .ok (.iload_n 1, 1) := by decide +kernel
theorem dX5_sleeper_38 : decode cX5_sleeper 38 = .ok (.iconst 0, 1) := by decide +kernel
theorem dX5_sleeper_39 : decode cX5_sleeper 39 = .ok (.bastore, 1) := by decide +kernel
theorem dX5_sleeper_40 : decode cX5_sleeper 40 = .ok (.iload_n 3, 1) := by decide +kernel
theorem dX5_sleeper_41 : decode cX5_sleeper 41 = .ok (.ireturn, 1) := by decide +kernel
theorem dX5_lose_0 : decode cX5_lose 0 = .ok (.aload_n 0, 1) := by decide +kernel
theorem dX5_lose_1 : decode cX5_lose 1 = .ok (.iload_n 1, 1) := by decide +kernel
theorem dX5_lose_2 : decode cX5_lose 2 = .ok (.invokevirtual 75, 3) := by decide +kernel
theorem dX5_lose_5 : decode cX5_lose 5 = .ok (.ifCond .ne 5, 3) := by decide +kernel
theorem dX5_lose_8 : decode cX5_lose 8 = .ok (.iconst (-1), 1) := by decide +kernel
theorem dX5_lose_9 : decode cX5_lose 9 = .ok (.ireturn, 1) := by decide +kernel
theorem dX5_lose_10 : decode cX5_lose 10 = .ok (.aload_n 0, 1) := by decide +kernel
theorem dX5_lose_11 : decode cX5_lose 11 = .ok (.getfield 28, 3) := by decide +kernel
theorem dX5_lose_14 : decode cX5_lose 14 = .ok (.iload_n 1, 1) := by decide +kernel
theorem dX5_lose_15 : decode cX5_lose 15 = .ok (.baload, 1) := by decide +kernel
theorem dX5_lose_16 : decode cX5_lose 16 = .ok (.ifCond .eq 7, 3) := by decide +kernel
theorem dX5_lose_19 : decode cX5_lose 19 = .ok (.iconst 1, 1) := by decide +kernel
theorem dX5_lose_20 : decode cX5_lose 20 = .ok (.goto 4, 3) := by decide +kernel
theorem dX5_lose_23 : decode cX5_lose 23 = .ok (.iconst 0, 1) := by decide +kernel
theorem dX5_lose_24 : decode cX5_lose 24 = .ok (.istore_n 3, 1) := by decide +kernel
theorem dX5_lose_25 : decode cX5_lose 25 = .ok (.aload_n 0, 1) := by decide +kernel
theorem dX5_lose_26 : decode cX5_lose 26 = .ok (.getfield 28, 3) := by decide +kernel
theorem dX5_lose_29 : decode cX5_lose 29 = .ok (.iload_n 1, 1) := by decide +kernel
theorem dX5_lose_30 : decode cX5_lose 30 = .ok (.iload_n 2, 1) := by decide +kernel
theorem dX5_lose_31 : decode cX5_lose 31 = .ok (.bastore, 1) := by decide +kernel
theorem dX5_lose_32 : decode cX5_lose 32 = .ok (.iload_n 3, 1) := by decide +kernel
theorem dX5_lose_33 : decode cX5_lose 33 = .ok (.ireturn, 1) := by decide +kernel
theorem dX5_bed_0 : decode cX5_bed 0 = .ok (.iload_n 2, 1) := by decide +kernel
theorem dX5_bed_1 : decode cX5_bed 1 = .ok (.sipush (-10000), 3) := by decide +kernel
theorem dX5_bed_4 : decode cX5_bed 4 = .ok (.sipush 10000, 3) := by decide +kernel
theorem dX5_bed_7 : decode cX5_bed 7 = .ok (.invokestatic 68, 3) := by decide +kernel
theorem dX5_bed_10 : decode cX5_bed 10 = .ok (.ifCond .ne 5, 3) := by decide +kernel
theorem dX5_bed_13 : decode cX5_bed 13 = .ok (.iconst (-1), 1) := by decide +kernel
theorem dX5_bed_14 : decode cX5_bed 14 = .ok (.ireturn, 1) := by decide +kernel
theorem dX5_bed_15 : decode cX5_bed 15 = .ok (.aload_n 0, 1) := by decide +kernel
theorem dX5_bed_16 : decode cX5_bed 16 = .ok (.iload_n 1, 1) := by decide +kernel
theorem dX5_bed_17 : decode cX5_bed 17 = .ok (.invokevirtual 82, 3) := by decide +kernel
theorem dX5_bed_20 : decode cX5_bed 20 = .ok (.istore_n 3, 1) := by decide +kernel
theorem dX5_bed_21 : decode cX5_bed 21 = .ok (.iload_n 3, 1) := by decide +kernel
theorem dX5_bed_22 : decode cX5_bed 22 = .ok (.ifCond .ge 5, 3) := by decide +kernel
theorem dX5_bed_25 : decode cX5_bed 25 = .ok (.iload_n 3, 1) := by decide +kernel
theorem dX5_bed_26 : decode cX5_bed 26 = .ok (.ireturn, 1) := by decide +kernel
theorem dX5_bed_27 : decode cX5_bed 27 = .ok (.aload_n 0, 1) := by decide +kernel
theorem dX5_bed_28 : decode cX5_bed 28 = .ok (.aload_n 0, 1) := by decide +kernel
theorem dX5_bed_29 : decode cX5_bed 29 = .ok (.getfield 16, 3) := by decide +kernel
theorem dX5_bed_32 : decode cX5_bed 32 = .ok (.iload_n 1, 1) := by decide +kernel
theorem dX5_bed_33 : decode cX5_bed 33 = .ok (.iaload, 1) := by decide +kernel
theorem dX5_bed_34 : decode cX5_bed 34 = .ok (.i2l, 1) := by decide +kernel
theorem dX5_bed_35 : decode cX5_bed 35 = .ok (.putfield 64, 3) := by decide +kernel
theorem dX5_bed_38 : decode cX5_bed 38 = .ok (.aload_n 0, 1) := by decide +kernel
theorem dX5_bed_39 : decode cX5_bed 39 = .ok (.getfield 16, 3) := by decide +kernel
theorem dX5_bed_42 : decode cX5_bed 42 = .ok (.iload_n 1, 1) := by decide +kernel
theorem dX5_bed_43 : decode cX5_bed 43 = .ok (.iload_n 2, 1) := by decide +kernel
theorem dX5_bed_44 : decode cX5_bed 44 = .ok (.iastore, 1) := by decide +kernel
theorem dX5_bed_45 : decode cX5_bed 45 = .ok (.iconst 1, 1) := by decide +kernel
theorem dX5_bed_46 : decode cX5_bed 46 = .ok (.ireturn, 1) := by decide +kernel
theorem dX5_stones_0 : decode cX5_stones 0 = .ok (.iload_n 2, 1) := by decide +kernel
theorem dX5_stones_1 : decode cX5_stones 1 = .ok (.iconst 1, 1) := by decide +kernel
