theorem dX5_pull_14 : decode cX5_pull 14 = .ok (.invokestatic 68, 3) := by decide +kernel
theorem dX5_pull_17 : decode cX5_pull 17 = .ok (.ifCond .ne 5, 3) := by decide +kernel
theorem dX5_pull_20 : decode cX5_pull 20 = .ok (.iconst (-1), 1) := by decide +kernel
theorem dX5_pull_21 : decode cX5_pull 21 = .ok (.ireturn, 1) := by decide +kernel
theorem dX5_pull_22 : decode cX5_pull 22 = .ok (.aload_n 0, 1) := by decide +kernel
theorem dX5_pull_23 : decode cX5_pull 23 = .ok (.getfield 32, 3) := by decide +kernel
theorem dX5_pull_26 : decode cX5_pull 26 = .ok (.iload_n 1, 1) := by decide +kernel
theorem dX5_pull_27 : decode cX5_pull 27 = .ok (.dup2, 1) := by decide +kernel
theorem dX5_pull_28 : decode cX5_pull 28 = .ok (.iaload, 1) := by decide +kernel
theorem dX5_pull_29 : decode cX5_pull 29 = .ok (.iload_n 2, 1) := by decide +kernel
theorem dX5_pull_30 : decode cX5_pull 30 = .ok (.iadd, 1) := by decide +kernel
theorem dX5_pull_31 : decode cX5_pull 31 = .ok (.iastore, 1) := by decide +kernel
theorem dX5_pull_32 : decode cX5_pull 32 = .ok (.iconst 1, 1) := by decide +kernel
theorem dX5_pull_33 : decode cX5_pull 33 = .ok (.ireturn, 1) := by decide +kernel
theorem dX5_cut_0 : decode cX5_cut 0 = .ok (.iload_n 1, 1) := by decide +kernel
theorem dX5_cut_1 : decode cX5_cut 1 = .ok (.invokestatic 130, 3) := by decide +kernel
theorem dX5_cut_4 : decode cX5_cut 4 = .ok (.ifCond .eq 10, 3) := by decide +kernel
theorem dX5_cut_7 : decode cX5_cut 7 = .ok (.iload_n 2, 1) := by decide +kernel
theorem dX5_cut_8 : decode cX5_cut 8 = .ok (.invokestatic 133, 3) := by decide +kernel
theorem dX5_cut_11 : decode cX5_cut 11 = .ok (.ifCond .ne 5, 3) := by decide +kernel
theorem dX5_cut_14 : decode cX5_cut 14 = .ok (.iconst (-1), 1) := by decide +kernel
theorem dX5_cut_15 : decode cX5_cut 15 = .ok (.ireturn, 1) := by decide +kernel
theorem dX5_cut_16 : decode cX5_cut 16 = .ok (.aload_n 0, 1) := by decide +kernel
theorem dX5_cut_17 : decode cX5_cut 17 = .ok (.aload_n 0, 1) := by decide +kernel
theorem dX5_cut_18 : decode cX5_cut 18 = .ok (.getfield 32, 3) := by decide +kernel
theorem dX5_cut_21 : decode cX5_cut 21 = .ok (.iload_n 1, 1) := by decide +kernel
theorem dX5_cut_22 : decode cX5_cut 22 = .ok (.iaload, 1) := by decide +kernel
theorem dX5_cut_23 : decode cX5_cut 23 = .ok (.i2l, 1) := by decide +kernel
theorem dX5_cut_24 : decode cX5_cut 24 = .ok (.putfield 64, 3) := by decide +kernel
theorem dX5_cut_27 : decode cX5_cut 27 = .ok (.aload_n 0, 1) := by decide +kernel
theorem dX5_cut_28 : decode cX5_cut 28 = .ok (.getfield 32, 3) := by decide +kernel
theorem dX5_cut_31 : decode cX5_cut 31 = .ok (.iload_n 1, 1) := by decide +kernel
theorem dX5_cut_32 : decode cX5_cut 32 = .ok (.iload_n 2, 1) := by decide +kernel
theorem dX5_cut_33 : decode cX5_cut 33 = .ok (.iastore, 1) := by decide +kernel
theorem dX5_cut_34 : decode cX5_cut 34 = .ok (.iconst 1, 1) := by decide +kernel
theorem dX5_cut_35 : decode cX5_cut 35 = .ok (.ireturn, 1) := by decide +kernel
theorem dX5_pressOf_0 : decode cX5_pressOf 0 = .ok (.ldc2_w 136, 3) := by decide +kernel
theorem dX5_pressOf_3 : decode cX5_pressOf 3 = .ok (.iload_n 2, 1) := by decide +kernel
theorem dX5_pressOf_4 : decode cX5_pressOf 4 = .ok (.aload_n 0, 1) := by decide +kernel
theorem dX5_pressOf_5 : decode cX5_pressOf 5 = .ok (.getfield 32, 3) := by decide +kernel
theorem dX5_pressOf_8 : decode cX5_pressOf 8 = .ok (.iload_n 1, 1) := by decide +kernel
theorem dX5_pressOf_9 : decode cX5_pressOf 9 = .ok (.iaload, 1) := by decide +kernel
theorem dX5_pressOf_10 : decode cX5_pressOf 10 = .ok (.isub, 1) := by decide +kernel
theorem dX5_pressOf_11 : decode cX5_pressOf 11 = .ok (.i2l, 1) := by decide +kernel
theorem dX5_pressOf_12 : decode cX5_pressOf 12 = .ok (.lmul, 1) := by decide +kernel
theorem dX5_pressOf_13 : decode cX5_pressOf 13 = .ok (.lreturn, 1) := by decide +kernel
theorem dX5_press_0 : decode cX5_press 0 = .ok (.iload_n 1, 1) := by decide +kernel
theorem dX5_press_1 : decode cX5_press 1 = .ok (.invokestatic 130, 3) := by decide +kernel
theorem dX5_press_4 : decode cX5_press 4 = .ok (.ifCond .eq 24, 3) := by decide +kernel
theorem dX5_press_7 : decode cX5_press 7 = .ok (.iload_n 2, 1) := by decide +kernel
theorem dX5_press_8 : decode cX5_press 8 = .ok (.invokestatic 133, 3) := by decide +kernel
theorem dX5_press_11 : decode cX5_press 11 = .ok (.ifCond .eq 17, 3) := by decide +kernel
theorem dX5_press_14 : decode cX5_press 14 = .ok (.aload_n 0, 1) := by decide +kernel
theorem dX5_press_15 : decode cX5_press 15 = .ok (.aload_n 0, 1) := by decide +kernel
theorem dX5_press_16 : decode cX5_press 16 = .ok (.iload_n 1, 1) := by decide +kernel
theorem dX5_press_17 : decode cX5_press 17 = .ok (.iload_n 2, 1) := by decide +kernel
theorem dX5_press_18 : decode cX5_press 18 = .ok (.invokevirtual 138, 3) := by decide +kernel
theorem dX5_press_21 : decode cX5_press 21 = .ok (.iconst 1, 1) := by decide +kernel
theorem dX5_press_22 : decode cX5_press 22 = .ok (.invokevirtual 96, 3) := by decide +kernel
theorem dX5_press_25 : decode cX5_press 25 = .ok (.goto 4, 3) := by decide +kernel
theorem dX5_press_28 : decode cX5_press 28 = .ok (.iconst (-1), 1) := by decide +kernel
theorem dX5_press_29 : decode cX5_press 29 = .ok (.ireturn, 1) := by decide +kernel
theorem dX5_margin_0 : decode cX5_margin 0 = .ok (.iload_n 1, 1) := by decide +kernel
theorem dX5_margin_1 : decode cX5_margin 1 = .ok (.invokestatic 130, 3) := by decide +kernel
theorem dX5_margin_4 : decode cX5_margin 4 = .ok (.ifCond .eq 10, 3) := by decide +kernel
theorem dX5_margin_7 : decode cX5_margin 7 = .ok (.iload_n 2, 1) := by decide +kernel
theorem dX5_margin_8 : decode cX5_margin 8 = .ok (.invokestatic 133, 3) := by decide +kernel
theorem dX5_margin_11 : decode cX5_margin 11 = .ok (.ifCond .ne 5, 3) := by decide +kernel
theorem dX5_margin_14 : decode cX5_margin 14 = .ok (.iconst (-1), 1) := by decide +kernel
theorem dX5_margin_15 : decode cX5_margin 15 = .ok (.ireturn, 1) := by decide +kernel
theorem dX5_margin_16 : decode cX5_margin 16 = .ok (.aload_n 0, 1) := by decide +kernel
theorem dX5_margin_17 : decode cX5_margin 17 = .ok (.getfield 72, 3) := by decide +kernel
theorem dX5_margin_20 : decode cX5_margin 20 = .ok (.iconst 4, 1) := by decide +kernel
theorem dX5_margin_21 : decode cX5_margin 21 = .ok (.idiv, 1) := by decide +kernel
theorem dX5_margin_22 : decode cX5_margin 22 = .ok (.istore_n 3, 1) := by decide +kernel
theorem dX5_margin_23 : decode cX5_margin 23 = .ok (.iload_n 1, 1) := by decide +kernel
theorem dX5_margin_24 : decode cX5_margin 24 = .ok (.iconst 3, 1) := by decide +kernel
theorem dX5_margin_25 : decode cX5_margin 25 = .ok (.if_icmp .ne 10, 3) := by decide +kernel
theorem dX5_margin_28 : decode cX5_margin 28 = .ok (.aload_n 0, 1) := by decide +kernel
theorem dX5_margin_29 : decode cX5_margin 29 = .ok (.getfield 72, 3) := by decide +kernel
theorem dX5_margin_32 : decode cX5_margin 32 = .ok (.goto 8, 3) := by decide +kernel
theorem dX5_margin_35 : decode cX5_margin 35 = .ok (.iload_n 3, 1) := by decide +kernel
theorem dX5_margin_36 : decode cX5_margin 36 = .ok (.iload_n 1, 1) := by decide +kernel
theorem dX5_margin_37 : decode cX5_margin 37 = .ok (.iconst 1, 1) := by decide +kernel
theorem dX5_margin_38 : decode cX5_margin 38 = .ok (.iadd, 1) := by decide +kernel
theorem dX5_margin_39 : decode cX5_margin 39 = .ok (.imul, 1) := by decide +kernel
theorem dX5_margin_40 : decode cX5_margin 40 = .ok (.istore 4, 2) := by decide +kernel
theorem dX5_margin_42 : decode cX5_margin 42 = .ok (.iconst 0, 1) := by decide +kernel
theorem dX5_margin_43 : decode cX5_margin 43 = .ok (.istore 5, 2) := by decide +kernel
theorem dX5_margin_45 : decode cX5_margin 45 = .ok (.iconst 0, 1) := by decide +kernel
theorem dX5_margin_46 : decode cX5_margin 46 = .ok (.istore 6, 2) := by decide +kernel
theorem dX5_margin_48 : decode cX5_margin 48 = .ok (.lconst 0, 1) := by decide +kernel
theorem dX5_margin_49 : decode cX5_margin 49 = .ok (.lstore 7, 2) := by decide +kernel
theorem dX5_margin_51 : decode cX5_margin 51 = .ok (.iload_n 3, 1) := by decide +kernel
theorem dX5_margin_52 : decode cX5_margin 52 = .ok (.iload_n 1, 1) := by decide +kernel
theorem dX5_margin_53 : decode cX5_margin 53 = .ok (.imul, 1) := by decide +kernel
theorem dX5_margin_54 : decode cX5_margin 54 = .ok (.istore 9, 2) := by decide +kernel
theorem dX5_margin_56 : decode cX5_margin 56 = .ok (.iload 9, 2) := by decide +kernel
theorem dX5_margin_58 : decode cX5_margin 58 = .ok (.iload 4, 2) := by decide +kernel
theorem dX5_margin_60 : decode cX5_margin 60 = .ok (.if_icmp .ge 99, 3) := by decide +kernel
theorem dX5_margin_63 : decode cX5_margin 63 = .ok (.iload 5, 2) := by decide +kernel
theorem dX5_margin_65 : decode cX5_margin 65 = .ok (.aload_n 0, 1) := by decide +kernel
theorem dX5_margin_66 : decode cX5_margin 66 = .ok (.getfield 28, 3) := by decide +kernel
theorem dX5_margin_69 : decode cX5_margin 69 = .ok (.iload 9, 2) := by decide +kernel
theorem dX5_margin_71 : decode cX5_margin 71 = .ok (.baload, 1) := by decide +kernel
theorem dX5_margin_72 : decode cX5_margin 72 = .ok (.ifCond .eq 7, 3) := by decide +kernel
theorem dX5_margin_75 : decode cX5_margin 75 = .ok (.iconst 0, 1) := by decide +kernel
theorem dX5_margin_76 : decode cX5_margin 76 = .ok (.goto 4, 3) := by decide +kernel
theorem dX5_margin_79 : decode cX5_margin 79 = .ok (.iconst 1, 1) := by decide +kernel
theorem dX5_margin_80 : decode cX5_margin 80 = .ok (.iadd, 1) := by decide +kernel
theorem dX5_margin_81 : decode cX5_margin 81 = .ok (.istore 5, 2) := by decide +kernel
theorem dX5_margin_83 : decode cX5_margin 83 = .ok (.iload 6, 2) := by decide +kernel
theorem dX5_margin_85 : decode cX5_margin 85 = .ok (.aload_n 0, 1) := by decide +kernel
theorem dX5_margin_86 : decode cX5_margin 86 = .ok (.getfield 28, 3) := by decide +kernel
theorem dX5_margin_89 : decode cX5_margin 89 = .ok (.iload 9, 2) := by decide +kernel
theorem dX5_margin_91 : decode cX5_margin 91 = .ok (.baload, 1) := by decide +kernel
theorem dX5_margin_92 : decode cX5_margin 92 = .ok (.ifCond .eq 7, 3) := by decide +kernel
theorem dX5_margin_95 : decode cX5_margin 95 = .ok (.iconst 0, 1) := by decide +kernel
theorem dX5_margin_96 : decode cX5_margin 96 = .ok (.goto 10, 3) := by decide +kernel
theorem dX5_margin_99 : decode cX5_margin 99 = .ok (.aload_n 0, 1) := by decide +kernel
theorem dX5_margin_100 : decode cX5_margin 100 = .ok (.getfield 19, 3) := by decide +kernel
theorem dX5_margin_103 : decode cX5_margin 103 = .ok (.iload 9, 2) := by decide +kernel
theorem dX5_margin_105 : decode cX5_margin 105 = .ok (.iaload, 1) := by decide +kernel
theorem dX5_margin_106 : decode cX5_margin 106 = .ok (.iadd, 1) := by decide +kernel
theorem dX5_margin_107 : decode cX5_margin 107 = .ok (.istore 6, 2) := by decide +kernel
theorem dX5_margin_109 : decode cX5_margin 109 = .ok (.aload_n 0, 1) := by decide +kernel
theorem dX5_margin_110 : decode cX5_margin 110 = .ok (.iload 9, 2) := by decide +kernel
theorem dX5_margin_112 : decode cX5_margin 112 = .ok (.iconst 1, 1) := by decide +kernel
theorem dX5_margin_113 : decode cX5_margin 113 = .ok (.invokevirtual 114, 3) := by decide +kernel
theorem dX5_margin_116 : decode cX5_margin 116 = .ok (.i2l, 1) := by decide +kernel
theorem dX5_margin_117 : decode cX5_margin 117 = .ok (.lstore 10, 2) := by decide +kernel
theorem dX5_margin_119 : decode cX5_margin 119 = .ok (.lload 10, 2) := by decide +kernel
theorem dX5_margin_121 : decode cX5_margin 121 = .ok (.lconst 0, 1) := by decide +kernel
theorem dX5_margin_122 : decode cX5_margin 122 = .ok (.lcmp, 1) := by decide +kernel
theorem dX5_margin_123 : decode cX5_margin 123 = .ok (.ifCond .ge 9, 3) := by decide +kernel
theorem dX5_margin_126 : decode cX5_margin 126 = .ok (.lload 10, 2) := by decide +kernel
theorem dX5_margin_128 : decode cX5_margin 128 = .ok (.lneg, 1) := by decide +kernel
theorem dX5_margin_129 : decode cX5_margin 129 = .ok (.goto 5, 3) := by decide +kernel
theorem dX5_margin_132 : decode cX5_margin 132 = .ok (.lload 10, 2) := by decide +kernel
theorem dX5_margin_134 : decode cX5_margin 134 = .ok (.lstore 10, 2) := by decide +kernel
theorem dX5_margin_136 : decode cX5_margin 136 = .ok (.lload 10, 2) := by decide +kernel
theorem dX5_margin_138 : decode cX5_margin 138 = .ok (.lload 7, 2) := by decide +kernel
theorem dX5_margin_140 : decode cX5_margin 140 = .ok (.lcmp, 1) := by decide +kernel
theorem dX5_margin_141 : decode cX5_margin 141 = .ok (.ifCond .le 8, 3) := by decide +kernel
theorem dX5_margin_144 : decode cX5_margin 144 = .ok (.lload 10, 2) := by decide +kernel
theorem dX5_margin_146 : decode cX5_margin 146 = .ok (.goto 5, 3) := by decide +kernel
theorem dX5_margin_149 : decode cX5_margin 149 = .ok (.lload 7, 2) := by decide +kernel
theorem dX5_margin_151 : decode cX5_margin 151 = .ok (.lstore 7, 2) := by decide +kernel
theorem dX5_margin_153 : decode cX5_margin 153 = .ok (.iinc 9 1, 3) := by decide +kernel
theorem dX5_margin_156 : decode cX5_margin 156 = .ok (.goto (-100), 3) := by decide +kernel
theorem dX5_margin_159 : decode cX5_margin 159 = .ok (.iload 5, 2) := by decide +kernel
theorem dX5_margin_161 : decode cX5_margin 161 = .ok (.ifCond .ne 9, 3) := by decide +kernel
theorem dX5_margin_164 : decode cX5_margin 164 = .ok (.aload_n 0, 1) := by decide +kernel
theorem dX5_margin_165 : decode cX5_margin 165 = .ok (.iconst 4, 1) := by decide +kernel
theorem dX5_margin_166 : decode cX5_margin 166 = .ok (.invokevirtual 79, 3) := by decide +kernel
theorem dX5_margin_169 : decode cX5_margin 169 = .ok (.ireturn, 1) := by decide +kernel
theorem dX5_margin_170 : decode cX5_margin 170 = .ok (.ldc2_w 142, 3) := by decide +kernel
theorem dX5_margin_173 : decode cX5_margin 173 = .ok (.ldc2_w 144, 3) := by decide +kernel
theorem dX5_margin_176 : decode cX5_margin 176 = .ok (.iload 6, 2) := by decide +kernel
theorem dX5_margin_178 : decode cX5_margin 178 = .ok (.iload 5, 2) := by decide +kernel
theorem dX5_margin_180 : decode cX5_margin 180 = .ok (.idiv, 1) := by decide +kernel
theorem dX5_margin_181 : decode cX5_margin 181 = .ok (.i2l, 1) := by decide +kernel
theorem dX5_margin_182 : decode cX5_margin 182 = .ok (.lmul, 1) := by decide +kernel
theorem dX5_margin_183 : decode cX5_margin 183 = .ok (.ladd, 1) := by decide +kernel
theorem dX5_margin_184 : decode cX5_margin 184 = .ok (.ldc2_w 146, 3) := by decide +kernel
theorem dX5_margin_187 : decode cX5_margin 187 = .ok (.lload 7, 2) := by decide +kernel
theorem dX5_margin_189 : decode cX5_margin 189 = .ok (.lmul, 1) := by decide +kernel
theorem dX5_margin_190 : decode cX5_margin 190 = .ok (.lsub, 1) := by decide +kernel
theorem dX5_margin_191 : decode cX5_margin 191 = .ok (.aload_n 0, 1) := by decide +kernel
theorem dX5_margin_192 : decode cX5_margin 192 = .ok (.iload_n 1, 1) := by decide +kernel
theorem dX5_margin_193 : decode cX5_margin 193 = .ok (.iload_n 2, 1) := by decide +kernel
theorem dX5_margin_194 : decode cX5_margin 194 = .ok (.invokevirtual 138, 3) := by decide +kernel
theorem dX5_margin_197 : decode cX5_margin 197 = .ok (.lsub, 1) := by decide +kernel
theorem dX5_margin_198 : decode cX5_margin 198 = .ok (.lstore 9, 2) := by decide +kernel
theorem dX5_margin_200 : decode cX5_margin 200 = .ok (.aload_n 0, 1) := by decide +kernel
theorem dX5_margin_201 : decode cX5_margin 201 = .ok (.lload 9, 2) := by decide +kernel
theorem dX5_margin_203 : decode cX5_margin 203 = .ok (.lload 9, 2) := by decide +kernel
theorem dX5_margin_205 : decode cX5_margin 205 = .ok (.lconst 0, 1) := by decide +kernel
theorem dX5_margin_206 : decode cX5_margin 206 = .ok (.lcmp, 1) := by decide +kernel
theorem dX5_margin_207 : decode cX5_margin 207 = .ok (.ifCond .gt 7, 3) := by decide +kernel
theorem dX5_margin_210 : decode cX5_margin 210 = .ok (.iconst 1, 1) := by decide +kernel
theorem dX5_margin_211 : decode cX5_margin 211 = .ok (.goto 4, 3) := by decide +kernel
theorem dX5_margin_214 : decode cX5_margin 214 = .ok (.iconst 0, 1) := by decide +kernel
theorem dX5_margin_215 : decode cX5_margin 215 = .ok (.invokevirtual 96, 3) := by decide +kernel
theorem dX5_margin_218 : decode cX5_margin 218 = .ok (.ireturn, 1) := by decide +kernel
theorem dX5_work_0 : decode cX5_work 0 = .ok (.iload_n 1, 1) := by decide +kernel
theorem dX5_work_1 : decode cX5_work 1 = .ok (.iconst 1, 1) := by decide +kernel
theorem dX5_work_2 : decode cX5_work 2 = .ok (.sipush 1000, 3) := by decide +kernel
theorem dX5_work_5 : decode cX5_work 5 = .ok (.invokestatic 68, 3) := by decide +kernel
theorem dX5_work_8 : decode cX5_work 8 = .ok (.ifCond .eq 14, 3) := by decide +kernel
theorem dX5_work_11 : decode cX5_work 11 = .ok (.iload_n 2, 1) := by decide +kernel
theorem dX5_work_12 : decode cX5_work 12 = .ok (.iconst 0, 1) := by decide +kernel
theorem dX5_work_13 : decode cX5_work 13 = .ok (.sipush 1000, 3) := by decide +kernel
theorem dX5_work_16 : decode cX5_work 16 = .ok (.invokestatic 68, 3) := by decide +kernel
theorem dX5_work_19 : decode cX5_work 19 = .ok (.ifCond .ne 5, 3) := by decide +kernel
theorem dX5_work_22 : decode cX5_work 22 = .ok (.iconst (-1), 1) := by decide +kernel
theorem dX5_work_23 : decode cX5_work 23 = .ok (.ireturn, 1) := by decide +kernel
theorem dX5_work_24 : decode cX5_work 24 = .ok (.aload_n 0, 1) := by decide +kernel
theorem dX5_work_25 : decode cX5_work 25 = .ok (.getfield 148, 3) := by decide +kernel
theorem dX5_work_28 : decode cX5_work 28 = .ok (.bipush 14, 2) := by decide +kernel
theorem dX5_work_30 : decode cX5_work 30 = .ok (.if_icmp .ne 6, 3) := by decide +kernel
theorem dX5_work_33 : decode cX5_work 33 = .ok (.bipush (-2), 2) := by decide +kernel
theorem dX5_work_35 : decode cX5_work 35 = .ok (.ireturn, 1) := by decide +kernel
theorem dX5_work_36 : decode cX5_work 36 = .ok (.aload_n 0, 1) := by decide +kernel
theorem dX5_work_37 : decode cX5_work 37 = .ok (.getfield 50, 3) := by decide +kernel
theorem dX5_work_40 : decode cX5_work 40 = .ok (.aload_n 0, 1) := by decide +kernel
theorem dX5_work_41 : decode cX5_work 41 = .ok (.getfield 148, 3) := by decide +kernel
theorem dX5_work_44 : decode cX5_work 44 = .ok (.iload_n 1, 1) := by decide +kernel
theorem dX5_work_45 : decode cX5_work 45 = .ok (.iastore, 1) := by decide +kernel
theorem dX5_work_46 : decode cX5_work 46 = .ok (.aload_n 0, 1) := by decide +kernel
theorem dX5_work_47 : decode cX5_work 47 = .ok (.getfield 53, 3) := by decide +kernel
theorem dX5_work_50 : decode cX5_work 50 = .ok (.aload_n 0, 1) := by decide +kernel
theorem dX5_work_51 : decode cX5_work 51 = .ok (.getfield 148, 3) := by decide +kernel
theorem dX5_work_54 : decode cX5_work 54 = .ok (.iload_n 2, 1) := by decide +kernel
theorem dX5_work_55 : decode cX5_work 55 = .ok (.iastore, 1) := by decide +kernel
theorem dX5_work_56 : decode cX5_work 56 = .ok (.aload_n 0, 1) := by decide +kernel
theorem dX5_work_57 : decode cX5_work 57 = .ok (.dup, 1) := by decide +kernel
theorem dX5_work_58 : decode cX5_work 58 = .ok (.getfield 148, 3) := by decide +kernel
theorem dX5_work_61 : decode cX5_work 61 = .ok (.iconst 1, 1) := by decide +kernel
theorem dX5_work_62 : decode cX5_work 62 = .ok (.iadd, 1) := by decide +kernel
theorem dX5_work_63 : decode cX5_work 63 = .ok (.putfield 148, 3) := by decide +kernel
theorem dX5_work_66 : decode cX5_work 66 = .ok (.aload_n 0, 1) := by decide +kernel
theorem dX5_work_67 : decode cX5_work 67 = .ok (.getfield 148, 3) := by decide +kernel
theorem dX5_work_70 : decode cX5_work 70 = .ok (.iconst 1, 1) := by decide +kernel
theorem dX5_work_71 : decode cX5_work 71 = .ok (.isub, 1) := by decide +kernel
theorem dX5_work_72 : decode cX5_work 72 = .ok (.ireturn, 1) := by decide +kernel
theorem dX5_sumOf_0 : decode cX5_sumOf 0 = .ok (.iconst 0, 1) := by decide +kernel
theorem dX5_sumOf_1 : decode cX5_sumOf 1 = .ok (.istore_n 3, 1) := by decide +kernel
theorem dX5_sumOf_2 : decode cX5_sumOf 2 = .ok (.iconst 0, 1) := by decide +kernel
theorem dX5_sumOf_3 : decode cX5_sumOf 3 = .ok (.istore 4, 2) := by decide +kernel
theorem dX5_sumOf_5 : decode cX5_sumOf 5 = .ok (.iload 4, 2) := by decide +kernel
theorem dX5_sumOf_7 : decode cX5_sumOf 7 = .ok (.aload_n 0, 1) := by decide +kernel
theorem dX5_sumOf_8 : decode cX5_sumOf 8 = .ok (.getfield 148, 3) := by decide +kernel
theorem dX5_sumOf_11 : decode cX5_sumOf 11 = .ok (.if_icmp .ge 46, 3) := by decide +kernel
theorem dX5_sumOf_14 : decode cX5_sumOf 14 = .ok (.iload_n 3, 1) := by decide +kernel
theorem dX5_sumOf_15 : decode cX5_sumOf 15 = .ok (.iload_n 1, 1) := by decide +kernel
theorem dX5_sumOf_16 : decode cX5_sumOf 16 = .ok (.iload 4, 2) := by decide +kernel
theorem dX5_sumOf_18 : decode cX5_sumOf 18 = .ok (.ishr, 1) := by decide +kernel
theorem dX5_sumOf_19 : decode cX5_sumOf 19 = .ok (.iconst 1, 1) := by decide +kernel
theorem dX5_sumOf_20 : decode cX5_sumOf 20 = .ok (.iand, 1) := by decide +kernel
theorem dX5_sumOf_21 : decode cX5_sumOf 21 = .ok (.ifCond .ne 7, 3) := by decide +kernel
theorem dX5_sumOf_24 : decode cX5_sumOf 24 = .ok (.iconst 0, 1) := by decide +kernel
theorem dX5_sumOf_25 : decode cX5_sumOf 25 = .ok (.goto 24, 3) := by decide +kernel
theorem dX5_sumOf_28 : decode cX5_sumOf 28 = .ok (.iload_n 2, 1) := by decide +kernel
theorem dX5_sumOf_29 : decode cX5_sumOf 29 = .ok (.ifCond .eq 13, 3) := by decide +kernel
theorem dX5_sumOf_32 : decode cX5_sumOf 32 = .ok (.aload_n 0, 1) := by decide +kernel
theorem dX5_sumOf_33 : decode cX5_sumOf 33 = .ok (.getfield 50, 3) := by decide +kernel
theorem dX5_sumOf_36 : decode cX5_sumOf 36 = .ok (.iload 4, 2) := by decide +kernel
theorem dX5_sumOf_38 : decode cX5_sumOf 38 = .ok (.iaload, 1) := by decide +kernel
theorem dX5_sumOf_39 : decode cX5_sumOf 39 = .ok (.goto 10, 3) := by decide +kernel
theorem dX5_sumOf_42 : decode cX5_sumOf 42 = .ok (.aload_n 0, 1) := by decide +kernel
theorem dX5_sumOf_43 : decode cX5_sumOf 43 = .ok (.getfield 53, 3) := by decide +kernel
theorem dX5_sumOf_46 : decode cX5_sumOf 46 = .ok (.iload 4, 2) := by decide +kernel
theorem dX5_sumOf_48 : decode cX5_sumOf 48 = .ok (.iaload, 1) := by decide +kernel
theorem dX5_sumOf_49 : decode cX5_sumOf 49 = .ok (.iadd, 1) := by decide +kernel
theorem dX5_sumOf_50 : decode cX5_sumOf 50 = .ok (.istore_n 3, 1) := by decide +kernel
theorem dX5_sumOf_51 : decode cX5_sumOf 51 = .ok (.iinc 4 1, 3) := by decide +kernel
theorem dX5_sumOf_54 : decode cX5_sumOf 54 = .ok (.goto (-49), 3) := by decide +kernel
theorem dX5_sumOf_57 : decode cX5_sumOf 57 = .ok (.iload_n 3, 1) := by decide +kernel
theorem dX5_sumOf_58 : decode cX5_sumOf 58 = .ok (.ireturn, 1) := by decide +kernel
theorem dX5_best_0 : decode cX5_best 0 = .ok (.iload_n 1, 1) := by decide +kernel
theorem dX5_best_1 : decode cX5_best 1 = .ok (.iconst 0, 1) := by decide +kernel
theorem dX5_best_2 : decode cX5_best 2 = .ok (.sipush 14000, 3) := by decide +kernel
theorem dX5_best_5 : decode cX5_best 5 = .ok (.invokestatic 68, 3) := by decide +kernel
theorem dX5_best_8 : decode cX5_best 8 = .ok (.ifCond .ne 5, 3) := by decide +kernel
theorem dX5_best_11 : decode cX5_best 11 = .ok (.iconst (-1), 1) := by decide +kernel
theorem dX5_best_12 : decode cX5_best 12 = .ok (.ireturn, 1) := by decide +kernel
theorem dX5_best_13 : decode cX5_best 13 = .ok (.iconst 0, 1) := by decide +kernel
theorem dX5_best_14 : decode cX5_best 14 = .ok (.istore_n 2, 1) := by decide +kernel
theorem dX5_best_15 : decode cX5_best 15 = .ok (.iconst 1, 1) := by decide +kernel
theorem dX5_best_16 : decode cX5_best 16 = .ok (.istore_n 3, 1) := by decide +kernel
theorem dX5_best_17 : decode cX5_best 17 = .ok (.iload_n 3, 1) := by decide +kernel
theorem dX5_best_18 : decode cX5_best 18 = .ok (.iconst 1, 1) := by decide +kernel
theorem dX5_best_19 : decode cX5_best 19 = .ok (.aload_n 0, 1) := by decide +kernel
theorem dX5_best_20 : decode cX5_best 20 = .ok (.getfield 148, 3) := by decide +kernel
theorem dX5_best_23 : decode cX5_best 23 = .ok (.ishl, 1) := by decide +kernel
theorem dX5_best_24 : decode cX5_best 24 = .ok (.if_icmp .ge 70, 3) := by decide +kernel
theorem dX5_best_27 : decode cX5_best 27 = .ok (.aload_n 0, 1) := by decide +kernel
theorem dX5_best_28 : decode cX5_best 28 = .ok (.iload_n 3, 1) := by decide +kernel
theorem dX5_best_29 : decode cX5_best 29 = .ok (.iconst 0, 1) := by decide +kernel
theorem dX5_best_30 : decode cX5_best 30 = .ok (.invokevirtual 151, 3) := by decide +kernel
theorem dX5_best_33 : decode cX5_best 33 = .ok (.aload_n 0, 1) := by decide +kernel
theorem dX5_best_34 : decode cX5_best 34 = .ok (.iload_n 2, 1) := by decide +kernel
theorem dX5_best_35 : decode cX5_best 35 = .ok (.iconst 0, 1) := by decide +kernel
theorem dX5_best_36 : decode cX5_best 36 = .ok (.invokevirtual 151, 3) := by decide +kernel
theorem dX5_best_39 : decode cX5_best 39 = .ok (.isub, 1) := by decide +kernel
theorem dX5_best_40 : decode cX5_best 40 = .ok (.istore 4, 2) := by decide +kernel
theorem dX5_best_42 : decode cX5_best 42 = .ok (.aload_n 0, 1) := by decide +kernel
theorem dX5_best_43 : decode cX5_best 43 = .ok (.iload_n 3, 1) := by decide +kernel
theorem dX5_best_44 : decode cX5_best 44 = .ok (.iconst 1, 1) := by decide +kernel
theorem dX5_best_45 : decode cX5_best 45 = .ok (.invokevirtual 151, 3) := by decide +kernel
theorem dX5_best_48 : decode cX5_best 48 = .ok (.aload_n 0, 1) := by decide +kernel
theorem dX5_best_49 : decode cX5_best 49 = .ok (.iload_n 2, 1) := by decide +kernel
theorem dX5_best_50 : decode cX5_best 50 = .ok (.iconst 1, 1) := by decide +kernel
theorem dX5_best_51 : decode cX5_best 51 = .ok (.invokevirtual 151, 3) := by decide +kernel
theorem dX5_best_54 : decode cX5_best 54 = .ok (.isub, 1) := by decide +kernel
theorem dX5_best_55 : decode cX5_best 55 = .ok (.istore 5, 2) := by decide +kernel
theorem dX5_best_57 : decode cX5_best 57 = .ok (.aload_n 0, 1) := by decide +kernel
theorem dX5_best_58 : decode cX5_best 58 = .ok (.iload_n 3, 1) := by decide +kernel
theorem dX5_best_59 : decode cX5_best 59 = .ok (.iconst 1, 1) := by decide +kernel
theorem dX5_best_60 : decode cX5_best 60 = .ok (.invokevirtual 151, 3) := by decide +kernel
theorem dX5_best_63 : decode cX5_best 63 = .ok (.iload_n 1, 1) := by decide +kernel
theorem dX5_best_64 : decode cX5_best 64 = .ok (.if_icmp .gt 22, 3) := by decide +kernel
theorem dX5_best_67 : decode cX5_best 67 = .ok (.iload 4, 2) := by decide +kernel
theorem dX5_best_69 : decode cX5_best 69 = .ok (.ifCond .gt 13, 3) := by decide +kernel
theorem dX5_best_72 : decode cX5_best 72 = .ok (.iload 4, 2) := by decide +kernel
theorem dX5_best_74 : decode cX5_best 74 = .ok (.ifCond .ne 12, 3) := by decide +kernel
theorem dX5_best_77 : decode cX5_best 77 = .ok (.iload 5, 2) := by decide +kernel
theorem dX5_best_79 : decode cX5_best 79 = .ok (.ifCond .ge 7, 3) := by decide +kernel
theorem dX5_best_82 : decode cX5_best 82 = .ok (.iload_n 3, 1) := by decide +kernel
theorem dX5_best_83 : decode cX5_best 83 = .ok (.goto 4, 3) := by decide +kernel
theorem dX5_best_86 : decode cX5_best 86 = .ok (.iload_n 2, 1) := by decide +kernel
theorem dX5_best_87 : decode cX5_best 87 = .ok (.istore_n 2, 1) := by decide +kernel
theorem dX5_best_88 : decode cX5_best 88 = .ok (.iinc 3 1, 3) := by decide +kernel
theorem dX5_best_91 : decode cX5_best 91 = .ok (.goto (-74), 3) := by decide +kernel
theorem dX5_best_94 : decode cX5_best 94 = .ok (.aload_n 0, 1) := by decide +kernel
theorem dX5_best_95 : decode cX5_best 95 = .ok (.iload_n 2, 1) := by decide +kernel
theorem dX5_best_96 : decode cX5_best 96 = .ok (.i2l, 1) := by decide +kernel
theorem dX5_best_97 : decode cX5_best 97 = .ok (.aload_n 0, 1) := by decide +kernel
theorem dX5_best_98 : decode cX5_best 98 = .ok (.iload_n 2, 1) := by decide +kernel
theorem dX5_best_99 : decode cX5_best 99 = .ok (.iconst 0, 1) := by decide +kernel
theorem dX5_best_100 : decode cX5_best 100 = .ok (.invokevirtual 151, 3) := by decide +kernel
theorem dX5_best_103 : decode cX5_best 103 = .ok (.invokevirtual 96, 3) := by decide +kernel
theorem dX5_best_106 : decode cX5_best 106 = .ok (.ireturn, 1) := by decide +kernel
theorem dX5_first_0 : decode cX5_first 0 = .ok (.iload_n 1, 1) := by decide +kernel
theorem dX5_first_1 : decode cX5_first 1 = .ok (.iconst 0, 1) := by decide +kernel
theorem dX5_first_2 : decode cX5_first 2 = .ok (.sipush 14000, 3) := by decide +kernel
theorem dX5_first_5 : decode cX5_first 5 = .ok (.invokestatic 68, 3) := by decide +kernel
theorem dX5_first_8 : decode cX5_first 8 = .ok (.ifCond .ne 5, 3) := by decide +kernel
theorem dX5_first_11 : decode cX5_first 11 = .ok (.iconst (-1), 1) := by decide +kernel
theorem dX5_first_12 : decode cX5_first 12 = .ok (.ireturn, 1) := by decide +kernel
theorem dX5_first_13 : decode cX5_first 13 = .ok (.iconst 0, 1) := by decide +kernel
theorem dX5_first_14 : decode cX5_first 14 = .ok (.istore_n 2, 1) := by decide +kernel
theorem dX5_first_15 : decode cX5_first 15 = .ok (.iconst 0, 1) := by decide +kernel
theorem dX5_first_16 : decode cX5_first 16 = .ok (.istore_n 3, 1) := by decide +kernel
theorem dX5_first_17 : decode cX5_first 17 = .ok (.iload_n 1, 1) := by decide +kernel
theorem dX5_first_18 : decode cX5_first 18 = .ok (.istore 4, 2) := by decide +kernel
theorem dX5_first_20 : decode cX5_first 20 = .ok (.iconst 0, 1) := by decide +kernel
theorem dX5_first_21 : decode cX5_first 21 = .ok (.istore 5, 2) := by decide +kernel
theorem dX5_first_23 : decode cX5_first 23 = .ok (.iload 5, 2) := by decide +kernel
theorem dX5_first_25 : decode cX5_first 25 = .ok (.aload_n 0, 1) := by decide +kernel
theorem dX5_first_26 : decode cX5_first 26 = .ok (.getfield 148, 3) := by decide +kernel
theorem dX5_first_29 : decode cX5_first 29 = .ok (.if_icmp .ge 125, 3) := by decide +kernel
theorem dX5_first_32 : decode cX5_first 32 = .ok (.bipush (-9), 2) := by decide +kernel
theorem dX5_first_34 : decode cX5_first 34 = .ok (.istore 6, 2) := by decide +kernel
theorem dX5_first_36 : decode cX5_first 36 = .ok (.iconst 0, 1) := by decide +kernel
theorem dX5_first_37 : decode cX5_first 37 = .ok (.istore 7, 2) := by decide +kernel
theorem dX5_first_39 : decode cX5_first 39 = .ok (.iload 7, 2) := by decide +kernel
theorem dX5_first_41 : decode cX5_first 41 = .ok (.aload_n 0, 1) := by decide +kernel
theorem dX5_first_42 : decode cX5_first 42 = .ok (.getfield 148, 3) := by decide +kernel
theorem dX5_first_45 : decode cX5_first 45 = .ok (.if_icmp .ge 65, 3) := by decide +kernel
theorem dX5_first_48 : decode cX5_first 48 = .ok (.iload_n 2, 1) := by decide +kernel
theorem dX5_first_49 : decode cX5_first 49 = .ok (.iload 7, 2) := by decide +kernel
theorem dX5_first_51 : decode cX5_first 51 = .ok (.ishr, 1) := by decide +kernel
theorem dX5_first_52 : decode cX5_first 52 = .ok (.iconst 1, 1) := by decide +kernel
theorem dX5_first_53 : decode cX5_first 53 = .ok (.iand, 1) := by decide +kernel
theorem dX5_first_54 : decode cX5_first 54 = .ok (.ifCond .ne 46, 3) := by decide +kernel
theorem dX5_first_57 : decode cX5_first 57 = .ok (.iload 6, 2) := by decide +kernel
theorem dX5_first_59 : decode cX5_first 59 = .ok (.ifCond .lt 36, 3) := by decide +kernel
theorem dX5_first_62 : decode cX5_first 62 = .ok (.aload_n 0, 1) := by decide +kernel
theorem dX5_first_63 : decode cX5_first 63 = .ok (.getfield 53, 3) := by decide +kernel
theorem dX5_first_66 : decode cX5_first 66 = .ok (.iload 7, 2) := by decide +kernel
theorem dX5_first_68 : decode cX5_first 68 = .ok (.iaload, 1) := by decide +kernel
theorem dX5_first_69 : decode cX5_first 69 = .ok (.aload_n 0, 1) := by decide +kernel
theorem dX5_first_70 : decode cX5_first 70 = .ok (.getfield 50, 3) := by decide +kernel
theorem dX5_first_73 : decode cX5_first 73 = .ok (.iload 6, 2) := by decide +kernel
theorem dX5_first_75 : decode cX5_first 75 = .ok (.iaload, 1) := by decide +kernel
theorem dX5_first_76 : decode cX5_first 76 = .ok (.imul, 1) := by decide +kernel
theorem dX5_first_77 : decode cX5_first 77 = .ok (.aload_n 0, 1) := by decide +kernel
theorem dX5_first_78 : decode cX5_first 78 = .ok (.getfield 53, 3) := by decide +kernel
theorem dX5_first_81 : decode cX5_first 81 = .ok (.iload 6, 2) := by decide +kernel
theorem dX5_first_83 : decode cX5_first 83 = .ok (.iaload, 1) := by decide +kernel
theorem dX5_first_84 : decode cX5_first 84 = .ok (.aload_n 0, 1) := by decide +kernel
theorem dX5_first_85 : decode cX5_first 85 = .ok (.getfield 50, 3) := by decide +kernel
theorem dX5_first_88 : decode cX5_first 88 = .ok (.iload 7, 2) := by decide +kernel
theorem dX5_first_90 : decode cX5_first 90 = .ok (.iaload, 1) := by decide +kernel
theorem dX5_first_91 : decode cX5_first 91 = .ok (.imul, 1) := by decide +kernel
theorem dX5_first_92 : decode cX5_first 92 = .ok (.if_icmp .le 8, 3) := by decide +kernel
theorem dX5_first_95 : decode cX5_first 95 = .ok (.iload 7, 2) := by decide +kernel
theorem dX5_first_97 : decode cX5_first 97 = .ok (.goto 5, 3) := by decide +kernel
theorem dX5_first_100 : decode cX5_first 100 = .ok (.iload 6, 2) := by decide +kernel
theorem dX5_first_102 : decode cX5_first 102 = .ok (.istore 6, 2) := by decide +kernel
theorem dX5_first_104 : decode cX5_first 104 = .ok (.iinc 7 1, 3) := by decide +kernel
theorem dX5_first_107 : decode cX5_first 107 = .ok (.goto (-68), 3) := by decide +kernel
theorem dX5_first_110 : decode cX5_first 110 = .ok (.iload_n 2, 1) := by decide +kernel
theorem dX5_first_111 : decode cX5_first 111 = .ok (.iconst 1, 1) := by decide +kernel
theorem dX5_first_112 : decode cX5_first 112 = .ok (.iload 6, 2) := by decide +kernel
theorem dX5_first_114 : decode cX5_first 114 = .ok (.ishl, 1) := by decide +kernel
theorem dX5_first_115 : decode cX5_first 115 = .ok (.ior, 1) := by decide +kernel
theorem dX5_first_116 : decode cX5_first 116 = .ok (.istore_n 2, 1) := by decide +kernel
theorem dX5_first_117 : decode cX5_first 117 = .ok (.aload_n 0, 1) := by decide +kernel
theorem dX5_first_118 : decode cX5_first 118 = .ok (.getfield 50, 3) := by decide +kernel
theorem dX5_first_121 : decode cX5_first 121 = .ok (.iload 6, 2) := by decide +kernel
theorem dX5_first_123 : decode cX5_first 123 = .ok (.iaload, 1) := by decide +kernel
theorem dX5_first_124 : decode cX5_first 124 = .ok (.iload 4, 2) := by decide +kernel
theorem dX5_first_126 : decode cX5_first 126 = .ok (.if_icmp .gt 22, 3) := by decide +kernel
theorem dX5_first_129 : decode cX5_first 129 = .ok (.iload 4, 2) := by decide +kernel
theorem dX5_first_131 : decode cX5_first 131 = .ok (.aload_n 0, 1) := by decide +kernel
theorem dX5_first_132 : decode cX5_first 132 = .ok (.getfield 50, 3) := by decide +kernel
theorem dX5_first_135 : decode cX5_first 135 = .ok (.iload 6, 2) := by decide +kernel
theorem dX5_first_137 : decode cX5_first 137 = .ok (.iaload, 1) := by decide +kernel
theorem dX5_first_138 : decode cX5_first 138 = .ok (.isub, 1) := by decide +kernel
theorem dX5_first_139 : decode cX5_first 139 = .ok (.istore 4, 2) := by decide +kernel
theorem dX5_first_141 : decode cX5_first 141 = .ok (.iload_n 3, 1) := by decide +kernel
theorem dX5_first_142 : decode cX5_first 142 = .ok (.iconst 1, 1) := by decide +kernel
theorem dX5_first_143 : decode cX5_first 143 = .ok (.iload 6, 2) := by decide +kernel
theorem dX5_first_145 : decode cX5_first 145 = .ok (.ishl, 1) := by decide +kernel
theorem dX5_first_146 : decode cX5_first 146 = .ok (.ior, 1) := by decide +kernel
theorem dX5_first_147 : decode cX5_first 147 = .ok (.istore_n 3, 1) := by decide +kernel
theorem dX5_first_148 : decode cX5_first 148 = .ok (.iinc 5 1, 3) := by decide +kernel
theorem dX5_first_151 : decode cX5_first 151 = .ok (.goto (-128), 3) := by decide +kernel
theorem dX5_first_154 : decode cX5_first 154 = .ok (.aload_n 0, 1) := by decide +kernel
theorem dX5_first_155 : decode cX5_first 155 = .ok (.iload_n 3, 1) := by decide +kernel
theorem dX5_first_156 : decode cX5_first 156 = .ok (.i2l, 1) := by decide +kernel
theorem dX5_first_157 : decode cX5_first 157 = .ok (.aload_n 0, 1) := by decide +kernel
theorem dX5_first_158 : decode cX5_first 158 = .ok (.iload_n 3, 1) := by decide +kernel
theorem dX5_first_159 : decode cX5_first 159 = .ok (.iconst 0, 1) := by decide +kernel
theorem dX5_first_160 : decode cX5_first 160 = .ok (.invokevirtual 151, 3) := by decide +kernel
theorem dX5_first_163 : decode cX5_first 163 = .ok (.invokevirtual 96, 3) := by decide +kernel
theorem dX5_first_166 : decode cX5_first 166 = .ok (.ireturn, 1) := by decide +kernel
theorem dX5_asked_0 : decode cX5_asked 0 = .ok (.aload_n 0, 1) := by decide +kernel
theorem dX5_asked_1 : decode cX5_asked 1 = .ok (.getfield 64, 3) := by decide +kernel
theorem dX5_asked_4 : decode cX5_asked 4 = .ok (.lreturn, 1) := by decide +kernel
theorem dX5_tellsCount_0 : decode cX5_tellsCount 0 = .ok (.iconst 0, 1) := by decide +kernel
theorem dX5_tellsCount_1 : decode cX5_tellsCount 1 = .ok (.istore_n 2, 1) := by decide +kernel
theorem dX5_tellsCount_2 : decode cX5_tellsCount 2 = .ok (.iconst 0, 1) := by decide +kernel
theorem dX5_tellsCount_3 : decode cX5_tellsCount 3 = .ok (.istore_n 3, 1) := by decide +kernel
theorem dX5_tellsCount_4 : decode cX5_tellsCount 4 = .ok (.iload_n 3, 1) := by decide +kernel
theorem dX5_tellsCount_5 : decode cX5_tellsCount 5 = .ok (.aload_n 0, 1) := by decide +kernel
theorem dX5_tellsCount_6 : decode cX5_tellsCount 6 = .ok (.getfield 72, 3) := by decide +kernel
theorem dX5_tellsCount_9 : decode cX5_tellsCount 9 = .ok (.if_icmp .ge 31, 3) := by decide +kernel
theorem dX5_tellsCount_12 : decode cX5_tellsCount 12 = .ok (.iload_n 1, 1) := by decide +kernel
theorem dX5_tellsCount_13 : decode cX5_tellsCount 13 = .ok (.iconst 1, 1) := by decide +kernel
theorem dX5_tellsCount_14 : decode cX5_tellsCount 14 = .ok (.if_icmp .ne 26, 3) := by decide +kernel
theorem dX5_tellsCount_17 : decode cX5_tellsCount 17 = .ok (.iload_n 2, 1) := by decide +kernel
theorem dX5_tellsCount_18 : decode cX5_tellsCount 18 = .ok (.aload_n 0, 1) := by decide +kernel
theorem dX5_tellsCount_19 : decode cX5_tellsCount 19 = .ok (.getfield 28, 3) := by decide +kernel
theorem dX5_tellsCount_22 : decode cX5_tellsCount 22 = .ok (.iload_n 3, 1) := by decide +kernel
theorem dX5_tellsCount_23 : decode cX5_tellsCount 23 = .ok (.baload, 1) := by decide +kernel
theorem dX5_tellsCount_24 : decode cX5_tellsCount 24 = .ok (.ifCond .eq 7, 3) := by decide +kernel
theorem dX5_tellsCount_27 : decode cX5_tellsCount 27 = .ok (.iconst 1, 1) := by decide +kernel
theorem dX5_tellsCount_28 : decode cX5_tellsCount 28 = .ok (.goto 4, 3) := by decide +kernel
theorem dX5_tellsCount_31 : decode cX5_tellsCount 31 = .ok (.iconst 0, 1) := by decide +kernel
theorem dX5_tellsCount_32 : decode cX5_tellsCount 32 = .ok (.iadd, 1) := by decide +kernel
theorem dX5_tellsCount_33 : decode cX5_tellsCount 33 = .ok (.istore_n 2, 1) := by decide +kernel
theorem dX5_tellsCount_34 : decode cX5_tellsCount 34 = .ok (.iinc 3 1, 3) := by decide +kernel
theorem dX5_tellsCount_37 : decode cX5_tellsCount 37 = .ok (.goto (-33), 3) := by decide +kernel
theorem dX5_tellsCount_40 : decode cX5_tellsCount 40 = .ok (.iconst 0, 1) := by decide +kernel
theorem dX5_tellsCount_41 : decode cX5_tellsCount 41 = .ok (.istore_n 3, 1) := by decide +kernel
theorem dX5_tellsCount_42 : decode cX5_tellsCount 42 = .ok (.iload_n 3, 1) := by decide +kernel
theorem dX5_tellsCount_43 : decode cX5_tellsCount 43 = .ok (.bipush 6, 2) := by decide +kernel
theorem dX5_tellsCount_45 : decode cX5_tellsCount 45 = .ok (.if_icmp .ge 31, 3) := by decide +kernel
theorem dX5_tellsCount_48 : decode cX5_tellsCount 48 = .ok (.iload_n 1, 1) := by decide +kernel
theorem dX5_tellsCount_49 : decode cX5_tellsCount 49 = .ok (.iconst 3, 1) := by decide +kernel
theorem dX5_tellsCount_50 : decode cX5_tellsCount 50 = .ok (.if_icmp .ne 26, 3) := by decide +kernel
theorem dX5_tellsCount_53 : decode cX5_tellsCount 53 = .ok (.iload_n 2, 1) := by decide +kernel
theorem dX5_tellsCount_54 : decode cX5_tellsCount 54 = .ok (.aload_n 0, 1) := by decide +kernel
theorem dX5_tellsCount_55 : decode cX5_tellsCount 55 = .ok (.getfield 41, 3) := by decide +kernel
theorem dX5_tellsCount_58 : decode cX5_tellsCount 58 = .ok (.iload_n 3, 1) := by decide +kernel
theorem dX5_tellsCount_59 : decode cX5_tellsCount 59 = .ok (.baload, 1) := by decide +kernel
theorem dX5_tellsCount_60 : decode cX5_tellsCount 60 = .ok (.ifCond .eq 7, 3) := by decide +kernel
theorem dX5_tellsCount_63 : decode cX5_tellsCount 63 = .ok (.iconst 1, 1) := by decide +kernel
theorem dX5_tellsCount_64 : decode cX5_tellsCount 64 = .ok (.goto 4, 3) := by decide +kernel
theorem dX5_tellsCount_67 : decode cX5_tellsCount 67 = .ok (.iconst 0, 1) := by decide +kernel
theorem dX5_tellsCount_68 : decode cX5_tellsCount 68 = .ok (.iadd, 1) := by decide +kernel
theorem dX5_tellsCount_69 : decode cX5_tellsCount 69 = .ok (.istore_n 2, 1) := by decide +kernel
theorem dX5_tellsCount_70 : decode cX5_tellsCount 70 = .ok (.iinc 3 1, 3) := by decide +kernel
theorem dX5_tellsCount_73 : decode cX5_tellsCount 73 = .ok (.goto (-31), 3) := by decide +kernel
theorem dX5_tellsCount_76 : decode cX5_tellsCount 76 = .ok (.iload_n 1, 1) := by decide +kernel
theorem dX5_tellsCount_77 : decode cX5_tellsCount 77 = .ok (.ifCond .ne 10, 3) := by decide +kernel
theorem dX5_tellsCount_80 : decode cX5_tellsCount 80 = .ok (.aload_n 0, 1) := by decide +kernel
theorem dX5_tellsCount_81 : decode cX5_tellsCount 81 = .ok (.getfield 72, 3) := by decide +kernel
theorem dX5_tellsCount_84 : decode cX5_tellsCount 84 = .ok (.goto 28, 3) := by decide +kernel
theorem dX5_tellsCount_87 : decode cX5_tellsCount 87 = .ok (.iload_n 1, 1) := by decide +kernel
theorem dX5_tellsCount_88 : decode cX5_tellsCount 88 = .ok (.iconst 2, 1) := by decide +kernel
theorem dX5_tellsCount_89 : decode cX5_tellsCount 89 = .ok (.if_icmp .ne 10, 3) := by decide +kernel
theorem dX5_tellsCount_92 : decode cX5_tellsCount 92 = .ok (.aload_n 0, 1) := by decide +kernel
theorem dX5_tellsCount_93 : decode cX5_tellsCount 93 = .ok (.getfield 99, 3) := by decide +kernel
theorem dX5_tellsCount_96 : decode cX5_tellsCount 96 = .ok (.goto 16, 3) := by decide +kernel
theorem dX5_tellsCount_99 : decode cX5_tellsCount 99 = .ok (.iload_n 1, 1) := by decide +kernel
theorem dX5_tellsCount_100 : decode cX5_tellsCount 100 = .ok (.iconst 4, 1) := by decide +kernel
theorem dX5_tellsCount_101 : decode cX5_tellsCount 101 = .ok (.if_icmp .ne 10, 3) := by decide +kernel
theorem dX5_tellsCount_104 : decode cX5_tellsCount 104 = .ok (.aload_n 0, 1) := by decide +kernel
theorem dX5_tellsCount_105 : decode cX5_tellsCount 105 = .ok (.getfield 148, 3) := by decide +kernel
theorem dX5_tellsCount_108 : decode cX5_tellsCount 108 = .ok (.goto 4, 3) := by decide +kernel
theorem dX5_tellsCount_111 : decode cX5_tellsCount 111 = .ok (.iload_n 2, 1) := by decide +kernel
theorem dX5_tellsCount_112 : decode cX5_tellsCount 112 = .ok (.ireturn, 1) := by decide +kernel
theorem dX5_count_0 : decode cX5_count 0 = .ok (.iload_n 1, 1) := by decide +kernel
theorem dX5_count_1 : decode cX5_count 1 = .ok (.iconst 0, 1) := by decide +kernel
theorem dX5_count_2 : decode cX5_count 2 = .ok (.iconst 4, 1) := by decide +kernel
theorem dX5_count_3 : decode cX5_count 3 = .ok (.invokestatic 68, 3) := by decide +kernel
theorem dX5_count_6 : decode cX5_count 6 = .ok (.ifCond .eq 11, 3) := by decide +kernel
theorem dX5_count_9 : decode cX5_count 9 = .ok (.aload_n 0, 1) := by decide +kernel
theorem dX5_count_10 : decode cX5_count 10 = .ok (.iload_n 1, 1) := by decide +kernel
theorem dX5_count_11 : decode cX5_count 11 = .ok (.invokevirtual 155, 3) := by decide +kernel
theorem dX5_count_14 : decode cX5_count 14 = .ok (.goto 4, 3) := by decide +kernel
theorem dX5_count_17 : decode cX5_count 17 = .ok (.iconst (-1), 1) := by decide +kernel
theorem dX5_count_18 : decode cX5_count 18 = .ok (.ireturn, 1) := by decide +kernel
theorem dX5_finding_0 : decode cX5_finding 0 = .ok (.aload_n 0, 1) := by decide +kernel
theorem dX5_finding_1 : decode cX5_finding 1 = .ok (.getfield 60, 3) := by decide +kernel
theorem dX5_finding_4 : decode cX5_finding 4 = .ok (.ireturn, 1) := by decide +kernel
theorem dX5_findings_0 : decode cX5_findings 0 = .ok (.iload_n 1, 1) := by decide +kernel
theorem dX5_findings_1 : decode cX5_findings 1 = .ok (.iconst 1, 1) := by decide +kernel
theorem dX5_findings_2 : decode cX5_findings 2 = .ok (.iconst 5, 1) := by decide +kernel
theorem dX5_findings_3 : decode cX5_findings 3 = .ok (.invokestatic 68, 3) := by decide +kernel
theorem dX5_findings_6 : decode cX5_findings 6 = .ok (.ifCond .eq 12, 3) := by decide +kernel
theorem dX5_findings_9 : decode cX5_findings 9 = .ok (.aload_n 0, 1) := by decide +kernel
theorem dX5_findings_10 : decode cX5_findings 10 = .ok (.getfield 7, 3) := by decide +kernel
theorem dX5_findings_13 : decode cX5_findings 13 = .ok (.iload_n 1, 1) := by decide +kernel
theorem dX5_findings_14 : decode cX5_findings 14 = .ok (.iaload, 1) := by decide +kernel
theorem dX5_findings_15 : decode cX5_findings 15 = .ok (.goto 4, 3) := by decide +kernel
theorem dX5_findings_18 : decode cX5_findings 18 = .ok (.iconst (-1), 1) := by decide +kernel
theorem dX5_findings_19 : decode cX5_findings 19 = .ok (.ireturn, 1) := by decide +kernel
theorem dX5_digest_0 : decode cX5_digest 0 = .ok (.ldc2_w 158, 3) := by decide +kernel
theorem dX5_digest_3 : decode cX5_digest 3 = .ok (.lstore_n 1, 1) := by decide +kernel
theorem dX5_digest_4 : decode cX5_digest 4 = .ok (.iconst 0, 1) := by decide +kernel
theorem dX5_digest_5 : decode cX5_digest 5 = .ok (.istore_n 3, 1) := by decide +kernel
theorem dX5_digest_6 : decode cX5_digest 6 = .ok (.iload_n 3, 1) := by decide +kernel
theorem dX5_digest_7 : decode cX5_digest 7 = .ok (.iconst 4, 1) := by decide +kernel
theorem dX5_digest_8 : decode cX5_digest 8 = .ok (.if_icmp .gt 22, 3) := by decide +kernel
theorem dX5_digest_11 : decode cX5_digest 11 = .ok (.ldc2_w 160, 3) := by decide +kernel
theorem dX5_digest_14 : decode cX5_digest 14 = .ok (.lload_n 1, 1) := by decide +kernel
theorem dX5_digest_15 : decode cX5_digest 15 = .ok (.lmul, 1) := by decide +kernel
theorem dX5_digest_16 : decode cX5_digest 16 = .ok (.aload_n 0, 1) := by decide +kernel
theorem dX5_digest_17 : decode cX5_digest 17 = .ok (.iload_n 3, 1) := by decide +kernel
theorem dX5_digest_18 : decode cX5_digest 18 = .ok (.invokevirtual 155, 3) := by decide +kernel
theorem dX5_digest_21 : decode cX5_digest 21 = .ok (.i2l, 1) := by decide +kernel
theorem dX5_digest_22 : decode cX5_digest 22 = .ok (.ladd, 1) := by decide +kernel
theorem dX5_digest_23 : decode cX5_digest 23 = .ok (.lstore_n 1, 1) := by decide +kernel
theorem dX5_digest_24 : decode cX5_digest 24 = .ok (.iinc 3 1, 3) := by decide +kernel
theorem dX5_digest_27 : decode cX5_digest 27 = .ok (.goto (-21), 3) := by decide +kernel
theorem dX5_digest_30 : decode cX5_digest 30 = .ok (.iconst 0, 1) := by decide +kernel
theorem dX5_digest_31 : decode cX5_digest 31 = .ok (.istore_n 3, 1) := by decide +kernel
theorem dX5_digest_32 : decode cX5_digest 32 = .ok (.iload_n 3, 1) := by decide +kernel
theorem dX5_digest_33 : decode cX5_digest 33 = .ok (.aload_n 0, 1) := by decide +kernel
theorem dX5_digest_34 : decode cX5_digest 34 = .ok (.getfield 72, 3) := by decide +kernel
theorem dX5_digest_37 : decode cX5_digest 37 = .ok (.if_icmp .ge 53, 3) := by decide +kernel
theorem dX5_digest_40 : decode cX5_digest 40 = .ok (.iconst 0, 1) := by decide +kernel
theorem dX5_digest_41 : decode cX5_digest 41 = .ok (.istore 4, 2) := by decide +kernel
theorem dX5_digest_43 : decode cX5_digest 43 = .ok (.iload 4, 2) := by decide +kernel
theorem dX5_digest_45 : decode cX5_digest 45 = .ok (.iconst 3, 1) := by decide +kernel
theorem dX5_digest_46 : decode cX5_digest 46 = .ok (.if_icmp .gt 24, 3) := by decide +kernel
theorem dX5_digest_49 : decode cX5_digest 49 = .ok (.ldc2_w 160, 3) := by decide +kernel
theorem dX5_digest_52 : decode cX5_digest 52 = .ok (.lload_n 1, 1) := by decide +kernel
theorem dX5_digest_53 : decode cX5_digest 53 = .ok (.lmul, 1) := by decide +kernel
theorem dX5_digest_54 : decode cX5_digest 54 = .ok (.aload_n 0, 1) := by decide +kernel
theorem dX5_digest_55 : decode cX5_digest 55 = .ok (.iload_n 3, 1) := by decide +kernel
theorem dX5_digest_56 : decode cX5_digest 56 = .ok (.iload 4, 2) := by decide +kernel
theorem dX5_digest_58 : decode cX5_digest 58 = .ok (.invokevirtual 85, 3) := by decide +kernel
theorem dX5_digest_61 : decode cX5_digest 61 = .ok (.i2l, 1) := by decide +kernel
theorem dX5_digest_62 : decode cX5_digest 62 = .ok (.ladd, 1) := by decide +kernel
theorem dX5_digest_63 : decode cX5_digest 63 = .ok (.lstore_n 1, 1) := by decide +kernel
theorem dX5_digest_64 : decode cX5_digest 64 = .ok (.iinc 4 1, 3) := by decide +kernel
theorem dX5_digest_67 : decode cX5_digest 67 = .ok (.goto (-24), 3) := by decide +kernel
theorem dX5_digest_70 : decode cX5_digest 70 = .ok (.ldc2_w 160, 3) := by decide +kernel
theorem dX5_digest_73 : decode cX5_digest 73 = .ok (.lload_n 1, 1) := by decide +kernel
theorem dX5_digest_74 : decode cX5_digest 74 = .ok (.lmul, 1) := by decide +kernel
theorem dX5_digest_75 : decode cX5_digest 75 = .ok (.aload_n 0, 1) := by decide +kernel
theorem dX5_digest_76 : decode cX5_digest 76 = .ok (.getfield 16, 3) := by decide +kernel
theorem dX5_digest_79 : decode cX5_digest 79 = .ok (.iload_n 3, 1) := by decide +kernel
theorem dX5_digest_80 : decode cX5_digest 80 = .ok (.iaload, 1) := by decide +kernel
theorem dX5_digest_81 : decode cX5_digest 81 = .ok (.i2l, 1) := by decide +kernel
theorem dX5_digest_82 : decode cX5_digest 82 = .ok (.ladd, 1) := by decide +kernel
theorem dX5_digest_83 : decode cX5_digest 83 = .ok (.lstore_n 1, 1) := by decide +kernel
theorem dX5_digest_84 : decode cX5_digest 84 = .ok (.iinc 3 1, 3) := by decide +kernel
theorem dX5_digest_87 : decode cX5_digest 87 = .ok (.goto (-55), 3) := by decide +kernel
theorem dX5_digest_90 : decode cX5_digest 90 = .ok (.iconst 0, 1) := by decide +kernel
theorem dX5_digest_91 : decode cX5_digest 91 = .ok (.istore_n 3, 1) := by decide +kernel
theorem dX5_digest_92 : decode cX5_digest 92 = .ok (.iload_n 3, 1) := by decide +kernel
theorem dX5_digest_93 : decode cX5_digest 93 = .ok (.iconst 4, 1) := by decide +kernel
theorem dX5_digest_94 : decode cX5_digest 94 = .ok (.if_icmp .ge 23, 3) := by decide +kernel
theorem dX5_digest_97 : decode cX5_digest 97 = .ok (.ldc2_w 160, 3) := by decide +kernel
theorem dX5_digest_100 : decode cX5_digest 100 = .ok (.lload_n 1, 1) := by decide +kernel
theorem dX5_digest_101 : decode cX5_digest 101 = .ok (.lmul, 1) := by decide +kernel
theorem dX5_digest_102 : decode cX5_digest 102 = .ok (.aload_n 0, 1) := by decide +kernel
theorem dX5_digest_103 : decode cX5_digest 103 = .ok (.getfield 32, 3) := by decide +kernel
theorem dX5_digest_106 : decode cX5_digest 106 = .ok (.iload_n 3, 1) := by decide +kernel
theorem dX5_digest_107 : decode cX5_digest 107 = .ok (.iaload, 1) := by decide +kernel
theorem dX5_digest_108 : decode cX5_digest 108 = .ok (.i2l, 1) := by decide +kernel
theorem dX5_digest_109 : decode cX5_digest 109 = .ok (.ladd, 1) := by decide +kernel
theorem dX5_digest_110 : decode cX5_digest 110 = .ok (.lstore_n 1, 1) := by decide +kernel
theorem dX5_digest_111 : decode cX5_digest 111 = .ok (.iinc 3 1, 3) := by decide +kernel
theorem dX5_digest_114 : decode cX5_digest 114 = .ok (.goto (-22), 3) := by decide +kernel
theorem dX5_digest_117 : decode cX5_digest 117 = .ok (.iconst 0, 1) := by decide +kernel
theorem dX5_digest_118 : decode cX5_digest 118 = .ok (.istore_n 3, 1) := by decide +kernel
theorem dX5_digest_119 : decode cX5_digest 119 = .ok (.iload_n 3, 1) := by decide +kernel
theorem dX5_digest_120 : decode cX5_digest 120 = .ok (.bipush 6, 2) := by decide +kernel
theorem dX5_digest_122 : decode cX5_digest 122 = .ok (.if_icmp .ge 71, 3) := by decide +kernel
theorem dX5_digest_125 : decode cX5_digest 125 = .ok (.aload_n 0, 1) := by decide +kernel
theorem dX5_digest_126 : decode cX5_digest 126 = .ok (.getfield 41, 3) := by decide +kernel
theorem dX5_digest_129 : decode cX5_digest 129 = .ok (.iload_n 3, 1) := by decide +kernel
theorem dX5_digest_130 : decode cX5_digest 130 = .ok (.baload, 1) := by decide +kernel
theorem dX5_digest_131 : decode cX5_digest 131 = .ok (.ifCond .ne 11, 3) := by decide +kernel
theorem dX5_digest_134 : decode cX5_digest 134 = .ok (.ldc2_w 160, 3) := by decide +kernel
theorem dX5_digest_137 : decode cX5_digest 137 = .ok (.lload_n 1, 1) := by decide +kernel
theorem dX5_digest_138 : decode cX5_digest 138 = .ok (.lmul, 1) := by decide +kernel
theorem dX5_digest_139 : decode cX5_digest 139 = .ok (.lconst 1, 1) := by decide +kernel
theorem dX5_digest_140 : decode cX5_digest 140 = .ok (.lsub, 1) := by decide +kernel
theorem dX5_digest_141 : decode cX5_digest 141 = .ok (.lstore_n 1, 1) := by decide +kernel
theorem dX5_digest_142 : decode cX5_digest 142 = .ok (.iconst 0, 1) := by decide +kernel
theorem dX5_digest_143 : decode cX5_digest 143 = .ok (.istore 4, 2) := by decide +kernel
theorem dX5_digest_145 : decode cX5_digest 145 = .ok (.iload 4, 2) := by decide +kernel
theorem dX5_digest_147 : decode cX5_digest 147 = .ok (.bipush 40, 2) := by decide +kernel
theorem dX5_digest_149 : decode cX5_digest 149 = .ok (.if_icmp .ge 38, 3) := by decide +kernel
theorem dX5_digest_152 : decode cX5_digest 152 = .ok (.aload_n 0, 1) := by decide +kernel
theorem dX5_digest_153 : decode cX5_digest 153 = .ok (.getfield 41, 3) := by decide +kernel
theorem dX5_digest_156 : decode cX5_digest 156 = .ok (.iload_n 3, 1) := by decide +kernel
theorem dX5_digest_157 : decode cX5_digest 157 = .ok (.baload, 1) := by decide +kernel
theorem dX5_digest_158 : decode cX5_digest 158 = .ok (.ifCond .eq 29, 3) := by decide +kernel
theorem dX5_digest_161 : decode cX5_digest 161 = .ok (.ldc2_w 160, 3) := by decide +kernel
theorem dX5_digest_164 : decode cX5_digest 164 = .ok (.lload_n 1, 1) := by decide +kernel
theorem dX5_digest_165 : decode cX5_digest 165 = .ok (.lmul, 1) := by decide +kernel
theorem dX5_digest_166 : decode cX5_digest 166 = .ok (.aload_n 0, 1) := by decide +kernel
theorem dX5_digest_167 : decode cX5_digest 167 = .ok (.getfield 44, 3) := by decide +kernel
theorem dX5_digest_170 : decode cX5_digest 170 = .ok (.bipush 40, 2) := by decide +kernel
theorem dX5_digest_172 : decode cX5_digest 172 = .ok (.iload_n 3, 1) := by decide +kernel
theorem dX5_digest_173 : decode cX5_digest 173 = .ok (.imul, 1) := by decide +kernel
theorem dX5_digest_174 : decode cX5_digest 174 = .ok (.iload 4, 2) := by decide +kernel
theorem dX5_digest_176 : decode cX5_digest 176 = .ok (.iadd, 1) := by decide +kernel
theorem dX5_digest_177 : decode cX5_digest 177 = .ok (.iaload, 1) := by decide +kernel
theorem dX5_digest_178 : decode cX5_digest 178 = .ok (.i2l, 1) := by decide +kernel
theorem dX5_digest_179 : decode cX5_digest 179 = .ok (.ladd, 1) := by decide +kernel
theorem dX5_digest_180 : decode cX5_digest 180 = .ok (.lstore_n 1, 1) := by decide +kernel
theorem dX5_digest_181 : decode cX5_digest 181 = .ok (.iinc 4 1, 3) := by decide +kernel
theorem dX5_digest_184 : decode cX5_digest 184 = .ok (.goto (-39), 3) := by decide +kernel
theorem dX5_digest_187 : decode cX5_digest 187 = .ok (.iinc 3 1, 3) := by decide +kernel
theorem dX5_digest_190 : decode cX5_digest 190 = .ok (.goto (-71), 3) := by decide +kernel
theorem dX5_digest_193 : decode cX5_digest 193 = .ok (.lload_n 1, 1) := by decide +kernel
theorem dX5_digest_194 : decode cX5_digest 194 = .ok (.lreturn, 1) := by decide +kernel
theorem dJ6_bitCount_0f7a4_0 : decode cJ6_bitCount_0f7a4 0 = .ok (.iload_n 0, 1) := by decide +kernel
theorem dJ6_bitCount_0f7a4_1 : decode cJ6_bitCount_0f7a4 1 = .ok (.iload_n 0, 1) := by decide +kernel
theorem dJ6_bitCount_0f7a4_2 : decode cJ6_bitCount_0f7a4 2 = .ok (.iconst 1, 1) := by decide +kernel
theorem dJ6_bitCount_0f7a4_3 : decode cJ6_bitCount_0f7a4 3 = .ok (.iushr, 1) := by decide +kernel
theorem dJ6_bitCount_0f7a4_4 : decode cJ6_bitCount_0f7a4 4 = .ok (.ldc_w 265, 3) := by decide +kernel
theorem dJ6_bitCount_0f7a4_7 : decode cJ6_bitCount_0f7a4 7 = .ok (.iand, 1) := by decide +kernel
theorem dJ6_bitCount_0f7a4_8 : decode cJ6_bitCount_0f7a4 8 = .ok (.isub, 1) := by decide +kernel
theorem dJ6_bitCount_0f7a4_9 : decode cJ6_bitCount_0f7a4 9 = .ok (.istore_n 0, 1) := by decide +kernel
theorem dJ6_bitCount_0f7a4_10 : decode cJ6_bitCount_0f7a4 10 = .ok (.iload_n 0, 1) := by decide +kernel
theorem dJ6_bitCount_0f7a4_11 : decode cJ6_bitCount_0f7a4 11 = .ok (.ldc_w 266, 3) := by decide +kernel
theorem dJ6_bitCount_0f7a4_14 : decode cJ6_bitCount_0f7a4 14 = .ok (.iand, 1) := by decide +kernel
theorem dJ6_bitCount_0f7a4_15 : decode cJ6_bitCount_0f7a4 15 = .ok (.iload_n 0, 1) := by decide +kernel
theorem dJ6_bitCount_0f7a4_16 : decode cJ6_bitCount_0f7a4 16 = .ok (.iconst 2, 1) := by decide +kernel
theorem dJ6_bitCount_0f7a4_17 : decode cJ6_bitCount_0f7a4 17 = .ok (.iushr, 1) := by decide +kernel
theorem dJ6_bitCount_0f7a4_18 : decode cJ6_bitCount_0f7a4 18 = .ok (.ldc_w 266, 3) := by decide +kernel
theorem dJ6_bitCount_0f7a4_21 : decode cJ6_bitCount_0f7a4 21 = .ok (.iand, 1) := by decide +kernel
theorem dJ6_bitCount_0f7a4_22 : decode cJ6_bitCount_0f7a4 22 = .ok (.iadd, 1) := by decide +kernel
theorem dJ6_bitCount_0f7a4_23 : decode cJ6_bitCount_0f7a4 23 = .ok (.istore_n 0, 1) := by decide +kernel
theorem dJ6_bitCount_0f7a4_24 : decode cJ6_bitCount_0f7a4 24 = .ok (.iload_n 0, 1) := by decide +kernel
theorem dJ6_bitCount_0f7a4_25 : decode cJ6_bitCount_0f7a4 25 = .ok (.iload_n 0, 1) := by decide +kernel
theorem dJ6_bitCount_0f7a4_26 : decode cJ6_bitCount_0f7a4 26 = .ok (.iconst 4, 1) := by decide +kernel
theorem dJ6_bitCount_0f7a4_27 : decode cJ6_bitCount_0f7a4 27 = .ok (.iushr, 1) := by decide +kernel
theorem dJ6_bitCount_0f7a4_28 : decode cJ6_bitCount_0f7a4 28 = .ok (.iadd, 1) := by decide +kernel
theorem dJ6_bitCount_0f7a4_29 : decode cJ6_bitCount_0f7a4 29 = .ok (.ldc_w 267, 3) := by decide +kernel
theorem dJ6_bitCount_0f7a4_32 : decode cJ6_bitCount_0f7a4 32 = .ok (.iand, 1) := by decide +kernel
theorem dJ6_bitCount_0f7a4_33 : decode cJ6_bitCount_0f7a4 33 = .ok (.istore_n 0, 1) := by decide +kernel
theorem dJ6_bitCount_0f7a4_34 : decode cJ6_bitCount_0f7a4 34 = .ok (.iload_n 0, 1) := by decide +kernel
theorem dJ6_bitCount_0f7a4_35 : decode cJ6_bitCount_0f7a4 35 = .ok (.iload_n 0, 1) := by decide +kernel
theorem dJ6_bitCount_0f7a4_36 : decode cJ6_bitCount_0f7a4 36 = .ok (.bipush 8, 2) := by decide +kernel
theorem dJ6_bitCount_0f7a4_38 : decode cJ6_bitCount_0f7a4 38 = .ok (.iushr, 1) := by decide +kernel
theorem dJ6_bitCount_0f7a4_39 : decode cJ6_bitCount_0f7a4 39 = .ok (.iadd, 1) := by decide +kernel
theorem dJ6_bitCount_0f7a4_40 : decode cJ6_bitCount_0f7a4 40 = .ok (.istore_n 0, 1) := by decide +kernel
theorem dJ6_bitCount_0f7a4_41 : decode cJ6_bitCount_0f7a4 41 = .ok (.iload_n 0, 1) := by decide +kernel
theorem dJ6_bitCount_0f7a4_42 : decode cJ6_bitCount_0f7a4 42 = .ok (.iload_n 0, 1) := by decide +kernel
theorem dJ6_bitCount_0f7a4_43 : decode cJ6_bitCount_0f7a4 43 = .ok (.bipush 16, 2) := by decide +kernel
theorem dJ6_bitCount_0f7a4_45 : decode cJ6_bitCount_0f7a4 45 = .ok (.iushr, 1) := by decide +kernel
theorem dJ6_bitCount_0f7a4_46 : decode cJ6_bitCount_0f7a4 46 = .ok (.iadd, 1) := by decide +kernel
theorem dJ6_bitCount_0f7a4_47 : decode cJ6_bitCount_0f7a4 47 = .ok (.istore_n 0, 1) := by decide +kernel
theorem dJ6_bitCount_0f7a4_48 : decode cJ6_bitCount_0f7a4 48 = .ok (.iload_n 0, 1) := by decide +kernel
theorem dJ6_bitCount_0f7a4_49 : decode cJ6_bitCount_0f7a4 49 = .ok (.bipush 63, 2) := by decide +kernel
theorem dJ6_bitCount_0f7a4_51 : decode cJ6_bitCount_0f7a4 51 = .ok (.iand, 1) := by decide +kernel
theorem dJ6_bitCount_0f7a4_52 : decode cJ6_bitCount_0f7a4 52 = .ok (.ireturn, 1) := by decide +kernel
theorem dJ9_floorDiv_7cf53_0 : decode cJ9_floorDiv_7cf53 0 = .ok (.iload_n 0, 1) := by decide +kernel
theorem dJ9_floorDiv_7cf53_1 : decode cJ9_floorDiv_7cf53 1 = .ok (.iload_n 1, 1) := by decide +kernel
theorem dJ9_floorDiv_7cf53_2 : decode cJ9_floorDiv_7cf53 2 = .ok (.idiv, 1) := by decide +kernel
theorem dJ9_floorDiv_7cf53_3 : decode cJ9_floorDiv_7cf53 3 = .ok (.istore_n 2, 1) := by decide +kernel
theorem dJ9_floorDiv_7cf53_4 : decode cJ9_floorDiv_7cf53 4 = .ok (.iload_n 0, 1) := by decide +kernel
theorem dJ9_floorDiv_7cf53_5 : decode cJ9_floorDiv_7cf53 5 = .ok (.iload_n 1, 1) := by decide +kernel
theorem dJ9_floorDiv_7cf53_6 : decode cJ9_floorDiv_7cf53 6 = .ok (.ixor, 1) := by decide +kernel
theorem dJ9_floorDiv_7cf53_7 : decode cJ9_floorDiv_7cf53 7 = .ok (.ifCond .ge 14, 3) := by decide +kernel
theorem dJ9_floorDiv_7cf53_10 : decode cJ9_floorDiv_7cf53 10 = .ok (.iload_n 2, 1) := by decide +kernel
theorem dJ9_floorDiv_7cf53_11 : decode cJ9_floorDiv_7cf53 11 = .ok (.iload_n 1, 1) := by decide +kernel
theorem dJ9_floorDiv_7cf53_12 : decode cJ9_floorDiv_7cf53 12 = .ok (.imul, 1) := by decide +kernel
theorem dJ9_floorDiv_7cf53_13 : decode cJ9_floorDiv_7cf53 13 = .ok (.iload_n 0, 1) := by decide +kernel
theorem dJ9_floorDiv_7cf53_14 : decode cJ9_floorDiv_7cf53 14 = .ok (.if_icmp .eq 7, 3) := by decide +kernel
theorem dJ9_floorDiv_7cf53_17 : decode cJ9_floorDiv_7cf53 17 = .ok (.iload_n 2, 1) := by decide +kernel
theorem dJ9_floorDiv_7cf53_18 : decode cJ9_floorDiv_7cf53 18 = .ok (.iconst 1, 1) := by decide +kernel
theorem dJ9_floorDiv_7cf53_19 : decode cJ9_floorDiv_7cf53 19 = .ok (.isub, 1) := by decide +kernel
theorem dJ9_floorDiv_7cf53_20 : decode cJ9_floorDiv_7cf53 20 = .ok (.ireturn, 1) := by decide +kernel
theorem dJ9_floorDiv_7cf53_21 : decode cJ9_floorDiv_7cf53 21 = .ok (.iload_n 2, 1) := by decide +kernel
theorem dJ9_floorDiv_7cf53_22 : decode cJ9_floorDiv_7cf53 22 = .ok (.ireturn, 1) := by decide +kernel
theorem dJ9_abs_0f7a4_0 : decode cJ9_abs_0f7a4 0 = .ok (.iload_n 0, 1) := by decide +kernel
theorem dJ9_abs_0f7a4_1 : decode cJ9_abs_0f7a4 1 = .ok (.ifCond .ge 8, 3) := by decide +kernel
theorem dJ9_abs_0f7a4_4 : decode cJ9_abs_0f7a4 4 = .ok (.iload_n 0, 1) := by decide +kernel
theorem dJ9_abs_0f7a4_5 : decode cJ9_abs_0f7a4 5 = .ok (.ineg, 1) := by decide +kernel
theorem dJ9_abs_0f7a4_6 : decode cJ9_abs_0f7a4 6 = .ok (.goto 4, 3) := by decide +kernel
theorem dJ9_abs_0f7a4_9 : decode cJ9_abs_0f7a4 9 = .ok (.iload_n 0, 1) := by decide +kernel
theorem dJ9_abs_0f7a4_10 : decode cJ9_abs_0f7a4 10 = .ok (.ireturn, 1) := by decide +kernel
theorem dJ9_abs_067f4_0 : decode cJ9_abs_067f4 0 = .ok (.lload_n 0, 1) := by decide +kernel
theorem dJ9_abs_067f4_1 : decode cJ9_abs_067f4 1 = .ok (.lconst 0, 1) := by decide +kernel
theorem dJ9_abs_067f4_2 : decode cJ9_abs_067f4 2 = .ok (.lcmp, 1) := by decide +kernel
