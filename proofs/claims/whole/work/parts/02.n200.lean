theorem dX0_init_0 : decode cX0_init 0 = .ok (.aload_n 0, 1) := by decide +kernel
theorem dX0_init_1 : decode cX0_init 1 = .ok (.invokespecial 3, 3) := by decide +kernel
theorem dX0_init_4 : decode cX0_init 4 = .ok (.aload_n 0, 1) := by decide +kernel
theorem dX0_init_5 : decode cX0_init 5 = .ok (.bipush 6, 2) := by decide +kernel
theorem dX0_init_7 : decode cX0_init 7 = .ok (.bipush 40, 2) := by decide +kernel
theorem dX0_init_9 : decode cX0_init 9 = .ok (.multianewarray 9 2, 4) := by decide +kernel
theorem dX0_init_13 : decode cX0_init 13 = .ok (.putfield 11, 3) := by decide +kernel
theorem dX0_init_16 : decode cX0_init 16 = .ok (.aload_n 0, 1) := by decide +kernel
theorem dX0_init_17 : decode cX0_init 17 = .ok (.bipush 6, 2) := by decide +kernel
theorem dX0_init_19 : decode cX0_init 19 = .ok (.newarray .boolean, 2) := by decide +kernel
theorem dX0_init_21 : decode cX0_init 21 = .ok (.putfield 16, 3) := by decide +kernel
theorem dX0_init_24 : decode cX0_init 24 = .ok (.return_, 1) := by decide +kernel
theorem dX0_open_0 : decode cX0_open 0 = .ok (.aload_n 0, 1) := by decide +kernel
theorem dX0_open_1 : decode cX0_open 1 = .ok (.getfield 16, 3) := by decide +kernel
theorem dX0_open_4 : decode cX0_open 4 = .ok (.iload_n 1, 1) := by decide +kernel
theorem dX0_open_5 : decode cX0_open 5 = .ok (.baload, 1) := by decide +kernel
theorem dX0_open_6 : decode cX0_open 6 = .ok (.ifCond .eq 7, 3) := by decide +kernel
theorem dX0_open_9 : decode cX0_open 9 = .ok (.iconst 1, 1) := by decide +kernel
theorem dX0_open_10 : decode cX0_open 10 = .ok (.goto 4, 3) := by decide +kernel
theorem dX0_open_13 : decode cX0_open 13 = .ok (.iconst 0, 1) := by decide +kernel
theorem dX0_open_14 : decode cX0_open 14 = .ok (.istore_n 2, 1) := by decide +kernel
theorem dX0_open_15 : decode cX0_open 15 = .ok (.aload_n 0, 1) := by decide +kernel
theorem dX0_open_16 : decode cX0_open 16 = .ok (.getfield 16, 3) := by decide +kernel
theorem dX0_open_19 : decode cX0_open 19 = .ok (.iload_n 1, 1) := by decide +kernel
theorem dX0_open_20 : decode cX0_open 20 = .ok (.iconst 1, 1) := by decide +kernel
theorem dX0_open_21 : decode cX0_open 21 = .ok (.bastore, 1) := by decide +kernel
theorem dX0_open_22 : decode cX0_open 22 = .ok (.iload_n 2, 1) := by decide +kernel
theorem dX0_open_23 : decode cX0_open 23 = .ok (.ireturn, 1) := by decide +kernel
theorem dX0_howMany_0 : decode cX0_howMany 0 = .ok (.iconst 0, 1) := by decide +kernel
theorem dX0_howMany_1 : decode cX0_howMany 1 = .ok (.istore_n 1, 1) := by decide +kernel
theorem dX0_howMany_2 : decode cX0_howMany 2 = .ok (.iconst 0, 1) := by decide +kernel
theorem dX0_howMany_3 : decode cX0_howMany 3 = .ok (.istore_n 2, 1) := by decide +kernel
theorem dX0_howMany_4 : decode cX0_howMany 4 = .ok (.iload_n 2, 1) := by decide +kernel
theorem dX0_howMany_5 : decode cX0_howMany 5 = .ok (.bipush 6, 2) := by decide +kernel
theorem dX0_howMany_7 : decode cX0_howMany 7 = .ok (.if_icmp .ge 21, 3) := by decide +kernel
theorem dX0_howMany_10 : decode cX0_howMany 10 = .ok (.aload_n 0, 1) := by decide +kernel
theorem dX0_howMany_11 : decode cX0_howMany 11 = .ok (.getfield 16, 3) := by decide +kernel
theorem dX0_howMany_14 : decode cX0_howMany 14 = .ok (.iload_n 2, 1) := by decide +kernel
theorem dX0_howMany_15 : decode cX0_howMany 15 = .ok (.baload, 1) := by decide +kernel
theorem dX0_howMany_16 : decode cX0_howMany 16 = .ok (.ifCond .eq 6, 3) := by decide +kernel
theorem dX0_howMany_19 : decode cX0_howMany 19 = .ok (.iinc 1 1, 3) := by decide +kernel
theorem dX0_howMany_22 : decode cX0_howMany 22 = .ok (.iinc 2 1, 3) := by decide +kernel
theorem dX0_howMany_25 : decode cX0_howMany 25 = .ok (.goto (-21), 3) := by decide +kernel
theorem dX0_howMany_28 : decode cX0_howMany 28 = .ok (.iload_n 1, 1) := by decide +kernel
theorem dX0_howMany_29 : decode cX0_howMany 29 = .ok (.ireturn, 1) := by decide +kernel
theorem dX0_unbend_0 : decode cX0_unbend 0 = .ok (.aload_n 0, 1) := by decide +kernel
theorem dX0_unbend_1 : decode cX0_unbend 1 = .ok (.getfield 11, 3) := by decide +kernel
theorem dX0_unbend_4 : decode cX0_unbend 4 = .ok (.iload_n 1, 1) := by decide +kernel
theorem dX0_unbend_5 : decode cX0_unbend 5 = .ok (.aaload, 1) := by decide +kernel
theorem dX0_unbend_6 : decode cX0_unbend 6 = .ok (.astore 5, 2) := by decide +kernel
theorem dX0_unbend_8 : decode cX0_unbend 8 = .ok (.aload 5, 2) := by decide +kernel
theorem dX0_unbend_10 : decode cX0_unbend 10 = .ok (.iconst 1, 1) := by decide +kernel
theorem dX0_unbend_11 : decode cX0_unbend 11 = .ok (.iaload, 1) := by decide +kernel
theorem dX0_unbend_12 : decode cX0_unbend 12 = .ok (.istore 6, 2) := by decide +kernel
theorem dX0_unbend_14 : decode cX0_unbend 14 = .ok (.aload 5, 2) := by decide +kernel
theorem dX0_unbend_16 : decode cX0_unbend 16 = .ok (.iconst 0, 1) := by decide +kernel
theorem dX0_unbend_17 : decode cX0_unbend 17 = .ok (.iload_n 2, 1) := by decide +kernel
theorem dX0_unbend_18 : decode cX0_unbend 18 = .ok (.iastore, 1) := by decide +kernel
theorem dX0_unbend_19 : decode cX0_unbend 19 = .ok (.aload 5, 2) := by decide +kernel
theorem dX0_unbend_21 : decode cX0_unbend 21 = .ok (.iconst 1, 1) := by decide +kernel
theorem dX0_unbend_22 : decode cX0_unbend 22 = .ok (.iload_n 3, 1) := by decide +kernel
theorem dX0_unbend_23 : decode cX0_unbend 23 = .ok (.iastore, 1) := by decide +kernel
theorem dX0_unbend_24 : decode cX0_unbend 24 = .ok (.iconst 1, 1) := by decide +kernel
theorem dX0_unbend_25 : decode cX0_unbend 25 = .ok (.istore 7, 2) := by decide +kernel
theorem dX0_unbend_27 : decode cX0_unbend 27 = .ok (.iload 7, 2) := by decide +kernel
theorem dX0_unbend_29 : decode cX0_unbend 29 = .ok (.iload 4, 2) := by decide +kernel
theorem dX0_unbend_31 : decode cX0_unbend 31 = .ok (.iconst 2, 1) := by decide +kernel
theorem dX0_unbend_32 : decode cX0_unbend 32 = .ok (.isub, 1) := by decide +kernel
theorem dX0_unbend_33 : decode cX0_unbend 33 = .ok (.if_icmp .gt 47, 3) := by decide +kernel
theorem dX0_unbend_36 : decode cX0_unbend 36 = .ok (.aload 5, 2) := by decide +kernel
theorem dX0_unbend_38 : decode cX0_unbend 38 = .ok (.iload 7, 2) := by decide +kernel
theorem dX0_unbend_40 : decode cX0_unbend 40 = .ok (.iconst 1, 1) := by decide +kernel
theorem dX0_unbend_41 : decode cX0_unbend 41 = .ok (.iadd, 1) := by decide +kernel
theorem dX0_unbend_42 : decode cX0_unbend 42 = .ok (.iaload, 1) := by decide +kernel
theorem dX0_unbend_43 : decode cX0_unbend 43 = .ok (.istore 8, 2) := by decide +kernel
theorem dX0_unbend_45 : decode cX0_unbend 45 = .ok (.aload 5, 2) := by decide +kernel
theorem dX0_unbend_47 : decode cX0_unbend 47 = .ok (.iload 7, 2) := by decide +kernel
theorem dX0_unbend_49 : decode cX0_unbend 49 = .ok (.iconst 1, 1) := by decide +kernel
theorem dX0_unbend_50 : decode cX0_unbend 50 = .ok (.iadd, 1) := by decide +kernel
theorem dX0_unbend_51 : decode cX0_unbend 51 = .ok (.iconst 2, 1) := by decide +kernel
theorem dX0_unbend_52 : decode cX0_unbend 52 = .ok (.aload 5, 2) := by decide +kernel
theorem dX0_unbend_54 : decode cX0_unbend 54 = .ok (.iload 7, 2) := by decide +kernel
theorem dX0_unbend_56 : decode cX0_unbend 56 = .ok (.iaload, 1) := by decide +kernel
theorem dX0_unbend_57 : decode cX0_unbend 57 = .ok (.imul, 1) := by decide +kernel
theorem dX0_unbend_58 : decode cX0_unbend 58 = .ok (.aload 5, 2) := by decide +kernel
theorem dX0_unbend_60 : decode cX0_unbend 60 = .ok (.iload 7, 2) := by decide +kernel
theorem dX0_unbend_62 : decode cX0_unbend 62 = .ok (.iconst 1, 1) := by decide +kernel
theorem dX0_unbend_63 : decode cX0_unbend 63 = .ok (.isub, 1) := by decide +kernel
theorem dX0_unbend_64 : decode cX0_unbend 64 = .ok (.iaload, 1) := by decide +kernel
theorem dX0_unbend_65 : decode cX0_unbend 65 = .ok (.isub, 1) := by decide +kernel
theorem dX0_unbend_66 : decode cX0_unbend 66 = .ok (.iload 6, 2) := by decide +kernel
theorem dX0_unbend_68 : decode cX0_unbend 68 = .ok (.isub, 1) := by decide +kernel
theorem dX0_unbend_69 : decode cX0_unbend 69 = .ok (.iastore, 1) := by decide +kernel
theorem dX0_unbend_70 : decode cX0_unbend 70 = .ok (.iload 8, 2) := by decide +kernel
theorem dX0_unbend_72 : decode cX0_unbend 72 = .ok (.istore 6, 2) := by decide +kernel
theorem dX0_unbend_74 : decode cX0_unbend 74 = .ok (.iinc 7 1, 3) := by decide +kernel
theorem dX0_unbend_77 : decode cX0_unbend 77 = .ok (.goto (-50), 3) := by decide +kernel
theorem dX0_unbend_80 : decode cX0_unbend 80 = .ok (.iload 4, 2) := by decide +kernel
theorem dX0_unbend_82 : decode cX0_unbend 82 = .ok (.istore 7, 2) := by decide +kernel
theorem dX0_unbend_84 : decode cX0_unbend 84 = .ok (.iload 7, 2) := by decide +kernel
theorem dX0_unbend_86 : decode cX0_unbend 86 = .ok (.bipush 40, 2) := by decide +kernel
theorem dX0_unbend_88 : decode cX0_unbend 88 = .ok (.if_icmp .ge 15, 3) := by decide +kernel
theorem dX0_unbend_91 : decode cX0_unbend 91 = .ok (.aload 5, 2) := by decide +kernel
theorem dX0_unbend_93 : decode cX0_unbend 93 = .ok (.iload 7, 2) := by decide +kernel
theorem dX0_unbend_95 : decode cX0_unbend 95 = .ok (.iconst 0, 1) := by decide +kernel
theorem dX0_unbend_96 : decode cX0_unbend 96 = .ok (.iastore, 1) := by decide +kernel
theorem dX0_unbend_97 : decode cX0_unbend 97 = .ok (.iinc 7 1, 3) := by decide +kernel
theorem dX0_unbend_100 : decode cX0_unbend 100 = .ok (.goto (-16), 3) := by decide +kernel
theorem dX0_unbend_103 : decode cX0_unbend 103 = .ok (.return_, 1) := by decide +kernel
theorem dX0_bestShift_0 : decode cX0_bestShift 0 = .ok (.iconst 0, 1) := by decide +kernel
theorem dX0_bestShift_1 : decode cX0_bestShift 1 = .ok (.istore 4, 2) := by decide +kernel
theorem dX0_bestShift_3 : decode cX0_bestShift 3 = .ok (.aload_n 0, 1) := by decide +kernel
theorem dX0_bestShift_4 : decode cX0_bestShift 4 = .ok (.iload_n 1, 1) := by decide +kernel
theorem dX0_bestShift_5 : decode cX0_bestShift 5 = .ok (.iload_n 2, 1) := by decide +kernel
theorem dX0_bestShift_6 : decode cX0_bestShift 6 = .ok (.iconst 0, 1) := by decide +kernel
theorem dX0_bestShift_7 : decode cX0_bestShift 7 = .ok (.iload_n 3, 1) := by decide +kernel
theorem dX0_bestShift_8 : decode cX0_bestShift 8 = .ok (.invokevirtual 20, 3) := by decide +kernel
theorem dX0_bestShift_11 : decode cX0_bestShift 11 = .ok (.lstore 5, 2) := by decide +kernel
theorem dX0_bestShift_13 : decode cX0_bestShift 13 = .ok (.iconst 1, 1) := by decide +kernel
theorem dX0_bestShift_14 : decode cX0_bestShift 14 = .ok (.istore 7, 2) := by decide +kernel
theorem dX0_bestShift_16 : decode cX0_bestShift 16 = .ok (.iload 7, 2) := by decide +kernel
theorem dX0_bestShift_18 : decode cX0_bestShift 18 = .ok (.iconst 5, 1) := by decide +kernel
theorem dX0_bestShift_19 : decode cX0_bestShift 19 = .ok (.if_icmp .gt 60, 3) := by decide +kernel
theorem dX0_bestShift_22 : decode cX0_bestShift 22 = .ok (.iload 7, 2) := by decide +kernel
theorem dX0_bestShift_24 : decode cX0_bestShift 24 = .ok (.ineg, 1) := by decide +kernel
theorem dX0_bestShift_25 : decode cX0_bestShift 25 = .ok (.istore 8, 2) := by decide +kernel
theorem dX0_bestShift_27 : decode cX0_bestShift 27 = .ok (.iload 8, 2) := by decide +kernel
theorem dX0_bestShift_29 : decode cX0_bestShift 29 = .ok (.iload 7, 2) := by decide +kernel
theorem dX0_bestShift_31 : decode cX0_bestShift 31 = .ok (.if_icmp .gt 42, 3) := by decide +kernel
theorem dX0_bestShift_34 : decode cX0_bestShift 34 = .ok (.aload_n 0, 1) := by decide +kernel
theorem dX0_bestShift_35 : decode cX0_bestShift 35 = .ok (.iload_n 1, 1) := by decide +kernel
theorem dX0_bestShift_36 : decode cX0_bestShift 36 = .ok (.iload_n 2, 1) := by decide +kernel
theorem dX0_bestShift_37 : decode cX0_bestShift 37 = .ok (.iload 8, 2) := by decide +kernel
theorem dX0_bestShift_39 : decode cX0_bestShift 39 = .ok (.iload_n 3, 1) := by decide +kernel
theorem dX0_bestShift_40 : decode cX0_bestShift 40 = .ok (.invokevirtual 20, 3) := by decide +kernel
theorem dX0_bestShift_43 : decode cX0_bestShift 43 = .ok (.lstore 9, 2) := by decide +kernel
theorem dX0_bestShift_45 : decode cX0_bestShift 45 = .ok (.lload 9, 2) := by decide +kernel
theorem dX0_bestShift_47 : decode cX0_bestShift 47 = .ok (.lload 5, 2) := by decide +kernel
theorem dX0_bestShift_49 : decode cX0_bestShift 49 = .ok (.lcmp, 1) := by decide +kernel
theorem dX0_bestShift_50 : decode cX0_bestShift 50 = .ok (.ifCond .ge 11, 3) := by decide +kernel
theorem dX0_bestShift_53 : decode cX0_bestShift 53 = .ok (.iload 8, 2) := by decide +kernel
theorem dX0_bestShift_55 : decode cX0_bestShift 55 = .ok (.istore 4, 2) := by decide +kernel
theorem dX0_bestShift_57 : decode cX0_bestShift 57 = .ok (.lload 9, 2) := by decide +kernel
theorem dX0_bestShift_59 : decode cX0_bestShift 59 = .ok (.lstore 5, 2) := by decide +kernel
theorem dX0_bestShift_61 : decode cX0_bestShift 61 = .ok (.iload 8, 2) := by decide +kernel
theorem dX0_bestShift_63 : decode cX0_bestShift 63 = .ok (.iconst 2, 1) := by decide +kernel
theorem dX0_bestShift_64 : decode cX0_bestShift 64 = .ok (.iload 7, 2) := by decide +kernel
theorem dX0_bestShift_66 : decode cX0_bestShift 66 = .ok (.imul, 1) := by decide +kernel
theorem dX0_bestShift_67 : decode cX0_bestShift 67 = .ok (.iadd, 1) := by decide +kernel
theorem dX0_bestShift_68 : decode cX0_bestShift 68 = .ok (.istore 8, 2) := by decide +kernel
theorem dX0_bestShift_70 : decode cX0_bestShift 70 = .ok (.goto (-43), 3) := by decide +kernel
theorem dX0_bestShift_73 : decode cX0_bestShift 73 = .ok (.iinc 7 1, 3) := by decide +kernel
theorem dX0_bestShift_76 : decode cX0_bestShift 76 = .ok (.goto (-60), 3) := by decide +kernel
theorem dX0_bestShift_79 : decode cX0_bestShift 79 = .ok (.iload 4, 2) := by decide +kernel
theorem dX0_bestShift_81 : decode cX0_bestShift 81 = .ok (.ireturn, 1) := by decide +kernel
theorem dX0_squaresApart_0 : decode cX0_squaresApart 0 = .ok (.lconst 0, 1) := by decide +kernel
theorem dX0_squaresApart_1 : decode cX0_squaresApart 1 = .ok (.lstore 5, 2) := by decide +kernel
theorem dX0_squaresApart_3 : decode cX0_squaresApart 3 = .ok (.iconst 5, 1) := by decide +kernel
theorem dX0_squaresApart_4 : decode cX0_squaresApart 4 = .ok (.istore 7, 2) := by decide +kernel
theorem dX0_squaresApart_6 : decode cX0_squaresApart 6 = .ok (.iload 7, 2) := by decide +kernel
theorem dX0_squaresApart_8 : decode cX0_squaresApart 8 = .ok (.iload 4, 2) := by decide +kernel
theorem dX0_squaresApart_10 : decode cX0_squaresApart 10 = .ok (.iconst 5, 1) := by decide +kernel
theorem dX0_squaresApart_11 : decode cX0_squaresApart 11 = .ok (.isub, 1) := by decide +kernel
theorem dX0_squaresApart_12 : decode cX0_squaresApart 12 = .ok (.if_icmp .ge 44, 3) := by decide +kernel
theorem dX0_squaresApart_15 : decode cX0_squaresApart 15 = .ok (.aload_n 0, 1) := by decide +kernel
theorem dX0_squaresApart_16 : decode cX0_squaresApart 16 = .ok (.getfield 11, 3) := by decide +kernel
theorem dX0_squaresApart_19 : decode cX0_squaresApart 19 = .ok (.iload_n 1, 1) := by decide +kernel
theorem dX0_squaresApart_20 : decode cX0_squaresApart 20 = .ok (.aaload, 1) := by decide +kernel
theorem dX0_squaresApart_21 : decode cX0_squaresApart 21 = .ok (.iload 7, 2) := by decide +kernel
theorem dX0_squaresApart_23 : decode cX0_squaresApart 23 = .ok (.iaload, 1) := by decide +kernel
theorem dX0_squaresApart_24 : decode cX0_squaresApart 24 = .ok (.i2l, 1) := by decide +kernel
theorem dX0_squaresApart_25 : decode cX0_squaresApart 25 = .ok (.aload_n 0, 1) := by decide +kernel
theorem dX0_squaresApart_26 : decode cX0_squaresApart 26 = .ok (.getfield 11, 3) := by decide +kernel
theorem dX0_squaresApart_29 : decode cX0_squaresApart 29 = .ok (.iload_n 2, 1) := by decide +kernel
theorem dX0_squaresApart_30 : decode cX0_squaresApart 30 = .ok (.aaload, 1) := by decide +kernel
theorem dX0_squaresApart_31 : decode cX0_squaresApart 31 = .ok (.iload 7, 2) := by decide +kernel
theorem dX0_squaresApart_33 : decode cX0_squaresApart 33 = .ok (.iload_n 3, 1) := by decide +kernel
theorem dX0_squaresApart_34 : decode cX0_squaresApart 34 = .ok (.iadd, 1) := by decide +kernel
theorem dX0_squaresApart_35 : decode cX0_squaresApart 35 = .ok (.iaload, 1) := by decide +kernel
theorem dX0_squaresApart_36 : decode cX0_squaresApart 36 = .ok (.i2l, 1) := by decide +kernel
theorem dX0_squaresApart_37 : decode cX0_squaresApart 37 = .ok (.lsub, 1) := by decide +kernel
theorem dX0_squaresApart_38 : decode cX0_squaresApart 38 = .ok (.lstore 8, 2) := by decide +kernel
theorem dX0_squaresApart_40 : decode cX0_squaresApart 40 = .ok (.lload 5, 2) := by decide +kernel
theorem dX0_squaresApart_42 : decode cX0_squaresApart 42 = .ok (.lload 8, 2) := by decide +kernel
theorem dX0_squaresApart_44 : decode cX0_squaresApart 44 = .ok (.lload 8, 2) := by decide +kernel
theorem dX0_squaresApart_46 : decode cX0_squaresApart 46 = .ok (.lmul, 1) := by decide +kernel
theorem dX0_squaresApart_47 : decode cX0_squaresApart 47 = .ok (.ladd, 1) := by decide +kernel
theorem dX0_squaresApart_48 : decode cX0_squaresApart 48 = .ok (.lstore 5, 2) := by decide +kernel
theorem dX0_squaresApart_50 : decode cX0_squaresApart 50 = .ok (.iinc 7 1, 3) := by decide +kernel
theorem dX0_squaresApart_53 : decode cX0_squaresApart 53 = .ok (.goto (-47), 3) := by decide +kernel
theorem dX0_squaresApart_56 : decode cX0_squaresApart 56 = .ok (.lload 5, 2) := by decide +kernel
theorem dX0_squaresApart_58 : decode cX0_squaresApart 58 = .ok (.lreturn, 1) := by decide +kernel
theorem dX0_steepest_0 : decode cX0_steepest 0 = .ok (.iconst 0, 1) := by decide +kernel
theorem dX0_steepest_1 : decode cX0_steepest 1 = .ok (.istore_n 3, 1) := by decide +kernel
theorem dX0_steepest_2 : decode cX0_steepest 2 = .ok (.iconst 1, 1) := by decide +kernel
theorem dX0_steepest_3 : decode cX0_steepest 3 = .ok (.istore 4, 2) := by decide +kernel
theorem dX0_steepest_5 : decode cX0_steepest 5 = .ok (.iload 4, 2) := by decide +kernel
theorem dX0_steepest_7 : decode cX0_steepest 7 = .ok (.iload_n 2, 1) := by decide +kernel
theorem dX0_steepest_8 : decode cX0_steepest 8 = .ok (.iconst 1, 1) := by decide +kernel
theorem dX0_steepest_9 : decode cX0_steepest 9 = .ok (.isub, 1) := by decide +kernel
theorem dX0_steepest_10 : decode cX0_steepest 10 = .ok (.if_icmp .ge 29, 3) := by decide +kernel
theorem dX0_steepest_13 : decode cX0_steepest 13 = .ok (.aload_n 0, 1) := by decide +kernel
theorem dX0_steepest_14 : decode cX0_steepest 14 = .ok (.iload_n 1, 1) := by decide +kernel
theorem dX0_steepest_15 : decode cX0_steepest 15 = .ok (.iload 4, 2) := by decide +kernel
theorem dX0_steepest_17 : decode cX0_steepest 17 = .ok (.invokevirtual 24, 3) := by decide +kernel
theorem dX0_steepest_20 : decode cX0_steepest 20 = .ok (.aload_n 0, 1) := by decide +kernel
theorem dX0_steepest_21 : decode cX0_steepest 21 = .ok (.iload_n 1, 1) := by decide +kernel
theorem dX0_steepest_22 : decode cX0_steepest 22 = .ok (.iload_n 3, 1) := by decide +kernel
theorem dX0_steepest_23 : decode cX0_steepest 23 = .ok (.invokevirtual 24, 3) := by decide +kernel
theorem dX0_steepest_26 : decode cX0_steepest 26 = .ok (.lcmp, 1) := by decide +kernel
theorem dX0_steepest_27 : decode cX0_steepest 27 = .ok (.ifCond .le 6, 3) := by decide +kernel
theorem dX0_steepest_30 : decode cX0_steepest 30 = .ok (.iload 4, 2) := by decide +kernel
theorem dX0_steepest_32 : decode cX0_steepest 32 = .ok (.istore_n 3, 1) := by decide +kernel
theorem dX0_steepest_33 : decode cX0_steepest 33 = .ok (.iinc 4 1, 3) := by decide +kernel
theorem dX0_steepest_36 : decode cX0_steepest 36 = .ok (.goto (-31), 3) := by decide +kernel
theorem dX0_steepest_39 : decode cX0_steepest 39 = .ok (.iload_n 3, 1) := by decide +kernel
theorem dX0_steepest_40 : decode cX0_steepest 40 = .ok (.ireturn, 1) := by decide +kernel
theorem dX0_stepAfter_0 : decode cX0_stepAfter 0 = .ok (.aload_n 0, 1) := by decide +kernel
theorem dX0_stepAfter_1 : decode cX0_stepAfter 1 = .ok (.getfield 11, 3) := by decide +kernel
theorem dX0_stepAfter_4 : decode cX0_stepAfter 4 = .ok (.iload_n 1, 1) := by decide +kernel
theorem dX0_stepAfter_5 : decode cX0_stepAfter 5 = .ok (.aaload, 1) := by decide +kernel
theorem dX0_stepAfter_6 : decode cX0_stepAfter 6 = .ok (.iload_n 2, 1) := by decide +kernel
theorem dX0_stepAfter_7 : decode cX0_stepAfter 7 = .ok (.iaload, 1) := by decide +kernel
theorem dX0_stepAfter_8 : decode cX0_stepAfter 8 = .ok (.i2l, 1) := by decide +kernel
theorem dX0_stepAfter_9 : decode cX0_stepAfter 9 = .ok (.aload_n 0, 1) := by decide +kernel
theorem dX0_stepAfter_10 : decode cX0_stepAfter 10 = .ok (.getfield 11, 3) := by decide +kernel
theorem dX0_stepAfter_13 : decode cX0_stepAfter 13 = .ok (.iload_n 1, 1) := by decide +kernel
theorem dX0_stepAfter_14 : decode cX0_stepAfter 14 = .ok (.aaload, 1) := by decide +kernel
theorem dX0_stepAfter_15 : decode cX0_stepAfter 15 = .ok (.iload_n 2, 1) := by decide +kernel
theorem dX0_stepAfter_16 : decode cX0_stepAfter 16 = .ok (.iconst 1, 1) := by decide +kernel
theorem dX0_stepAfter_17 : decode cX0_stepAfter 17 = .ok (.iadd, 1) := by decide +kernel
theorem dX0_stepAfter_18 : decode cX0_stepAfter 18 = .ok (.iaload, 1) := by decide +kernel
theorem dX0_stepAfter_19 : decode cX0_stepAfter 19 = .ok (.i2l, 1) := by decide +kernel
theorem dX0_stepAfter_20 : decode cX0_stepAfter 20 = .ok (.lsub, 1) := by decide +kernel
theorem dX0_stepAfter_21 : decode cX0_stepAfter 21 = .ok (.invokestatic 28, 3) := by decide +kernel
theorem dX0_stepAfter_24 : decode cX0_stepAfter 24 = .ok (.lreturn, 1) := by decide +kernel
theorem dX0_digestOn_0 : decode cX0_digestOn 0 = .ok (.aload_n 0, 1) := by decide +kernel
theorem dX0_digestOn_1 : decode cX0_digestOn 1 = .ok (.getfield 16, 3) := by decide +kernel
theorem dX0_digestOn_4 : decode cX0_digestOn 4 = .ok (.iload_n 3, 1) := by decide +kernel
theorem dX0_digestOn_5 : decode cX0_digestOn 5 = .ok (.baload, 1) := by decide +kernel
theorem dX0_digestOn_6 : decode cX0_digestOn 6 = .ok (.ifCond .ne 11, 3) := by decide +kernel
theorem dX0_digestOn_9 : decode cX0_digestOn 9 = .ok (.ldc2_w 34, 3) := by decide +kernel
theorem dX0_digestOn_12 : decode cX0_digestOn 12 = .ok (.lload_n 1, 1) := by decide +kernel
theorem dX0_digestOn_13 : decode cX0_digestOn 13 = .ok (.lmul, 1) := by decide +kernel
theorem dX0_digestOn_14 : decode cX0_digestOn 14 = .ok (.lconst 1, 1) := by decide +kernel
theorem dX0_digestOn_15 : decode cX0_digestOn 15 = .ok (.lsub, 1) := by decide +kernel
theorem dX0_digestOn_16 : decode cX0_digestOn 16 = .ok (.lreturn, 1) := by decide +kernel
theorem dX0_digestOn_17 : decode cX0_digestOn 17 = .ok (.lload_n 1, 1) := by decide +kernel
theorem dX0_digestOn_18 : decode cX0_digestOn 18 = .ok (.lstore 4, 2) := by decide +kernel
theorem dX0_digestOn_20 : decode cX0_digestOn 20 = .ok (.iconst 0, 1) := by decide +kernel
theorem dX0_digestOn_21 : decode cX0_digestOn 21 = .ok (.istore 6, 2) := by decide +kernel
theorem dX0_digestOn_23 : decode cX0_digestOn 23 = .ok (.iload 6, 2) := by decide +kernel
theorem dX0_digestOn_25 : decode cX0_digestOn 25 = .ok (.bipush 40, 2) := by decide +kernel
theorem dX0_digestOn_27 : decode cX0_digestOn 27 = .ok (.if_icmp .ge 28, 3) := by decide +kernel
theorem dX0_digestOn_30 : decode cX0_digestOn 30 = .ok (.ldc2_w 34, 3) := by decide +kernel
theorem dX0_digestOn_33 : decode cX0_digestOn 33 = .ok (.lload 4, 2) := by decide +kernel
theorem dX0_digestOn_35 : decode cX0_digestOn 35 = .ok (.lmul, 1) := by decide +kernel
theorem dX0_digestOn_36 : decode cX0_digestOn 36 = .ok (.aload_n 0, 1) := by decide +kernel
theorem dX0_digestOn_37 : decode cX0_digestOn 37 = .ok (.getfield 11, 3) := by decide +kernel
theorem dX0_digestOn_40 : decode cX0_digestOn 40 = .ok (.iload_n 3, 1) := by decide +kernel
theorem dX0_digestOn_41 : decode cX0_digestOn 41 = .ok (.aaload, 1) := by decide +kernel
theorem dX0_digestOn_42 : decode cX0_digestOn 42 = .ok (.iload 6, 2) := by decide +kernel
theorem dX0_digestOn_44 : decode cX0_digestOn 44 = .ok (.iaload, 1) := by decide +kernel
theorem dX0_digestOn_45 : decode cX0_digestOn 45 = .ok (.i2l, 1) := by decide +kernel
theorem dX0_digestOn_46 : decode cX0_digestOn 46 = .ok (.ladd, 1) := by decide +kernel
theorem dX0_digestOn_47 : decode cX0_digestOn 47 = .ok (.lstore 4, 2) := by decide +kernel
theorem dX0_digestOn_49 : decode cX0_digestOn 49 = .ok (.iinc 6 1, 3) := by decide +kernel
theorem dX0_digestOn_52 : decode cX0_digestOn 52 = .ok (.goto (-29), 3) := by decide +kernel
theorem dX0_digestOn_55 : decode cX0_digestOn 55 = .ok (.lload 4, 2) := by decide +kernel
theorem dX0_digestOn_57 : decode cX0_digestOn 57 = .ok (.lreturn, 1) := by decide +kernel
theorem dX1_init_0 : decode cX1_init 0 = .ok (.aload_n 0, 1) := by decide +kernel
theorem dX1_init_1 : decode cX1_init 1 = .ok (.invokespecial 3, 3) := by decide +kernel
theorem dX1_init_4 : decode cX1_init 4 = .ok (.aload_n 0, 1) := by decide +kernel
theorem dX1_init_5 : decode cX1_init 5 = .ok (.bipush 40, 2) := by decide +kernel
theorem dX1_init_7 : decode cX1_init 7 = .ok (.newarray .int, 2) := by decide +kernel
theorem dX1_init_9 : decode cX1_init 9 = .ok (.putfield 9, 3) := by decide +kernel
theorem dX1_init_12 : decode cX1_init 12 = .ok (.aload_n 0, 1) := by decide +kernel
theorem dX1_init_13 : decode cX1_init 13 = .ok (.bipush 40, 2) := by decide +kernel
theorem dX1_init_15 : decode cX1_init 15 = .ok (.newarray .int, 2) := by decide +kernel
theorem dX1_init_17 : decode cX1_init 17 = .ok (.putfield 15, 3) := by decide +kernel
theorem dX1_init_20 : decode cX1_init 20 = .ok (.aload_n 0, 1) := by decide +kernel
theorem dX1_init_21 : decode cX1_init 21 = .ok (.bipush 40, 2) := by decide +kernel
theorem dX1_init_23 : decode cX1_init 23 = .ok (.newarray .int, 2) := by decide +kernel
theorem dX1_init_25 : decode cX1_init 25 = .ok (.putfield 18, 3) := by decide +kernel
theorem dX1_init_28 : decode cX1_init 28 = .ok (.aload_n 0, 1) := by decide +kernel
theorem dX1_init_29 : decode cX1_init 29 = .ok (.bipush 40, 2) := by decide +kernel
theorem dX1_init_31 : decode cX1_init 31 = .ok (.newarray .int, 2) := by decide +kernel
theorem dX1_init_33 : decode cX1_init 33 = .ok (.putfield 21, 3) := by decide +kernel
theorem dX1_init_36 : decode cX1_init 36 = .ok (.aload_n 0, 1) := by decide +kernel
theorem dX1_init_37 : decode cX1_init 37 = .ok (.bipush 40, 2) := by decide +kernel
theorem dX1_init_39 : decode cX1_init 39 = .ok (.newarray .int, 2) := by decide +kernel
theorem dX1_init_41 : decode cX1_init 41 = .ok (.putfield 24, 3) := by decide +kernel
theorem dX1_init_44 : decode cX1_init 44 = .ok (.aload_n 0, 1) := by decide +kernel
theorem dX1_init_45 : decode cX1_init 45 = .ok (.bipush 40, 2) := by decide +kernel
theorem dX1_init_47 : decode cX1_init 47 = .ok (.newarray .boolean, 2) := by decide +kernel
theorem dX1_init_49 : decode cX1_init 49 = .ok (.putfield 27, 3) := by decide +kernel
theorem dX1_init_52 : decode cX1_init 52 = .ok (.aload_n 0, 1) := by decide +kernel
theorem dX1_init_53 : decode cX1_init 53 = .ok (.bipush 40, 2) := by decide +kernel
theorem dX1_init_55 : decode cX1_init 55 = .ok (.newarray .int, 2) := by decide +kernel
theorem dX1_init_57 : decode cX1_init 57 = .ok (.putfield 31, 3) := by decide +kernel
theorem dX1_init_60 : decode cX1_init 60 = .ok (.aload_n 0, 1) := by decide +kernel
theorem dX1_init_61 : decode cX1_init 61 = .ok (.bipush 10, 2) := by decide +kernel
theorem dX1_init_63 : decode cX1_init 63 = .ok (.invokevirtual 34, 3) := by decide +kernel
theorem dX1_init_66 : decode cX1_init 66 = .ok (.return_, 1) := by decide +kernel
theorem dX1_renew_0 : decode cX1_renew 0 = .ok (.aload_n 0, 1) := by decide +kernel
theorem dX1_renew_1 : decode cX1_renew 1 = .ok (.iload_n 1, 1) := by decide +kernel
theorem dX1_renew_2 : decode cX1_renew 2 = .ok (.putfield 38, 3) := by decide +kernel
theorem dX1_renew_5 : decode cX1_renew 5 = .ok (.iconst 0, 1) := by decide +kernel
theorem dX1_renew_6 : decode cX1_renew 6 = .ok (.istore_n 2, 1) := by decide +kernel
theorem dX1_renew_7 : decode cX1_renew 7 = .ok (.iload_n 2, 1) := by decide +kernel
theorem dX1_renew_8 : decode cX1_renew 8 = .ok (.bipush 40, 2) := by decide +kernel
theorem dX1_renew_10 : decode cX1_renew 10 = .ok (.if_icmp .ge 58, 3) := by decide +kernel
theorem dX1_renew_13 : decode cX1_renew 13 = .ok (.aload_n 0, 1) := by decide +kernel
theorem dX1_renew_14 : decode cX1_renew 14 = .ok (.getfield 9, 3) := by decide +kernel
theorem dX1_renew_17 : decode cX1_renew 17 = .ok (.iload_n 2, 1) := by decide +kernel
theorem dX1_renew_18 : decode cX1_renew 18 = .ok (.iconst 0, 1) := by decide +kernel
theorem dX1_renew_19 : decode cX1_renew 19 = .ok (.iastore, 1) := by decide +kernel
theorem dX1_renew_20 : decode cX1_renew 20 = .ok (.aload_n 0, 1) := by decide +kernel
theorem dX1_renew_21 : decode cX1_renew 21 = .ok (.getfield 15, 3) := by decide +kernel
theorem dX1_renew_24 : decode cX1_renew 24 = .ok (.iload_n 2, 1) := by decide +kernel
theorem dX1_renew_25 : decode cX1_renew 25 = .ok (.iconst 0, 1) := by decide +kernel
theorem dX1_renew_26 : decode cX1_renew 26 = .ok (.iastore, 1) := by decide +kernel
theorem dX1_renew_27 : decode cX1_renew 27 = .ok (.aload_n 0, 1) := by decide +kernel
theorem dX1_renew_28 : decode cX1_renew 28 = .ok (.getfield 18, 3) := by decide +kernel
theorem dX1_renew_31 : decode cX1_renew 31 = .ok (.iload_n 2, 1) := by decide +kernel
theorem dX1_renew_32 : decode cX1_renew 32 = .ok (.iconst 5, 1) := by decide +kernel
theorem dX1_renew_33 : decode cX1_renew 33 = .ok (.iastore, 1) := by decide +kernel
theorem dX1_renew_34 : decode cX1_renew 34 = .ok (.aload_n 0, 1) := by decide +kernel
theorem dX1_renew_35 : decode cX1_renew 35 = .ok (.getfield 21, 3) := by decide +kernel
theorem dX1_renew_38 : decode cX1_renew 38 = .ok (.iload_n 2, 1) := by decide +kernel
theorem dX1_renew_39 : decode cX1_renew 39 = .ok (.iconst 0, 1) := by decide +kernel
theorem dX1_renew_40 : decode cX1_renew 40 = .ok (.iastore, 1) := by decide +kernel
theorem dX1_renew_41 : decode cX1_renew 41 = .ok (.aload_n 0, 1) := by decide +kernel
theorem dX1_renew_42 : decode cX1_renew 42 = .ok (.getfield 24, 3) := by decide +kernel
theorem dX1_renew_45 : decode cX1_renew 45 = .ok (.iload_n 2, 1) := by decide +kernel
theorem dX1_renew_46 : decode cX1_renew 46 = .ok (.iconst 0, 1) := by decide +kernel
theorem dX1_renew_47 : decode cX1_renew 47 = .ok (.iastore, 1) := by decide +kernel
theorem dX1_renew_48 : decode cX1_renew 48 = .ok (.aload_n 0, 1) := by decide +kernel
theorem dX1_renew_49 : decode cX1_renew 49 = .ok (.getfield 27, 3) := by decide +kernel
theorem dX1_renew_52 : decode cX1_renew 52 = .ok (.iload_n 2, 1) := by decide +kernel
theorem dX1_renew_53 : decode cX1_renew 53 = .ok (.iconst 0, 1) := by decide +kernel
theorem dX1_renew_54 : decode cX1_renew 54 = .ok (.bastore, 1) := by decide +kernel
theorem dX1_renew_55 : decode cX1_renew 55 = .ok (.aload_n 0, 1) := by decide +kernel
theorem dX1_renew_56 : decode cX1_renew 56 = .ok (.getfield 31, 3) := by decide +kernel
theorem dX1_renew_59 : decode cX1_renew 59 = .ok (.iload_n 2, 1) := by decide +kernel
theorem dX1_renew_60 : decode cX1_renew 60 = .ok (.iconst 0, 1) := by decide +kernel
theorem dX1_renew_61 : decode cX1_renew 61 = .ok (.iastore, 1) := by decide +kernel
theorem dX1_renew_62 : decode cX1_renew 62 = .ok (.iinc 2 1, 3) := by decide +kernel
theorem dX1_renew_65 : decode cX1_renew 65 = .ok (.goto (-58), 3) := by decide +kernel
theorem dX1_renew_68 : decode cX1_renew 68 = .ok (.return_, 1) := by decide +kernel
theorem dX1_has_0 : decode cX1_has 0 = .ok (.iload_n 1, 1) := by decide +kernel
theorem dX1_has_1 : decode cX1_has 1 = .ok (.ifCond .lt 15, 3) := by decide +kernel
theorem dX1_has_4 : decode cX1_has 4 = .ok (.iload_n 1, 1) := by decide +kernel
theorem dX1_has_5 : decode cX1_has 5 = .ok (.aload_n 0, 1) := by decide +kernel
theorem dX1_has_6 : decode cX1_has 6 = .ok (.getfield 38, 3) := by decide +kernel
theorem dX1_has_9 : decode cX1_has 9 = .ok (.if_icmp .ge 7, 3) := by decide +kernel
theorem dX1_has_12 : decode cX1_has 12 = .ok (.iconst 1, 1) := by decide +kernel
theorem dX1_has_13 : decode cX1_has 13 = .ok (.goto 4, 3) := by decide +kernel
theorem dX1_has_16 : decode cX1_has 16 = .ok (.iconst 0, 1) := by decide +kernel
theorem dX1_has_17 : decode cX1_has 17 = .ok (.ireturn, 1) := by decide +kernel
theorem dX1_stands_0 : decode cX1_stands 0 = .ok (.aload_n 0, 1) := by decide +kernel
theorem dX1_stands_1 : decode cX1_stands 1 = .ok (.iload_n 1, 1) := by decide +kernel
theorem dX1_stands_2 : decode cX1_stands 2 = .ok (.invokevirtual 42, 3) := by decide +kernel
theorem dX1_stands_5 : decode cX1_stands 5 = .ok (.ifCond .eq 16, 3) := by decide +kernel
theorem dX1_stands_8 : decode cX1_stands 8 = .ok (.aload_n 0, 1) := by decide +kernel
theorem dX1_stands_9 : decode cX1_stands 9 = .ok (.getfield 27, 3) := by decide +kernel
theorem dX1_stands_12 : decode cX1_stands 12 = .ok (.iload_n 1, 1) := by decide +kernel
theorem dX1_stands_13 : decode cX1_stands 13 = .ok (.baload, 1) := by decide +kernel
theorem dX1_stands_14 : decode cX1_stands 14 = .ok (.ifCond .ne 7, 3) := by decide +kernel
theorem dX1_stands_17 : decode cX1_stands 17 = .ok (.iconst 1, 1) := by decide +kernel
theorem dX1_stands_18 : decode cX1_stands 18 = .ok (.goto 4, 3) := by decide +kernel
theorem dX1_stands_21 : decode cX1_stands 21 = .ok (.iconst 0, 1) := by decide +kernel
theorem dX1_stands_22 : decode cX1_stands 22 = .ok (.ireturn, 1) := by decide +kernel
theorem dX1_isOf_0 : decode cX1_isOf 0 = .ok (.aload_n 0, 1) := by decide +kernel
theorem dX1_isOf_1 : decode cX1_isOf 1 = .ok (.getfield 9, 3) := by decide +kernel
theorem dX1_isOf_4 : decode cX1_isOf 4 = .ok (.iload_n 1, 1) := by decide +kernel
theorem dX1_isOf_5 : decode cX1_isOf 5 = .ok (.iaload, 1) := by decide +kernel
theorem dX1_isOf_6 : decode cX1_isOf 6 = .ok (.iload_n 2, 1) := by decide +kernel
theorem dX1_isOf_7 : decode cX1_isOf 7 = .ok (.if_icmp .eq 18, 3) := by decide +kernel
theorem dX1_isOf_10 : decode cX1_isOf 10 = .ok (.iload_n 2, 1) := by decide +kernel
theorem dX1_isOf_11 : decode cX1_isOf 11 = .ok (.iconst 1, 1) := by decide +kernel
theorem dX1_isOf_12 : decode cX1_isOf 12 = .ok (.if_icmp .ne 17, 3) := by decide +kernel
theorem dX1_isOf_15 : decode cX1_isOf 15 = .ok (.aload_n 0, 1) := by decide +kernel
theorem dX1_isOf_16 : decode cX1_isOf 16 = .ok (.getfield 9, 3) := by decide +kernel
theorem dX1_isOf_19 : decode cX1_isOf 19 = .ok (.iload_n 1, 1) := by decide +kernel
theorem dX1_isOf_20 : decode cX1_isOf 20 = .ok (.iaload, 1) := by decide +kernel
theorem dX1_isOf_21 : decode cX1_isOf 21 = .ok (.iconst 3, 1) := by decide +kernel
theorem dX1_isOf_22 : decode cX1_isOf 22 = .ok (.if_icmp .ne 7, 3) := by decide +kernel
theorem dX1_isOf_25 : decode cX1_isOf 25 = .ok (.iconst 1, 1) := by decide +kernel
theorem dX1_isOf_26 : decode cX1_isOf 26 = .ok (.goto 4, 3) := by decide +kernel
theorem dX1_isOf_29 : decode cX1_isOf 29 = .ok (.iconst 0, 1) := by decide +kernel
theorem dX1_isOf_30 : decode cX1_isOf 30 = .ok (.ireturn, 1) := by decide +kernel
theorem dX1_setLost_0 : decode cX1_setLost 0 = .ok (.aload_n 0, 1) := by decide +kernel
theorem dX1_setLost_1 : decode cX1_setLost 1 = .ok (.getfield 27, 3) := by decide +kernel
theorem dX1_setLost_4 : decode cX1_setLost 4 = .ok (.iload_n 1, 1) := by decide +kernel
theorem dX1_setLost_5 : decode cX1_setLost 5 = .ok (.iload_n 2, 1) := by decide +kernel
theorem dX1_setLost_6 : decode cX1_setLost 6 = .ok (.bastore, 1) := by decide +kernel
theorem dX1_setLost_7 : decode cX1_setLost 7 = .ok (.aload_n 0, 1) := by decide +kernel
theorem dX1_setLost_8 : decode cX1_setLost 8 = .ok (.iload_n 1, 1) := by decide +kernel
theorem dX1_setLost_9 : decode cX1_setLost 9 = .ok (.invokevirtual 46, 3) := by decide +kernel
theorem dX1_setLost_12 : decode cX1_setLost 12 = .ok (.return_, 1) := by decide +kernel
theorem dX1_setBed_0 : decode cX1_setBed 0 = .ok (.aload_n 0, 1) := by decide +kernel
theorem dX1_setBed_1 : decode cX1_setBed 1 = .ok (.getfield 15, 3) := by decide +kernel
theorem dX1_setBed_4 : decode cX1_setBed 4 = .ok (.iload_n 1, 1) := by decide +kernel
theorem dX1_setBed_5 : decode cX1_setBed 5 = .ok (.iload_n 2, 1) := by decide +kernel
theorem dX1_setBed_6 : decode cX1_setBed 6 = .ok (.iastore, 1) := by decide +kernel
theorem dX1_setBed_7 : decode cX1_setBed 7 = .ok (.aload_n 0, 1) := by decide +kernel
theorem dX1_setBed_8 : decode cX1_setBed 8 = .ok (.iload_n 1, 1) := by decide +kernel
theorem dX1_setBed_9 : decode cX1_setBed 9 = .ok (.invokevirtual 46, 3) := by decide +kernel
theorem dX1_setBed_12 : decode cX1_setBed 12 = .ok (.return_, 1) := by decide +kernel
theorem dX1_forgetHanging_0 : decode cX1_forgetHanging 0 = .ok (.aload_n 0, 1) := by decide +kernel
theorem dX1_forgetHanging_1 : decode cX1_forgetHanging 1 = .ok (.getfield 38, 3) := by decide +kernel
theorem dX1_forgetHanging_4 : decode cX1_forgetHanging 4 = .ok (.iconst 1, 1) := by decide +kernel
theorem dX1_forgetHanging_5 : decode cX1_forgetHanging 5 = .ok (.isub, 1) := by decide +kernel
theorem dX1_forgetHanging_6 : decode cX1_forgetHanging 6 = .ok (.iload_n 1, 1) := by decide +kernel
theorem dX1_forgetHanging_7 : decode cX1_forgetHanging 7 = .ok (.iconst 4, 1) := by decide +kernel
theorem dX1_forgetHanging_8 : decode cX1_forgetHanging 8 = .ok (.iadd, 1) := by decide +kernel
theorem dX1_forgetHanging_9 : decode cX1_forgetHanging 9 = .ok (.iconst 1, 1) := by decide +kernel
theorem dX1_forgetHanging_10 : decode cX1_forgetHanging 10 = .ok (.isub, 1) := by decide +kernel
theorem dX1_forgetHanging_11 : decode cX1_forgetHanging 11 = .ok (.invokestatic 49, 3) := by decide +kernel
theorem dX1_forgetHanging_14 : decode cX1_forgetHanging 14 = .ok (.istore_n 2, 1) := by decide +kernel
theorem dX1_forgetHanging_15 : decode cX1_forgetHanging 15 = .ok (.iconst 0, 1) := by decide +kernel
theorem dX1_forgetHanging_16 : decode cX1_forgetHanging 16 = .ok (.iload_n 1, 1) := by decide +kernel
theorem dX1_forgetHanging_17 : decode cX1_forgetHanging 17 = .ok (.iconst 4, 1) := by decide +kernel
theorem dX1_forgetHanging_18 : decode cX1_forgetHanging 18 = .ok (.isub, 1) := by decide +kernel
theorem dX1_forgetHanging_19 : decode cX1_forgetHanging 19 = .ok (.iconst 1, 1) := by decide +kernel
theorem dX1_forgetHanging_20 : decode cX1_forgetHanging 20 = .ok (.iadd, 1) := by decide +kernel
theorem dX1_forgetHanging_21 : decode cX1_forgetHanging 21 = .ok (.invokestatic 55, 3) := by decide +kernel
theorem dX1_forgetHanging_24 : decode cX1_forgetHanging 24 = .ok (.istore_n 3, 1) := by decide +kernel
theorem dX1_forgetHanging_25 : decode cX1_forgetHanging 25 = .ok (.iload_n 3, 1) := by decide +kernel
theorem dX1_forgetHanging_26 : decode cX1_forgetHanging 26 = .ok (.iload_n 2, 1) := by decide +kernel
theorem dX1_forgetHanging_27 : decode cX1_forgetHanging 27 = .ok (.if_icmp .gt 16, 3) := by decide +kernel
theorem dX1_forgetHanging_30 : decode cX1_forgetHanging 30 = .ok (.aload_n 0, 1) := by decide +kernel
theorem dX1_forgetHanging_31 : decode cX1_forgetHanging 31 = .ok (.getfield 31, 3) := by decide +kernel
theorem dX1_forgetHanging_34 : decode cX1_forgetHanging 34 = .ok (.iload_n 3, 1) := by decide +kernel
theorem dX1_forgetHanging_35 : decode cX1_forgetHanging 35 = .ok (.iconst 0, 1) := by decide +kernel
theorem dX1_forgetHanging_36 : decode cX1_forgetHanging 36 = .ok (.iastore, 1) := by decide +kernel
theorem dX1_forgetHanging_37 : decode cX1_forgetHanging 37 = .ok (.iinc 3 1, 3) := by decide +kernel
theorem dX1_forgetHanging_40 : decode cX1_forgetHanging 40 = .ok (.goto (-15), 3) := by decide +kernel
theorem dX1_forgetHanging_43 : decode cX1_forgetHanging 43 = .ok (.return_, 1) := by decide +kernel
theorem dX1_height_0 : decode cX1_height 0 = .ok (.aload_n 0, 1) := by decide +kernel
theorem dX1_height_1 : decode cX1_height 1 = .ok (.iload_n 1, 1) := by decide +kernel
theorem dX1_height_2 : decode cX1_height 2 = .ok (.invokevirtual 58, 3) := by decide +kernel
theorem dX1_height_5 : decode cX1_height 5 = .ok (.ifCond .eq 12, 3) := by decide +kernel
theorem dX1_height_8 : decode cX1_height 8 = .ok (.aload_n 0, 1) := by decide +kernel
theorem dX1_height_9 : decode cX1_height 9 = .ok (.getfield 15, 3) := by decide +kernel
theorem dX1_height_12 : decode cX1_height 12 = .ok (.iload_n 1, 1) := by decide +kernel
theorem dX1_height_13 : decode cX1_height 13 = .ok (.iaload, 1) := by decide +kernel
theorem dX1_height_14 : decode cX1_height 14 = .ok (.goto 5, 3) := by decide +kernel
theorem dX1_height_17 : decode cX1_height 17 = .ok (.ldc 61, 2) := by decide +kernel
theorem dX1_height_19 : decode cX1_height 19 = .ok (.istore_n 2, 1) := by decide +kernel
theorem dX1_height_20 : decode cX1_height 20 = .ok (.iconst 0, 1) := by decide +kernel
theorem dX1_height_21 : decode cX1_height 21 = .ok (.iload_n 1, 1) := by decide +kernel
theorem dX1_height_22 : decode cX1_height 22 = .ok (.iconst 4, 1) := by decide +kernel
theorem dX1_height_23 : decode cX1_height 23 = .ok (.isub, 1) := by decide +kernel
theorem dX1_height_24 : decode cX1_height 24 = .ok (.iconst 1, 1) := by decide +kernel
theorem dX1_height_25 : decode cX1_height 25 = .ok (.iadd, 1) := by decide +kernel
theorem dX1_height_26 : decode cX1_height 26 = .ok (.invokestatic 55, 3) := by decide +kernel
theorem dX1_height_29 : decode cX1_height 29 = .ok (.istore_n 3, 1) := by decide +kernel
theorem dX1_height_30 : decode cX1_height 30 = .ok (.iload_n 3, 1) := by decide +kernel
theorem dX1_height_31 : decode cX1_height 31 = .ok (.iload_n 1, 1) := by decide +kernel
theorem dX1_height_32 : decode cX1_height 32 = .ok (.if_icmp .ge 73, 3) := by decide +kernel
theorem dX1_height_35 : decode cX1_height 35 = .ok (.aload_n 0, 1) := by decide +kernel
theorem dX1_height_36 : decode cX1_height 36 = .ok (.getfield 38, 3) := by decide +kernel
theorem dX1_height_39 : decode cX1_height 39 = .ok (.iconst 1, 1) := by decide +kernel
theorem dX1_height_40 : decode cX1_height 40 = .ok (.isub, 1) := by decide +kernel
theorem dX1_height_41 : decode cX1_height 41 = .ok (.iload_n 3, 1) := by decide +kernel
theorem dX1_height_42 : decode cX1_height 42 = .ok (.iconst 4, 1) := by decide +kernel
theorem dX1_height_43 : decode cX1_height 43 = .ok (.iadd, 1) := by decide +kernel
theorem dX1_height_44 : decode cX1_height 44 = .ok (.invokestatic 49, 3) := by decide +kernel
theorem dX1_height_47 : decode cX1_height 47 = .ok (.istore 4, 2) := by decide +kernel
theorem dX1_height_49 : decode cX1_height 49 = .ok (.iload_n 1, 1) := by decide +kernel
theorem dX1_height_50 : decode cX1_height 50 = .ok (.iconst 1, 1) := by decide +kernel
theorem dX1_height_51 : decode cX1_height 51 = .ok (.iadd, 1) := by decide +kernel
theorem dX1_height_52 : decode cX1_height 52 = .ok (.istore 5, 2) := by decide +kernel
theorem dX1_height_54 : decode cX1_height 54 = .ok (.iload 5, 2) := by decide +kernel
theorem dX1_height_56 : decode cX1_height 56 = .ok (.iload 4, 2) := by decide +kernel
theorem dX1_height_58 : decode cX1_height 58 = .ok (.if_icmp .gt 41, 3) := by decide +kernel
theorem dX1_height_61 : decode cX1_height 61 = .ok (.aload_n 0, 1) := by decide +kernel
theorem dX1_height_62 : decode cX1_height 62 = .ok (.getfield 27, 3) := by decide +kernel
theorem dX1_height_65 : decode cX1_height 65 = .ok (.iload_n 3, 1) := by decide +kernel
theorem dX1_height_66 : decode cX1_height 66 = .ok (.baload, 1) := by decide +kernel
theorem dX1_height_67 : decode cX1_height 67 = .ok (.ifCond .ne 32, 3) := by decide +kernel
theorem dX1_height_70 : decode cX1_height 70 = .ok (.aload_n 0, 1) := by decide +kernel
theorem dX1_height_71 : decode cX1_height 71 = .ok (.getfield 27, 3) := by decide +kernel
theorem dX1_height_74 : decode cX1_height 74 = .ok (.iload 5, 2) := by decide +kernel
theorem dX1_height_76 : decode cX1_height 76 = .ok (.baload, 1) := by decide +kernel
theorem dX1_height_77 : decode cX1_height 77 = .ok (.ifCond .ne 16, 3) := by decide +kernel
theorem dX1_height_80 : decode cX1_height 80 = .ok (.iload_n 2, 1) := by decide +kernel
theorem dX1_height_81 : decode cX1_height 81 = .ok (.aload_n 0, 1) := by decide +kernel
theorem dX1_height_82 : decode cX1_height 82 = .ok (.iload_n 3, 1) := by decide +kernel
theorem dX1_height_83 : decode cX1_height 83 = .ok (.iload 5, 2) := by decide +kernel
theorem dX1_height_85 : decode cX1_height 85 = .ok (.iload_n 1, 1) := by decide +kernel
theorem dX1_height_86 : decode cX1_height 86 = .ok (.invokevirtual 62, 3) := by decide +kernel
theorem dX1_height_89 : decode cX1_height 89 = .ok (.invokestatic 55, 3) := by decide +kernel
theorem dX1_height_92 : decode cX1_height 92 = .ok (.istore_n 2, 1) := by decide +kernel
theorem dX1_height_93 : decode cX1_height 93 = .ok (.iinc 5 1, 3) := by decide +kernel
theorem dX1_height_96 : decode cX1_height 96 = .ok (.goto (-42), 3) := by decide +kernel
theorem dX1_height_99 : decode cX1_height 99 = .ok (.iinc 3 1, 3) := by decide +kernel
theorem dX1_height_102 : decode cX1_height 102 = .ok (.goto (-72), 3) := by decide +kernel
theorem dX1_height_105 : decode cX1_height 105 = .ok (.iload_n 2, 1) := by decide +kernel
theorem dX1_height_106 : decode cX1_height 106 = .ok (.ldc 61, 2) := by decide +kernel
theorem dX1_height_108 : decode cX1_height 108 = .ok (.if_icmp .ne 11, 3) := by decide +kernel
theorem dX1_height_111 : decode cX1_height 111 = .ok (.aload_n 0, 1) := by decide +kernel
theorem dX1_height_112 : decode cX1_height 112 = .ok (.iload_n 1, 1) := by decide +kernel
theorem dX1_height_113 : decode cX1_height 113 = .ok (.invokevirtual 66, 3) := by decide +kernel
theorem dX1_height_116 : decode cX1_height 116 = .ok (.goto 4, 3) := by decide +kernel
theorem dX1_height_119 : decode cX1_height 119 = .ok (.iload_n 2, 1) := by decide +kernel
theorem dX1_height_120 : decode cX1_height 120 = .ok (.ireturn, 1) := by decide +kernel
theorem dX1_lineAt_0 : decode cX1_lineAt 0 = .ok (.aload_n 0, 1) := by decide +kernel
theorem dX1_lineAt_1 : decode cX1_lineAt 1 = .ok (.getfield 15, 3) := by decide +kernel
theorem dX1_lineAt_4 : decode cX1_lineAt 4 = .ok (.iload_n 1, 1) := by decide +kernel
theorem dX1_lineAt_5 : decode cX1_lineAt 5 = .ok (.iaload, 1) := by decide +kernel
theorem dX1_lineAt_6 : decode cX1_lineAt 6 = .ok (.iload_n 2, 1) := by decide +kernel
theorem dX1_lineAt_7 : decode cX1_lineAt 7 = .ok (.iload_n 3, 1) := by decide +kernel
theorem dX1_lineAt_8 : decode cX1_lineAt 8 = .ok (.isub, 1) := by decide +kernel
theorem dX1_lineAt_9 : decode cX1_lineAt 9 = .ok (.imul, 1) := by decide +kernel
theorem dX1_lineAt_10 : decode cX1_lineAt 10 = .ok (.aload_n 0, 1) := by decide +kernel
theorem dX1_lineAt_11 : decode cX1_lineAt 11 = .ok (.getfield 15, 3) := by decide +kernel
theorem dX1_lineAt_14 : decode cX1_lineAt 14 = .ok (.iload_n 2, 1) := by decide +kernel
theorem dX1_lineAt_15 : decode cX1_lineAt 15 = .ok (.iaload, 1) := by decide +kernel
theorem dX1_lineAt_16 : decode cX1_lineAt 16 = .ok (.iload_n 3, 1) := by decide +kernel
theorem dX1_lineAt_17 : decode cX1_lineAt 17 = .ok (.iload_n 1, 1) := by decide +kernel
theorem dX1_lineAt_18 : decode cX1_lineAt 18 = .ok (.isub, 1) := by decide +kernel
theorem dX1_lineAt_19 : decode cX1_lineAt 19 = .ok (.imul, 1) := by decide +kernel
theorem dX1_lineAt_20 : decode cX1_lineAt 20 = .ok (.iadd, 1) := by decide +kernel
theorem dX1_lineAt_21 : decode cX1_lineAt 21 = .ok (.iload_n 2, 1) := by decide +kernel
theorem dX1_lineAt_22 : decode cX1_lineAt 22 = .ok (.iload_n 1, 1) := by decide +kernel
theorem dX1_lineAt_23 : decode cX1_lineAt 23 = .ok (.isub, 1) := by decide +kernel
theorem dX1_lineAt_24 : decode cX1_lineAt 24 = .ok (.invokestatic 70, 3) := by decide +kernel
theorem dX1_lineAt_27 : decode cX1_lineAt 27 = .ok (.ireturn, 1) := by decide +kernel
theorem dX1_nearestBed_0 : decode cX1_nearestBed 0 = .ok (.iconst 0, 1) := by decide +kernel
theorem dX1_nearestBed_1 : decode cX1_nearestBed 1 = .ok (.istore_n 2, 1) := by decide +kernel
theorem dX1_nearestBed_2 : decode cX1_nearestBed 2 = .ok (.iload_n 2, 1) := by decide +kernel
theorem dX1_nearestBed_3 : decode cX1_nearestBed 3 = .ok (.aload_n 0, 1) := by decide +kernel
theorem dX1_nearestBed_4 : decode cX1_nearestBed 4 = .ok (.getfield 38, 3) := by decide +kernel
theorem dX1_nearestBed_7 : decode cX1_nearestBed 7 = .ok (.if_icmp .ge 47, 3) := by decide +kernel
theorem dX1_nearestBed_10 : decode cX1_nearestBed 10 = .ok (.aload_n 0, 1) := by decide +kernel
theorem dX1_nearestBed_11 : decode cX1_nearestBed 11 = .ok (.iload_n 1, 1) := by decide +kernel
theorem dX1_nearestBed_12 : decode cX1_nearestBed 12 = .ok (.iload_n 2, 1) := by decide +kernel
theorem dX1_nearestBed_13 : decode cX1_nearestBed 13 = .ok (.isub, 1) := by decide +kernel
theorem dX1_nearestBed_14 : decode cX1_nearestBed 14 = .ok (.invokevirtual 58, 3) := by decide +kernel
theorem dX1_nearestBed_17 : decode cX1_nearestBed 17 = .ok (.ifCond .eq 12, 3) := by decide +kernel
theorem dX1_nearestBed_20 : decode cX1_nearestBed 20 = .ok (.aload_n 0, 1) := by decide +kernel
theorem dX1_nearestBed_21 : decode cX1_nearestBed 21 = .ok (.getfield 15, 3) := by decide +kernel
theorem dX1_nearestBed_24 : decode cX1_nearestBed 24 = .ok (.iload_n 1, 1) := by decide +kernel
theorem dX1_nearestBed_25 : decode cX1_nearestBed 25 = .ok (.iload_n 2, 1) := by decide +kernel
theorem dX1_nearestBed_26 : decode cX1_nearestBed 26 = .ok (.isub, 1) := by decide +kernel
theorem dX1_nearestBed_27 : decode cX1_nearestBed 27 = .ok (.iaload, 1) := by decide +kernel
theorem dX1_nearestBed_28 : decode cX1_nearestBed 28 = .ok (.ireturn, 1) := by decide +kernel
theorem dX1_nearestBed_29 : decode cX1_nearestBed 29 = .ok (.aload_n 0, 1) := by decide +kernel
theorem dX1_nearestBed_30 : decode cX1_nearestBed 30 = .ok (.iload_n 1, 1) := by decide +kernel
theorem dX1_nearestBed_31 : decode cX1_nearestBed 31 = .ok (.iload_n 2, 1) := by decide +kernel
theorem dX1_nearestBed_32 : decode cX1_nearestBed 32 = .ok (.iadd, 1) := by decide +kernel
theorem dX1_nearestBed_33 : decode cX1_nearestBed 33 = .ok (.invokevirtual 58, 3) := by decide +kernel
theorem dX1_nearestBed_36 : decode cX1_nearestBed 36 = .ok (.ifCond .eq 12, 3) := by decide +kernel
theorem dX1_nearestBed_39 : decode cX1_nearestBed 39 = .ok (.aload_n 0, 1) := by decide +kernel
theorem dX1_nearestBed_40 : decode cX1_nearestBed 40 = .ok (.getfield 15, 3) := by decide +kernel
theorem dX1_nearestBed_43 : decode cX1_nearestBed 43 = .ok (.iload_n 1, 1) := by decide +kernel
theorem dX1_nearestBed_44 : decode cX1_nearestBed 44 = .ok (.iload_n 2, 1) := by decide +kernel
theorem dX1_nearestBed_45 : decode cX1_nearestBed 45 = .ok (.iadd, 1) := by decide +kernel
theorem dX1_nearestBed_46 : decode cX1_nearestBed 46 = .ok (.iaload, 1) := by decide +kernel
theorem dX1_nearestBed_47 : decode cX1_nearestBed 47 = .ok (.ireturn, 1) := by decide +kernel
theorem dX1_nearestBed_48 : decode cX1_nearestBed 48 = .ok (.iinc 2 1, 3) := by decide +kernel
theorem dX1_nearestBed_51 : decode cX1_nearestBed 51 = .ok (.goto (-49), 3) := by decide +kernel
theorem dX1_nearestBed_54 : decode cX1_nearestBed 54 = .ok (.iconst 0, 1) := by decide +kernel
theorem dX1_nearestBed_55 : decode cX1_nearestBed 55 = .ok (.ireturn, 1) := by decide +kernel
theorem dX1_bears_0 : decode cX1_bears 0 = .ok (.aload_n 0, 1) := by decide +kernel
theorem dX1_bears_1 : decode cX1_bears 1 = .ok (.iload_n 1, 1) := by decide +kernel
theorem dX1_bears_2 : decode cX1_bears 2 = .ok (.invokevirtual 58, 3) := by decide +kernel
theorem dX1_bears_5 : decode cX1_bears 5 = .ok (.ifCond .ne 5, 3) := by decide +kernel
theorem dX1_bears_8 : decode cX1_bears 8 = .ok (.iconst 0, 1) := by decide +kernel
theorem dX1_bears_9 : decode cX1_bears 9 = .ok (.ireturn, 1) := by decide +kernel
theorem dX1_bears_10 : decode cX1_bears 10 = .ok (.aload_n 0, 1) := by decide +kernel
theorem dX1_bears_11 : decode cX1_bears 11 = .ok (.getfield 31, 3) := by decide +kernel
theorem dX1_bears_14 : decode cX1_bears 14 = .ok (.iload_n 1, 1) := by decide +kernel
theorem dX1_bears_15 : decode cX1_bears 15 = .ok (.iaload, 1) := by decide +kernel
theorem dX1_bears_16 : decode cX1_bears 16 = .ok (.ifCond .ne 28, 3) := by decide +kernel
theorem dX1_bears_19 : decode cX1_bears 19 = .ok (.aload_n 0, 1) := by decide +kernel
theorem dX1_bears_20 : decode cX1_bears 20 = .ok (.getfield 31, 3) := by decide +kernel
theorem dX1_bears_23 : decode cX1_bears 23 = .ok (.iload_n 1, 1) := by decide +kernel
theorem dX1_bears_24 : decode cX1_bears 24 = .ok (.aload_n 0, 1) := by decide +kernel
theorem dX1_bears_25 : decode cX1_bears 25 = .ok (.iload_n 1, 1) := by decide +kernel
theorem dX1_bears_26 : decode cX1_bears 26 = .ok (.invokevirtual 73, 3) := by decide +kernel
theorem dX1_bears_29 : decode cX1_bears 29 = .ok (.aload_n 0, 1) := by decide +kernel
theorem dX1_bears_30 : decode cX1_bears 30 = .ok (.getfield 15, 3) := by decide +kernel
theorem dX1_bears_33 : decode cX1_bears 33 = .ok (.iload_n 1, 1) := by decide +kernel
theorem dX1_bears_34 : decode cX1_bears 34 = .ok (.iaload, 1) := by decide +kernel
theorem dX1_bears_35 : decode cX1_bears 35 = .ok (.if_icmp .le 7, 3) := by decide +kernel
theorem dX1_bears_38 : decode cX1_bears 38 = .ok (.iconst 2, 1) := by decide +kernel
theorem dX1_bears_39 : decode cX1_bears 39 = .ok (.goto 4, 3) := by decide +kernel
theorem dX1_bears_42 : decode cX1_bears 42 = .ok (.iconst 1, 1) := by decide +kernel
theorem dX1_bears_43 : decode cX1_bears 43 = .ok (.iastore, 1) := by decide +kernel
theorem dX1_bears_44 : decode cX1_bears 44 = .ok (.aload_n 0, 1) := by decide +kernel
theorem dX1_bears_45 : decode cX1_bears 45 = .ok (.getfield 31, 3) := by decide +kernel
theorem dX1_bears_48 : decode cX1_bears 48 = .ok (.iload_n 1, 1) := by decide +kernel
theorem dX1_bears_49 : decode cX1_bears 49 = .ok (.iaload, 1) := by decide +kernel
theorem dX1_bears_50 : decode cX1_bears 50 = .ok (.iconst 1, 1) := by decide +kernel
theorem dX1_bears_51 : decode cX1_bears 51 = .ok (.if_icmp .ne 7, 3) := by decide +kernel
theorem dX1_bears_54 : decode cX1_bears 54 = .ok (.iconst 1, 1) := by decide +kernel
theorem dX1_bears_55 : decode cX1_bears 55 = .ok (.goto 4, 3) := by decide +kernel
theorem dX1_bears_58 : decode cX1_bears 58 = .ok (.iconst 0, 1) := by decide +kernel
theorem dX1_bears_59 : decode cX1_bears 59 = .ok (.ireturn, 1) := by decide +kernel
theorem dX1_jointAt_0 : decode cX1_jointAt 0 = .ok (.aload_n 0, 1) := by decide +kernel
theorem dX1_jointAt_1 : decode cX1_jointAt 1 = .ok (.iload_n 1, 1) := by decide +kernel
theorem dX1_jointAt_2 : decode cX1_jointAt 2 = .ok (.invokevirtual 58, 3) := by decide +kernel
theorem dX1_jointAt_5 : decode cX1_jointAt 5 = .ok (.ifCond .eq 17, 3) := by decide +kernel
theorem dX1_jointAt_8 : decode cX1_jointAt 8 = .ok (.aload_n 0, 1) := by decide +kernel
theorem dX1_jointAt_9 : decode cX1_jointAt 9 = .ok (.getfield 9, 3) := by decide +kernel
theorem dX1_jointAt_12 : decode cX1_jointAt 12 = .ok (.iload_n 1, 1) := by decide +kernel
theorem dX1_jointAt_13 : decode cX1_jointAt 13 = .ok (.iaload, 1) := by decide +kernel
theorem dX1_jointAt_14 : decode cX1_jointAt 14 = .ok (.iconst 3, 1) := by decide +kernel
theorem dX1_jointAt_15 : decode cX1_jointAt 15 = .ok (.if_icmp .ne 7, 3) := by decide +kernel
theorem dX1_jointAt_18 : decode cX1_jointAt 18 = .ok (.iconst 1, 1) := by decide +kernel
theorem dX1_jointAt_19 : decode cX1_jointAt 19 = .ok (.goto 4, 3) := by decide +kernel
theorem dX1_jointAt_22 : decode cX1_jointAt 22 = .ok (.iconst 0, 1) := by decide +kernel
theorem dX1_jointAt_23 : decode cX1_jointAt 23 = .ok (.ireturn, 1) := by decide +kernel
theorem dX1_sink_0 : decode cX1_sink 0 = .ok (.aload_n 0, 1) := by decide +kernel
theorem dX1_sink_1 : decode cX1_sink 1 = .ok (.getfield 21, 3) := by decide +kernel
theorem dX1_sink_4 : decode cX1_sink 4 = .ok (.iload_n 1, 1) := by decide +kernel
theorem dX1_sink_5 : decode cX1_sink 5 = .ok (.iaload, 1) := by decide +kernel
theorem dX1_sink_6 : decode cX1_sink 6 = .ok (.iload_n 2, 1) := by decide +kernel
theorem dX1_sink_7 : decode cX1_sink 7 = .ok (.iadd, 1) := by decide +kernel
theorem dX1_sink_8 : decode cX1_sink 8 = .ok (.istore_n 3, 1) := by decide +kernel
theorem dX1_sink_9 : decode cX1_sink 9 = .ok (.iload_n 3, 1) := by decide +kernel
theorem dX1_sink_10 : decode cX1_sink 10 = .ok (.bipush 100, 2) := by decide +kernel
theorem dX1_sink_12 : decode cX1_sink 12 = .ok (.idiv, 1) := by decide +kernel
theorem dX1_sink_13 : decode cX1_sink 13 = .ok (.istore 4, 2) := by decide +kernel
theorem dX1_sink_15 : decode cX1_sink 15 = .ok (.aload_n 0, 1) := by decide +kernel
theorem dX1_sink_16 : decode cX1_sink 16 = .ok (.getfield 21, 3) := by decide +kernel
theorem dX1_sink_19 : decode cX1_sink 19 = .ok (.iload_n 1, 1) := by decide +kernel
theorem dX1_sink_20 : decode cX1_sink 20 = .ok (.iload_n 3, 1) := by decide +kernel
theorem dX1_sink_21 : decode cX1_sink 21 = .ok (.bipush 100, 2) := by decide +kernel
theorem dX1_sink_23 : decode cX1_sink 23 = .ok (.irem, 1) := by decide +kernel
theorem dX1_sink_24 : decode cX1_sink 24 = .ok (.iastore, 1) := by decide +kernel
theorem dX1_sink_25 : decode cX1_sink 25 = .ok (.iload 4, 2) := by decide +kernel
theorem dX1_sink_27 : decode cX1_sink 27 = .ok (.ifCond .le 17, 3) := by decide +kernel
theorem dX1_sink_30 : decode cX1_sink 30 = .ok (.aload_n 0, 1) := by decide +kernel
theorem dX1_sink_31 : decode cX1_sink 31 = .ok (.iload_n 1, 1) := by decide +kernel
theorem dX1_sink_32 : decode cX1_sink 32 = .ok (.aload_n 0, 1) := by decide +kernel
theorem dX1_sink_33 : decode cX1_sink 33 = .ok (.getfield 15, 3) := by decide +kernel
theorem dX1_sink_36 : decode cX1_sink 36 = .ok (.iload_n 1, 1) := by decide +kernel
theorem dX1_sink_37 : decode cX1_sink 37 = .ok (.iaload, 1) := by decide +kernel
theorem dX1_sink_38 : decode cX1_sink 38 = .ok (.iload 4, 2) := by decide +kernel
theorem dX1_sink_40 : decode cX1_sink 40 = .ok (.isub, 1) := by decide +kernel
theorem dX1_sink_41 : decode cX1_sink 41 = .ok (.invokevirtual 76, 3) := by decide +kernel
theorem dX1_sink_44 : decode cX1_sink 44 = .ok (.iload 4, 2) := by decide +kernel
theorem dX1_sink_46 : decode cX1_sink 46 = .ok (.ireturn, 1) := by decide +kernel
theorem dX1_raise_0 : decode cX1_raise 0 = .ok (.aload_n 0, 1) := by decide +kernel
theorem dX1_raise_1 : decode cX1_raise 1 = .ok (.iload_n 1, 1) := by decide +kernel
theorem dX1_raise_2 : decode cX1_raise 2 = .ok (.invokevirtual 58, 3) := by decide +kernel
theorem dX1_raise_5 : decode cX1_raise 5 = .ok (.ifCond .eq 13, 3) := by decide +kernel
theorem dX1_raise_8 : decode cX1_raise 8 = .ok (.aload_n 0, 1) := by decide +kernel
theorem dX1_raise_9 : decode cX1_raise 9 = .ok (.getfield 15, 3) := by decide +kernel
theorem dX1_raise_12 : decode cX1_raise 12 = .ok (.iload_n 1, 1) := by decide +kernel
theorem dX1_raise_13 : decode cX1_raise 13 = .ok (.iaload, 1) := by decide +kernel
theorem dX1_raise_14 : decode cX1_raise 14 = .ok (.iload_n 2, 1) := by decide +kernel
theorem dX1_raise_15 : decode cX1_raise 15 = .ok (.if_icmp .lt 5, 3) := by decide +kernel
theorem dX1_raise_18 : decode cX1_raise 18 = .ok (.iconst 0, 1) := by decide +kernel
theorem dX1_raise_19 : decode cX1_raise 19 = .ok (.ireturn, 1) := by decide +kernel
theorem dX1_raise_20 : decode cX1_raise 20 = .ok (.aload_n 0, 1) := by decide +kernel
theorem dX1_raise_21 : decode cX1_raise 21 = .ok (.iload_n 1, 1) := by decide +kernel
theorem dX1_raise_22 : decode cX1_raise 22 = .ok (.iload_n 2, 1) := by decide +kernel
theorem dX1_raise_23 : decode cX1_raise 23 = .ok (.invokevirtual 76, 3) := by decide +kernel
theorem dX1_raise_26 : decode cX1_raise 26 = .ok (.aload_n 0, 1) := by decide +kernel
theorem dX1_raise_27 : decode cX1_raise 27 = .ok (.getfield 21, 3) := by decide +kernel
theorem dX1_raise_30 : decode cX1_raise 30 = .ok (.iload_n 1, 1) := by decide +kernel
theorem dX1_raise_31 : decode cX1_raise 31 = .ok (.iconst 0, 1) := by decide +kernel
theorem dX1_raise_32 : decode cX1_raise 32 = .ok (.iastore, 1) := by decide +kernel
theorem dX1_raise_33 : decode cX1_raise 33 = .ok (.aload_n 0, 1) := by decide +kernel
theorem dX1_raise_34 : decode cX1_raise 34 = .ok (.getfield 18, 3) := by decide +kernel
theorem dX1_raise_37 : decode cX1_raise 37 = .ok (.iload_n 1, 1) := by decide +kernel
theorem dX1_raise_38 : decode cX1_raise 38 = .ok (.iconst 1, 1) := by decide +kernel
theorem dX1_raise_39 : decode cX1_raise 39 = .ok (.aload_n 0, 1) := by decide +kernel
theorem dX1_raise_40 : decode cX1_raise 40 = .ok (.getfield 18, 3) := by decide +kernel
theorem dX1_raise_43 : decode cX1_raise 43 = .ok (.iload_n 1, 1) := by decide +kernel
theorem dX1_raise_44 : decode cX1_raise 44 = .ok (.iaload, 1) := by decide +kernel
theorem dX1_raise_45 : decode cX1_raise 45 = .ok (.iconst 1, 1) := by decide +kernel
theorem dX1_raise_46 : decode cX1_raise 46 = .ok (.isub, 1) := by decide +kernel
theorem dX1_raise_47 : decode cX1_raise 47 = .ok (.invokestatic 55, 3) := by decide +kernel
theorem dX1_raise_50 : decode cX1_raise 50 = .ok (.iastore, 1) := by decide +kernel
theorem dX1_raise_51 : decode cX1_raise 51 = .ok (.iconst 1, 1) := by decide +kernel
theorem dX1_raise_52 : decode cX1_raise 52 = .ok (.ireturn, 1) := by decide +kernel
theorem dX1_chord_0 : decode cX1_chord 0 = .ok (.aload_n 0, 1) := by decide +kernel
theorem dX1_chord_1 : decode cX1_chord 1 = .ok (.iload_n 1, 1) := by decide +kernel
theorem dX1_chord_2 : decode cX1_chord 2 = .ok (.iload_n 2, 1) := by decide +kernel
theorem dX1_chord_3 : decode cX1_chord 3 = .ok (.isub, 1) := by decide +kernel
theorem dX1_chord_4 : decode cX1_chord 4 = .ok (.invokevirtual 42, 3) := by decide +kernel
theorem dX1_chord_7 : decode cX1_chord 7 = .ok (.ifCond .eq 13, 3) := by decide +kernel
theorem dX1_chord_10 : decode cX1_chord 10 = .ok (.aload_n 0, 1) := by decide +kernel
theorem dX1_chord_11 : decode cX1_chord 11 = .ok (.iload_n 1, 1) := by decide +kernel
theorem dX1_chord_12 : decode cX1_chord 12 = .ok (.iload_n 2, 1) := by decide +kernel
theorem dX1_chord_13 : decode cX1_chord 13 = .ok (.iadd, 1) := by decide +kernel
theorem dX1_chord_14 : decode cX1_chord 14 = .ok (.invokevirtual 42, 3) := by decide +kernel
theorem dX1_chord_17 : decode cX1_chord 17 = .ok (.ifCond .ne 5, 3) := by decide +kernel
theorem dX1_chord_20 : decode cX1_chord 20 = .ok (.iconst 0, 1) := by decide +kernel
theorem dX1_chord_21 : decode cX1_chord 21 = .ok (.ireturn, 1) := by decide +kernel
theorem dX1_chord_22 : decode cX1_chord 22 = .ok (.iconst 2, 1) := by decide +kernel
theorem dX1_chord_23 : decode cX1_chord 23 = .ok (.aload_n 0, 1) := by decide +kernel
theorem dX1_chord_24 : decode cX1_chord 24 = .ok (.iload_n 1, 1) := by decide +kernel
