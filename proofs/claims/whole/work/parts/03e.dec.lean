theorem dX9_init_0 : decode cX9_init 0 = .ok (.aload_n 0, 1) := by decide +kernel
theorem dX9_init_1 : decode cX9_init 1 = .ok (.invokespecial 1, 3) := by decide +kernel
theorem dX9_init_4 : decode cX9_init 4 = .ok (.aload_n 0, 1) := by decide +kernel
theorem dX9_init_5 : decode cX9_init 5 = .ok (.sipush 2547, 3) := by decide +kernel
theorem dX9_init_8 : decode cX9_init 8 = .ok (.newarray .int, 2) := by decide +kernel
theorem dX9_init_10 : decode cX9_init 10 = .ok (.putfield 7, 3) := by decide +kernel
theorem dX9_init_13 : decode cX9_init 13 = .ok (.aload_n 0, 1) := by decide +kernel
theorem dX9_init_14 : decode cX9_init 14 = .ok (.iconst 2, 1) := by decide +kernel
theorem dX9_init_15 : decode cX9_init 15 = .ok (.newarray .boolean, 2) := by decide +kernel
theorem dX9_init_17 : decode cX9_init 17 = .ok (.putfield 13, 3) := by decide +kernel
theorem dX9_init_20 : decode cX9_init 20 = .ok (.aload_n 0, 1) := by decide +kernel
theorem dX9_init_21 : decode cX9_init 21 = .ok (.bipush 6, 2) := by decide +kernel
theorem dX9_init_23 : decode cX9_init 23 = .ok (.newarray .int, 2) := by decide +kernel
theorem dX9_init_25 : decode cX9_init 25 = .ok (.putfield 17, 3) := by decide +kernel
theorem dX9_init_28 : decode cX9_init 28 = .ok (.aload_n 0, 1) := by decide +kernel
theorem dX9_init_29 : decode cX9_init 29 = .ok (.bipush 6, 2) := by decide +kernel
theorem dX9_init_31 : decode cX9_init 31 = .ok (.newarray .int, 2) := by decide +kernel
theorem dX9_init_33 : decode cX9_init 33 = .ok (.putfield 20, 3) := by decide +kernel
theorem dX9_init_36 : decode cX9_init 36 = .ok (.aload_n 0, 1) := by decide +kernel
theorem dX9_init_37 : decode cX9_init 37 = .ok (.bipush 120, 2) := by decide +kernel
theorem dX9_init_39 : decode cX9_init 39 = .ok (.newarray .int, 2) := by decide +kernel
theorem dX9_init_41 : decode cX9_init 41 = .ok (.putfield 23, 3) := by decide +kernel
theorem dX9_init_44 : decode cX9_init 44 = .ok (.aload_n 0, 1) := by decide +kernel
theorem dX9_init_45 : decode cX9_init 45 = .ok (.iconst 4, 1) := by decide +kernel
theorem dX9_init_46 : decode cX9_init 46 = .ok (.newarray .int, 2) := by decide +kernel
theorem dX9_init_48 : decode cX9_init 48 = .ok (.putfield 26, 3) := by decide +kernel
theorem dX9_init_51 : decode cX9_init 51 = .ok (.aload_n 0, 1) := by decide +kernel
theorem dX9_init_52 : decode cX9_init 52 = .ok (.iconst 4, 1) := by decide +kernel
theorem dX9_init_53 : decode cX9_init 53 = .ok (.newarray .int, 2) := by decide +kernel
theorem dX9_init_55 : decode cX9_init 55 = .ok (.putfield 29, 3) := by decide +kernel
theorem dX9_init_58 : decode cX9_init 58 = .ok (.aload_n 0, 1) := by decide +kernel
theorem dX9_init_59 : decode cX9_init 59 = .ok (.bipush 6, 2) := by decide +kernel
theorem dX9_init_61 : decode cX9_init 61 = .ok (.newarray .int, 2) := by decide +kernel
theorem dX9_init_63 : decode cX9_init 63 = .ok (.dup, 1) := by decide +kernel
theorem dX9_init_64 : decode cX9_init 64 = .ok (.iconst 0, 1) := by decide +kernel
theorem dX9_init_65 : decode cX9_init 65 = .ok (.iconst 0, 1) := by decide +kernel
theorem dX9_init_66 : decode cX9_init 66 = .ok (.iastore, 1) := by decide +kernel
theorem dX9_init_67 : decode cX9_init 67 = .ok (.dup, 1) := by decide +kernel
theorem dX9_init_68 : decode cX9_init 68 = .ok (.iconst 1, 1) := by decide +kernel
theorem dX9_init_69 : decode cX9_init 69 = .ok (.iconst 3, 1) := by decide +kernel
theorem dX9_init_70 : decode cX9_init 70 = .ok (.iastore, 1) := by decide +kernel
theorem dX9_init_71 : decode cX9_init 71 = .ok (.dup, 1) := by decide +kernel
theorem dX9_init_72 : decode cX9_init 72 = .ok (.iconst 2, 1) := by decide +kernel
theorem dX9_init_73 : decode cX9_init 73 = .ok (.iconst 2, 1) := by decide +kernel
theorem dX9_init_74 : decode cX9_init 74 = .ok (.iastore, 1) := by decide +kernel
theorem dX9_init_75 : decode cX9_init 75 = .ok (.dup, 1) := by decide +kernel
theorem dX9_init_76 : decode cX9_init 76 = .ok (.iconst 3, 1) := by decide +kernel
theorem dX9_init_77 : decode cX9_init 77 = .ok (.iconst 1, 1) := by decide +kernel
theorem dX9_init_78 : decode cX9_init 78 = .ok (.iastore, 1) := by decide +kernel
theorem dX9_init_79 : decode cX9_init 79 = .ok (.dup, 1) := by decide +kernel
theorem dX9_init_80 : decode cX9_init 80 = .ok (.iconst 4, 1) := by decide +kernel
theorem dX9_init_81 : decode cX9_init 81 = .ok (.bipush 10, 2) := by decide +kernel
theorem dX9_init_83 : decode cX9_init 83 = .ok (.iastore, 1) := by decide +kernel
theorem dX9_init_84 : decode cX9_init 84 = .ok (.dup, 1) := by decide +kernel
theorem dX9_init_85 : decode cX9_init 85 = .ok (.iconst 5, 1) := by decide +kernel
theorem dX9_init_86 : decode cX9_init 86 = .ok (.iconst 3, 1) := by decide +kernel
theorem dX9_init_87 : decode cX9_init 87 = .ok (.iastore, 1) := by decide +kernel
theorem dX9_init_88 : decode cX9_init 88 = .ok (.putfield 32, 3) := by decide +kernel
theorem dX9_init_91 : decode cX9_init 91 = .ok (.aload_n 0, 1) := by decide +kernel
theorem dX9_init_92 : decode cX9_init 92 = .ok (.iconst 4, 1) := by decide +kernel
theorem dX9_init_93 : decode cX9_init 93 = .ok (.newarray .int, 2) := by decide +kernel
theorem dX9_init_95 : decode cX9_init 95 = .ok (.putfield 35, 3) := by decide +kernel
theorem dX9_init_98 : decode cX9_init 98 = .ok (.aload_n 0, 1) := by decide +kernel
theorem dX9_init_99 : decode cX9_init 99 = .ok (.iconst 4, 1) := by decide +kernel
theorem dX9_init_100 : decode cX9_init 100 = .ok (.newarray .int, 2) := by decide +kernel
theorem dX9_init_102 : decode cX9_init 102 = .ok (.putfield 38, 3) := by decide +kernel
theorem dX9_init_105 : decode cX9_init 105 = .ok (.aload_n 0, 1) := by decide +kernel
theorem dX9_init_106 : decode cX9_init 106 = .ok (.iconst 4, 1) := by decide +kernel
theorem dX9_init_107 : decode cX9_init 107 = .ok (.newarray .int, 2) := by decide +kernel
theorem dX9_init_109 : decode cX9_init 109 = .ok (.putfield 41, 3) := by decide +kernel
theorem dX9_init_112 : decode cX9_init 112 = .ok (.aload_n 0, 1) := by decide +kernel
theorem dX9_init_113 : decode cX9_init 113 = .ok (.bipush 6, 2) := by decide +kernel
theorem dX9_init_115 : decode cX9_init 115 = .ok (.newarray .int, 2) := by decide +kernel
theorem dX9_init_117 : decode cX9_init 117 = .ok (.putfield 44, 3) := by decide +kernel
theorem dX9_init_120 : decode cX9_init 120 = .ok (.aload_n 0, 1) := by decide +kernel
theorem dX9_init_121 : decode cX9_init 121 = .ok (.sipush 256, 3) := by decide +kernel
theorem dX9_init_124 : decode cX9_init 124 = .ok (.newarray .int, 2) := by decide +kernel
theorem dX9_init_126 : decode cX9_init 126 = .ok (.putfield 47, 3) := by decide +kernel
theorem dX9_init_129 : decode cX9_init 129 = .ok (.aload_n 0, 1) := by decide +kernel
theorem dX9_init_130 : decode cX9_init 130 = .ok (.bipush 7, 2) := by decide +kernel
theorem dX9_init_132 : decode cX9_init 132 = .ok (.newarray .long, 2) := by decide +kernel
theorem dX9_init_134 : decode cX9_init 134 = .ok (.putfield 50, 3) := by decide +kernel
theorem dX9_init_137 : decode cX9_init 137 = .ok (.return_, 1) := by decide +kernel
theorem dX9_in_0 : decode cX9_in 0 = .ok (.lload_n 0, 1) := by decide +kernel
theorem dX9_in_1 : decode cX9_in 1 = .ok (.lload_n 2, 1) := by decide +kernel
theorem dX9_in_2 : decode cX9_in 2 = .ok (.lcmp, 1) := by decide +kernel
theorem dX9_in_3 : decode cX9_in 3 = .ok (.ifCond .lt 14, 3) := by decide +kernel
theorem dX9_in_6 : decode cX9_in 6 = .ok (.lload_n 0, 1) := by decide +kernel
theorem dX9_in_7 : decode cX9_in 7 = .ok (.lload 4, 2) := by decide +kernel
theorem dX9_in_9 : decode cX9_in 9 = .ok (.lcmp, 1) := by decide +kernel
theorem dX9_in_10 : decode cX9_in 10 = .ok (.ifCond .gt 7, 3) := by decide +kernel
theorem dX9_in_13 : decode cX9_in 13 = .ok (.iconst 1, 1) := by decide +kernel
theorem dX9_in_14 : decode cX9_in 14 = .ok (.goto 4, 3) := by decide +kernel
theorem dX9_in_17 : decode cX9_in 17 = .ok (.iconst 0, 1) := by decide +kernel
theorem dX9_in_18 : decode cX9_in 18 = .ok (.ireturn, 1) := by decide +kernel
theorem dX9_lesser_0 : decode cX9_lesser 0 = .ok (.iload_n 0, 1) := by decide +kernel
theorem dX9_lesser_1 : decode cX9_lesser 1 = .ok (.iload_n 1, 1) := by decide +kernel
theorem dX9_lesser_2 : decode cX9_lesser 2 = .ok (.if_icmp .ge 7, 3) := by decide +kernel
theorem dX9_lesser_5 : decode cX9_lesser 5 = .ok (.iload_n 0, 1) := by decide +kernel
theorem dX9_lesser_6 : decode cX9_lesser 6 = .ok (.goto 4, 3) := by decide +kernel
theorem dX9_lesser_9 : decode cX9_lesser 9 = .ok (.iload_n 1, 1) := by decide +kernel
theorem dX9_lesser_10 : decode cX9_lesser 10 = .ok (.ireturn, 1) := by decide +kernel
theorem dX9_copy_0 : decode cX9_copy 0 = .ok (.iconst 0, 1) := by decide +kernel
theorem dX9_copy_1 : decode cX9_copy 1 = .ok (.istore_n 3, 1) := by decide +kernel
theorem dX9_copy_2 : decode cX9_copy 2 = .ok (.iload_n 3, 1) := by decide +kernel
theorem dX9_copy_3 : decode cX9_copy 3 = .ok (.sipush 283, 3) := by decide +kernel
theorem dX9_copy_6 : decode cX9_copy 6 = .ok (.if_icmp .ge 25, 3) := by decide +kernel
theorem dX9_copy_9 : decode cX9_copy 9 = .ok (.aload_n 0, 1) := by decide +kernel
theorem dX9_copy_10 : decode cX9_copy 10 = .ok (.getfield 7, 3) := by decide +kernel
theorem dX9_copy_13 : decode cX9_copy 13 = .ok (.iload_n 2, 1) := by decide +kernel
theorem dX9_copy_14 : decode cX9_copy 14 = .ok (.iload_n 3, 1) := by decide +kernel
theorem dX9_copy_15 : decode cX9_copy 15 = .ok (.iadd, 1) := by decide +kernel
theorem dX9_copy_16 : decode cX9_copy 16 = .ok (.aload_n 0, 1) := by decide +kernel
theorem dX9_copy_17 : decode cX9_copy 17 = .ok (.getfield 7, 3) := by decide +kernel
theorem dX9_copy_20 : decode cX9_copy 20 = .ok (.iload_n 1, 1) := by decide +kernel
theorem dX9_copy_21 : decode cX9_copy 21 = .ok (.iload_n 3, 1) := by decide +kernel
theorem dX9_copy_22 : decode cX9_copy 22 = .ok (.iadd, 1) := by decide +kernel
theorem dX9_copy_23 : decode cX9_copy 23 = .ok (.iaload, 1) := by decide +kernel
theorem dX9_copy_24 : decode cX9_copy 24 = .ok (.iastore, 1) := by decide +kernel
theorem dX9_copy_25 : decode cX9_copy 25 = .ok (.iinc 3 1, 3) := by decide +kernel
theorem dX9_copy_28 : decode cX9_copy 28 = .ok (.goto (-26), 3) := by decide +kernel
theorem dX9_copy_31 : decode cX9_copy 31 = .ok (.return_, 1) := by decide +kernel
theorem dX9_minds_0 : decode cX9_minds 0 = .ok (.aload_n 0, 1) := by decide +kernel
theorem dX9_minds_1 : decode cX9_minds 1 = .ok (.getfield 54, 3) := by decide +kernel
theorem dX9_minds_4 : decode cX9_minds 4 = .ok (.bipush 6, 2) := by decide +kernel
theorem dX9_minds_6 : decode cX9_minds 6 = .ok (.if_icmp .ne 48, 3) := by decide +kernel
theorem dX9_minds_9 : decode cX9_minds 9 = .ok (.iconst 0, 1) := by decide +kernel
theorem dX9_minds_10 : decode cX9_minds 10 = .ok (.istore_n 1, 1) := by decide +kernel
theorem dX9_minds_11 : decode cX9_minds 11 = .ok (.iload_n 1, 1) := by decide +kernel
theorem dX9_minds_12 : decode cX9_minds 12 = .ok (.sipush 1415, 3) := by decide +kernel
theorem dX9_minds_15 : decode cX9_minds 15 = .ok (.if_icmp .ge 29, 3) := by decide +kernel
theorem dX9_minds_18 : decode cX9_minds 18 = .ok (.aload_n 0, 1) := by decide +kernel
theorem dX9_minds_19 : decode cX9_minds 19 = .ok (.getfield 7, 3) := by decide +kernel
theorem dX9_minds_22 : decode cX9_minds 22 = .ok (.sipush 849, 3) := by decide +kernel
theorem dX9_minds_25 : decode cX9_minds 25 = .ok (.iload_n 1, 1) := by decide +kernel
theorem dX9_minds_26 : decode cX9_minds 26 = .ok (.iadd, 1) := by decide +kernel
theorem dX9_minds_27 : decode cX9_minds 27 = .ok (.aload_n 0, 1) := by decide +kernel
theorem dX9_minds_28 : decode cX9_minds 28 = .ok (.getfield 7, 3) := by decide +kernel
theorem dX9_minds_31 : decode cX9_minds 31 = .ok (.sipush 1132, 3) := by decide +kernel
theorem dX9_minds_34 : decode cX9_minds 34 = .ok (.iload_n 1, 1) := by decide +kernel
theorem dX9_minds_35 : decode cX9_minds 35 = .ok (.iadd, 1) := by decide +kernel
theorem dX9_minds_36 : decode cX9_minds 36 = .ok (.iaload, 1) := by decide +kernel
theorem dX9_minds_37 : decode cX9_minds 37 = .ok (.iastore, 1) := by decide +kernel
theorem dX9_minds_38 : decode cX9_minds 38 = .ok (.iinc 1 1, 3) := by decide +kernel
theorem dX9_minds_41 : decode cX9_minds 41 = .ok (.goto (-30), 3) := by decide +kernel
theorem dX9_minds_44 : decode cX9_minds 44 = .ok (.aload_n 0, 1) := by decide +kernel
theorem dX9_minds_45 : decode cX9_minds 45 = .ok (.dup, 1) := by decide +kernel
theorem dX9_minds_46 : decode cX9_minds 46 = .ok (.getfield 54, 3) := by decide +kernel
theorem dX9_minds_49 : decode cX9_minds 49 = .ok (.iconst 1, 1) := by decide +kernel
theorem dX9_minds_50 : decode cX9_minds 50 = .ok (.isub, 1) := by decide +kernel
theorem dX9_minds_51 : decode cX9_minds 51 = .ok (.putfield 54, 3) := by decide +kernel
theorem dX9_minds_54 : decode cX9_minds 54 = .ok (.aload_n 0, 1) := by decide +kernel
theorem dX9_minds_55 : decode cX9_minds 55 = .ok (.iconst 0, 1) := by decide +kernel
theorem dX9_minds_56 : decode cX9_minds 56 = .ok (.sipush 849, 3) := by decide +kernel
theorem dX9_minds_59 : decode cX9_minds 59 = .ok (.sipush 283, 3) := by decide +kernel
theorem dX9_minds_62 : decode cX9_minds 62 = .ok (.aload_n 0, 1) := by decide +kernel
theorem dX9_minds_63 : decode cX9_minds 63 = .ok (.getfield 54, 3) := by decide +kernel
theorem dX9_minds_66 : decode cX9_minds 66 = .ok (.imul, 1) := by decide +kernel
theorem dX9_minds_67 : decode cX9_minds 67 = .ok (.iadd, 1) := by decide +kernel
theorem dX9_minds_68 : decode cX9_minds 68 = .ok (.invokevirtual 58, 3) := by decide +kernel
theorem dX9_minds_71 : decode cX9_minds 71 = .ok (.aload_n 0, 1) := by decide +kernel
theorem dX9_minds_72 : decode cX9_minds 72 = .ok (.dup, 1) := by decide +kernel
theorem dX9_minds_73 : decode cX9_minds 73 = .ok (.getfield 54, 3) := by decide +kernel
theorem dX9_minds_76 : decode cX9_minds 76 = .ok (.iconst 1, 1) := by decide +kernel
theorem dX9_minds_77 : decode cX9_minds 77 = .ok (.iadd, 1) := by decide +kernel
theorem dX9_minds_78 : decode cX9_minds 78 = .ok (.putfield 54, 3) := by decide +kernel
theorem dX9_minds_81 : decode cX9_minds 81 = .ok (.return_, 1) := by decide +kernel
theorem dX9_isFigure_0 : decode cX9_isFigure 0 = .ok (.iload_n 0, 1) := by decide +kernel
theorem dX9_isFigure_1 : decode cX9_isFigure 1 = .ok (.i2l, 1) := by decide +kernel
theorem dX9_isFigure_2 : decode cX9_isFigure 2 = .ok (.ldc2_w 62, 3) := by decide +kernel
theorem dX9_isFigure_5 : decode cX9_isFigure 5 = .ok (.ldc2_w 64, 3) := by decide +kernel
theorem dX9_isFigure_8 : decode cX9_isFigure 8 = .ok (.invokestatic 66, 3) := by decide +kernel
theorem dX9_isFigure_11 : decode cX9_isFigure 11 = .ok (.ireturn, 1) := by decide +kernel
theorem dX9_take_0 : decode cX9_take 0 = .ok (.aload_n 0, 1) := by decide +kernel
theorem dX9_take_1 : decode cX9_take 1 = .ok (.getfield 70, 3) := by decide +kernel
theorem dX9_take_4 : decode cX9_take 4 = .ok (.aload_n 0, 1) := by decide +kernel
theorem dX9_take_5 : decode cX9_take 5 = .ok (.getfield 73, 3) := by decide +kernel
theorem dX9_take_8 : decode cX9_take 8 = .ok (.if_icmp .ge 30, 3) := by decide +kernel
theorem dX9_take_11 : decode cX9_take 11 = .ok (.aload_n 0, 1) := by decide +kernel
theorem dX9_take_12 : decode cX9_take 12 = .ok (.getfield 23, 3) := by decide +kernel
theorem dX9_take_15 : decode cX9_take 15 = .ok (.aload_n 0, 1) := by decide +kernel
theorem dX9_take_16 : decode cX9_take 16 = .ok (.getfield 70, 3) := by decide +kernel
theorem dX9_take_19 : decode cX9_take 19 = .ok (.iaload, 1) := by decide +kernel
theorem dX9_take_20 : decode cX9_take 20 = .ok (.bipush 32, 2) := by decide +kernel
theorem dX9_take_22 : decode cX9_take 22 = .ok (.if_icmp .ne 16, 3) := by decide +kernel
theorem dX9_take_25 : decode cX9_take 25 = .ok (.aload_n 0, 1) := by decide +kernel
theorem dX9_take_26 : decode cX9_take 26 = .ok (.dup, 1) := by decide +kernel
theorem dX9_take_27 : decode cX9_take 27 = .ok (.getfield 70, 3) := by decide +kernel
theorem dX9_take_30 : decode cX9_take 30 = .ok (.iconst 1, 1) := by decide +kernel
theorem dX9_take_31 : decode cX9_take 31 = .ok (.iadd, 1) := by decide +kernel
theorem dX9_take_32 : decode cX9_take 32 = .ok (.putfield 70, 3) := by decide +kernel
theorem dX9_take_35 : decode cX9_take 35 = .ok (.goto (-35), 3) := by decide +kernel
theorem dX9_take_38 : decode cX9_take 38 = .ok (.aload_n 0, 1) := by decide +kernel
theorem dX9_take_39 : decode cX9_take 39 = .ok (.aload_n 0, 1) := by decide +kernel
theorem dX9_take_40 : decode cX9_take 40 = .ok (.getfield 70, 3) := by decide +kernel
theorem dX9_take_43 : decode cX9_take 43 = .ok (.putfield 76, 3) := by decide +kernel
theorem dX9_take_46 : decode cX9_take 46 = .ok (.aload_n 0, 1) := by decide +kernel
theorem dX9_take_47 : decode cX9_take 47 = .ok (.getfield 70, 3) := by decide +kernel
theorem dX9_take_50 : decode cX9_take 50 = .ok (.aload_n 0, 1) := by decide +kernel
theorem dX9_take_51 : decode cX9_take 51 = .ok (.getfield 73, 3) := by decide +kernel
theorem dX9_take_54 : decode cX9_take 54 = .ok (.if_icmp .ne 9, 3) := by decide +kernel
theorem dX9_take_57 : decode cX9_take 57 = .ok (.aload_n 0, 1) := by decide +kernel
theorem dX9_take_58 : decode cX9_take 58 = .ok (.iconst (-1), 1) := by decide +kernel
theorem dX9_take_59 : decode cX9_take 59 = .ok (.putfield 79, 3) := by decide +kernel
theorem dX9_take_62 : decode cX9_take 62 = .ok (.return_, 1) := by decide +kernel
theorem dX9_take_63 : decode cX9_take 63 = .ok (.aload_n 0, 1) := by decide +kernel
theorem dX9_take_64 : decode cX9_take 64 = .ok (.getfield 23, 3) := by decide +kernel
theorem dX9_take_67 : decode cX9_take 67 = .ok (.aload_n 0, 1) := by decide +kernel
theorem dX9_take_68 : decode cX9_take 68 = .ok (.getfield 70, 3) := by decide +kernel
theorem dX9_take_71 : decode cX9_take 71 = .ok (.iaload, 1) := by decide +kernel
theorem dX9_take_72 : decode cX9_take 72 = .ok (.istore_n 1, 1) := by decide +kernel
theorem dX9_take_73 : decode cX9_take 73 = .ok (.aload_n 0, 1) := by decide +kernel
theorem dX9_take_74 : decode cX9_take 74 = .ok (.iload_n 1, 1) := by decide +kernel
theorem dX9_take_75 : decode cX9_take 75 = .ok (.invokestatic 82, 3) := by decide +kernel
theorem dX9_take_78 : decode cX9_take 78 = .ok (.ifCond .ge 9, 3) := by decide +kernel
theorem dX9_take_81 : decode cX9_take 81 = .ok (.iload_n 1, 1) := by decide +kernel
theorem dX9_take_82 : decode cX9_take 82 = .ok (.bipush 59, 2) := by decide +kernel
theorem dX9_take_84 : decode cX9_take 84 = .ok (.if_icmp .ne 7, 3) := by decide +kernel
theorem dX9_take_87 : decode cX9_take 87 = .ok (.iload_n 1, 1) := by decide +kernel
theorem dX9_take_88 : decode cX9_take 88 = .ok (.goto 4, 3) := by decide +kernel
theorem dX9_take_91 : decode cX9_take 91 = .ok (.iconst 0, 1) := by decide +kernel
theorem dX9_take_92 : decode cX9_take 92 = .ok (.putfield 79, 3) := by decide +kernel
theorem dX9_take_95 : decode cX9_take 95 = .ok (.aload_n 0, 1) := by decide +kernel
theorem dX9_take_96 : decode cX9_take 96 = .ok (.dup, 1) := by decide +kernel
theorem dX9_take_97 : decode cX9_take 97 = .ok (.getfield 70, 3) := by decide +kernel
theorem dX9_take_100 : decode cX9_take 100 = .ok (.iconst 1, 1) := by decide +kernel
theorem dX9_take_101 : decode cX9_take 101 = .ok (.iadd, 1) := by decide +kernel
theorem dX9_take_102 : decode cX9_take 102 = .ok (.putfield 70, 3) := by decide +kernel
theorem dX9_take_105 : decode cX9_take 105 = .ok (.iload_n 1, 1) := by decide +kernel
theorem dX9_take_106 : decode cX9_take 106 = .ok (.invokestatic 86, 3) := by decide +kernel
theorem dX9_take_109 : decode cX9_take 109 = .ok (.ifCond .eq 128, 3) := by decide +kernel
theorem dX9_take_112 : decode cX9_take 112 = .ok (.aload_n 0, 1) := by decide +kernel
theorem dX9_take_113 : decode cX9_take 113 = .ok (.iload_n 1, 1) := by decide +kernel
theorem dX9_take_114 : decode cX9_take 114 = .ok (.bipush 48, 2) := by decide +kernel
theorem dX9_take_116 : decode cX9_take 116 = .ok (.isub, 1) := by decide +kernel
theorem dX9_take_117 : decode cX9_take 117 = .ok (.putfield 90, 3) := by decide +kernel
theorem dX9_take_120 : decode cX9_take 120 = .ok (.aload_n 0, 1) := by decide +kernel
theorem dX9_take_121 : decode cX9_take 121 = .ok (.getfield 70, 3) := by decide +kernel
theorem dX9_take_124 : decode cX9_take 124 = .ok (.aload_n 0, 1) := by decide +kernel
theorem dX9_take_125 : decode cX9_take 125 = .ok (.getfield 73, 3) := by decide +kernel
theorem dX9_take_128 : decode cX9_take 128 = .ok (.if_icmp .ge 71, 3) := by decide +kernel
theorem dX9_take_131 : decode cX9_take 131 = .ok (.aload_n 0, 1) := by decide +kernel
theorem dX9_take_132 : decode cX9_take 132 = .ok (.getfield 23, 3) := by decide +kernel
theorem dX9_take_135 : decode cX9_take 135 = .ok (.aload_n 0, 1) := by decide +kernel
theorem dX9_take_136 : decode cX9_take 136 = .ok (.getfield 70, 3) := by decide +kernel
theorem dX9_take_139 : decode cX9_take 139 = .ok (.iaload, 1) := by decide +kernel
theorem dX9_take_140 : decode cX9_take 140 = .ok (.invokestatic 86, 3) := by decide +kernel
theorem dX9_take_143 : decode cX9_take 143 = .ok (.ifCond .eq 56, 3) := by decide +kernel
theorem dX9_take_146 : decode cX9_take 146 = .ok (.aload_n 0, 1) := by decide +kernel
theorem dX9_take_147 : decode cX9_take 147 = .ok (.aload_n 0, 1) := by decide +kernel
theorem dX9_take_148 : decode cX9_take 148 = .ok (.getfield 90, 3) := by decide +kernel
theorem dX9_take_151 : decode cX9_take 151 = .ok (.bipush 99, 2) := by decide +kernel
theorem dX9_take_153 : decode cX9_take 153 = .ok (.if_icmp .le 10, 3) := by decide +kernel
theorem dX9_take_156 : decode cX9_take 156 = .ok (.aload_n 0, 1) := by decide +kernel
theorem dX9_take_157 : decode cX9_take 157 = .ok (.getfield 90, 3) := by decide +kernel
theorem dX9_take_160 : decode cX9_take 160 = .ok (.goto 23, 3) := by decide +kernel
theorem dX9_take_163 : decode cX9_take 163 = .ok (.bipush 10, 2) := by decide +kernel
theorem dX9_take_165 : decode cX9_take 165 = .ok (.aload_n 0, 1) := by decide +kernel
theorem dX9_take_166 : decode cX9_take 166 = .ok (.getfield 90, 3) := by decide +kernel
theorem dX9_take_169 : decode cX9_take 169 = .ok (.imul, 1) := by decide +kernel
theorem dX9_take_170 : decode cX9_take 170 = .ok (.aload_n 0, 1) := by decide +kernel
theorem dX9_take_171 : decode cX9_take 171 = .ok (.getfield 23, 3) := by decide +kernel
theorem dX9_take_174 : decode cX9_take 174 = .ok (.aload_n 0, 1) := by decide +kernel
theorem dX9_take_175 : decode cX9_take 175 = .ok (.getfield 70, 3) := by decide +kernel
theorem dX9_take_178 : decode cX9_take 178 = .ok (.iaload, 1) := by decide +kernel
theorem dX9_take_179 : decode cX9_take 179 = .ok (.iadd, 1) := by decide +kernel
theorem dX9_take_180 : decode cX9_take 180 = .ok (.bipush 48, 2) := by decide +kernel
theorem dX9_take_182 : decode cX9_take 182 = .ok (.isub, 1) := by decide +kernel
theorem dX9_take_183 : decode cX9_take 183 = .ok (.putfield 90, 3) := by decide +kernel
theorem dX9_take_186 : decode cX9_take 186 = .ok (.aload_n 0, 1) := by decide +kernel
theorem dX9_take_187 : decode cX9_take 187 = .ok (.dup, 1) := by decide +kernel
theorem dX9_take_188 : decode cX9_take 188 = .ok (.getfield 70, 3) := by decide +kernel
theorem dX9_take_191 : decode cX9_take 191 = .ok (.iconst 1, 1) := by decide +kernel
theorem dX9_take_192 : decode cX9_take 192 = .ok (.iadd, 1) := by decide +kernel
theorem dX9_take_193 : decode cX9_take 193 = .ok (.putfield 70, 3) := by decide +kernel
theorem dX9_take_196 : decode cX9_take 196 = .ok (.goto (-76), 3) := by decide +kernel
theorem dX9_take_199 : decode cX9_take 199 = .ok (.aload_n 0, 1) := by decide +kernel
theorem dX9_take_200 : decode cX9_take 200 = .ok (.aload_n 0, 1) := by decide +kernel
theorem dX9_take_201 : decode cX9_take 201 = .ok (.getfield 90, 3) := by decide +kernel
theorem dX9_take_204 : decode cX9_take 204 = .ok (.bipush 99, 2) := by decide +kernel
theorem dX9_take_206 : decode cX9_take 206 = .ok (.if_icmp .gt 22, 3) := by decide +kernel
theorem dX9_take_209 : decode cX9_take 209 = .ok (.iload_n 1, 1) := by decide +kernel
theorem dX9_take_210 : decode cX9_take 210 = .ok (.bipush 48, 2) := by decide +kernel
theorem dX9_take_212 : decode cX9_take 212 = .ok (.if_icmp .ne 20, 3) := by decide +kernel
theorem dX9_take_215 : decode cX9_take 215 = .ok (.aload_n 0, 1) := by decide +kernel
theorem dX9_take_216 : decode cX9_take 216 = .ok (.getfield 70, 3) := by decide +kernel
theorem dX9_take_219 : decode cX9_take 219 = .ok (.aload_n 0, 1) := by decide +kernel
theorem dX9_take_220 : decode cX9_take 220 = .ok (.getfield 76, 3) := by decide +kernel
theorem dX9_take_223 : decode cX9_take 223 = .ok (.isub, 1) := by decide +kernel
theorem dX9_take_224 : decode cX9_take 224 = .ok (.iconst 1, 1) := by decide +kernel
theorem dX9_take_225 : decode cX9_take 225 = .ok (.if_icmp .le 7, 3) := by decide +kernel
theorem dX9_take_228 : decode cX9_take 228 = .ok (.iconst 0, 1) := by decide +kernel
theorem dX9_take_229 : decode cX9_take 229 = .ok (.goto 5, 3) := by decide +kernel
theorem dX9_take_232 : decode cX9_take 232 = .ok (.bipush (-2), 2) := by decide +kernel
theorem dX9_take_234 : decode cX9_take 234 = .ok (.putfield 79, 3) := by decide +kernel
theorem dX9_take_237 : decode cX9_take 237 = .ok (.return_, 1) := by decide +kernel
theorem dX9_which_0 : decode cX9_which 0 = .ok (.iload_n 0, 1) := by decide +kernel
theorem dX9_which_1 : decode cX9_which 1 = .ok (.lookupswitch 71 #[(99, 59), (100, 63), (104, 61), (107, 65), (109, 67), (119, 69)], 59) := by decide +kernel
theorem dX9_which_60 : decode cX9_which 60 = .ok (.iconst 0, 1) := by decide +kernel
theorem dX9_which_61 : decode cX9_which 61 = .ok (.ireturn, 1) := by decide +kernel
theorem dX9_which_62 : decode cX9_which 62 = .ok (.iconst 1, 1) := by decide +kernel
theorem dX9_which_63 : decode cX9_which 63 = .ok (.ireturn, 1) := by decide +kernel
theorem dX9_which_64 : decode cX9_which 64 = .ok (.iconst 2, 1) := by decide +kernel
theorem dX9_which_65 : decode cX9_which 65 = .ok (.ireturn, 1) := by decide +kernel
theorem dX9_which_66 : decode cX9_which 66 = .ok (.iconst 3, 1) := by decide +kernel
theorem dX9_which_67 : decode cX9_which 67 = .ok (.ireturn, 1) := by decide +kernel
theorem dX9_which_68 : decode cX9_which 68 = .ok (.iconst 4, 1) := by decide +kernel
theorem dX9_which_69 : decode cX9_which 69 = .ok (.ireturn, 1) := by decide +kernel
theorem dX9_which_70 : decode cX9_which 70 = .ok (.iconst 5, 1) := by decide +kernel
theorem dX9_which_71 : decode cX9_which 71 = .ok (.ireturn, 1) := by decide +kernel
theorem dX9_which_72 : decode cX9_which 72 = .ok (.bipush (-9), 2) := by decide +kernel
theorem dX9_which_74 : decode cX9_which 74 = .ok (.ireturn, 1) := by decide +kernel
theorem dX9_readsNumber_0 : decode cX9_readsNumber 0 = .ok (.aload_n 0, 1) := by decide +kernel
theorem dX9_readsNumber_1 : decode cX9_readsNumber 1 = .ok (.getfield 79, 3) := by decide +kernel
theorem dX9_readsNumber_4 : decode cX9_readsNumber 4 = .ok (.bipush (-2), 2) := by decide +kernel
theorem dX9_readsNumber_6 : decode cX9_readsNumber 6 = .ok (.if_icmp .ne 22, 3) := by decide +kernel
theorem dX9_readsNumber_9 : decode cX9_readsNumber 9 = .ok (.aload_n 0, 1) := by decide +kernel
theorem dX9_readsNumber_10 : decode cX9_readsNumber 10 = .ok (.getfield 90, 3) := by decide +kernel
theorem dX9_readsNumber_13 : decode cX9_readsNumber 13 = .ok (.i2l, 1) := by decide +kernel
theorem dX9_readsNumber_14 : decode cX9_readsNumber 14 = .ok (.iload_n 1, 1) := by decide +kernel
theorem dX9_readsNumber_15 : decode cX9_readsNumber 15 = .ok (.i2l, 1) := by decide +kernel
theorem dX9_readsNumber_16 : decode cX9_readsNumber 16 = .ok (.iload_n 2, 1) := by decide +kernel
theorem dX9_readsNumber_17 : decode cX9_readsNumber 17 = .ok (.i2l, 1) := by decide +kernel
theorem dX9_readsNumber_18 : decode cX9_readsNumber 18 = .ok (.invokestatic 66, 3) := by decide +kernel
theorem dX9_readsNumber_21 : decode cX9_readsNumber 21 = .ok (.ifCond .eq 7, 3) := by decide +kernel
theorem dX9_readsNumber_24 : decode cX9_readsNumber 24 = .ok (.iconst 1, 1) := by decide +kernel
theorem dX9_readsNumber_25 : decode cX9_readsNumber 25 = .ok (.goto 4, 3) := by decide +kernel
theorem dX9_readsNumber_28 : decode cX9_readsNumber 28 = .ok (.iconst 0, 1) := by decide +kernel
theorem dX9_readsNumber_29 : decode cX9_readsNumber 29 = .ok (.istore_n 3, 1) := by decide +kernel
theorem dX9_readsNumber_30 : decode cX9_readsNumber 30 = .ok (.iload_n 3, 1) := by decide +kernel
theorem dX9_readsNumber_31 : decode cX9_readsNumber 31 = .ok (.ifCond .eq 7, 3) := by decide +kernel
theorem dX9_readsNumber_34 : decode cX9_readsNumber 34 = .ok (.aload_n 0, 1) := by decide +kernel
theorem dX9_readsNumber_35 : decode cX9_readsNumber 35 = .ok (.invokevirtual 93, 3) := by decide +kernel
theorem dX9_readsNumber_38 : decode cX9_readsNumber 38 = .ok (.iload_n 3, 1) := by decide +kernel
theorem dX9_readsNumber_39 : decode cX9_readsNumber 39 = .ok (.ireturn, 1) := by decide +kernel
theorem dX9_keeps_0 : decode cX9_keeps 0 = .ok (.aload_n 0, 1) := by decide +kernel
theorem dX9_keeps_1 : decode cX9_keeps 1 = .ok (.aload_n 0, 1) := by decide +kernel
theorem dX9_keeps_2 : decode cX9_keeps 2 = .ok (.getfield 90, 3) := by decide +kernel
theorem dX9_keeps_5 : decode cX9_keeps 5 = .ok (.putfield 96, 3) := by decide +kernel
theorem dX9_keeps_8 : decode cX9_keeps 8 = .ok (.aload_n 0, 1) := by decide +kernel
theorem dX9_keeps_9 : decode cX9_keeps 9 = .ok (.iload_n 1, 1) := by decide +kernel
theorem dX9_keeps_10 : decode cX9_keeps 10 = .ok (.iload_n 2, 1) := by decide +kernel
theorem dX9_keeps_11 : decode cX9_keeps 11 = .ok (.invokevirtual 99, 3) := by decide +kernel
theorem dX9_keeps_14 : decode cX9_keeps 14 = .ok (.ireturn, 1) := by decide +kernel
theorem dX9_readsCell_0 : decode cX9_readsCell 0 = .ok (.aload_n 0, 1) := by decide +kernel
theorem dX9_readsCell_1 : decode cX9_readsCell 1 = .ok (.getfield 103, 3) := by decide +kernel
theorem dX9_readsCell_4 : decode cX9_readsCell 4 = .ok (.iconst 4, 1) := by decide +kernel
theorem dX9_readsCell_5 : decode cX9_readsCell 5 = .ok (.if_icmp .ne 5, 3) := by decide +kernel
theorem dX9_readsCell_8 : decode cX9_readsCell 8 = .ok (.iconst 0, 1) := by decide +kernel
theorem dX9_readsCell_9 : decode cX9_readsCell 9 = .ok (.ireturn, 1) := by decide +kernel
theorem dX9_readsCell_10 : decode cX9_readsCell 10 = .ok (.aload_n 0, 1) := by decide +kernel
theorem dX9_readsCell_11 : decode cX9_readsCell 11 = .ok (.invokevirtual 93, 3) := by decide +kernel
theorem dX9_readsCell_14 : decode cX9_readsCell 14 = .ok (.aload_n 0, 1) := by decide +kernel
theorem dX9_readsCell_15 : decode cX9_readsCell 15 = .ok (.iconst 1, 1) := by decide +kernel
theorem dX9_readsCell_16 : decode cX9_readsCell 16 = .ok (.bipush 6, 2) := by decide +kernel
theorem dX9_readsCell_18 : decode cX9_readsCell 18 = .ok (.invokevirtual 106, 3) := by decide +kernel
theorem dX9_readsCell_21 : decode cX9_readsCell 21 = .ok (.ifCond .ne 5, 3) := by decide +kernel
theorem dX9_readsCell_24 : decode cX9_readsCell 24 = .ok (.iconst 0, 1) := by decide +kernel
theorem dX9_readsCell_25 : decode cX9_readsCell 25 = .ok (.ireturn, 1) := by decide +kernel
theorem dX9_readsCell_26 : decode cX9_readsCell 26 = .ok (.aload_n 0, 1) := by decide +kernel
theorem dX9_readsCell_27 : decode cX9_readsCell 27 = .ok (.getfield 35, 3) := by decide +kernel
theorem dX9_readsCell_30 : decode cX9_readsCell 30 = .ok (.aload_n 0, 1) := by decide +kernel
theorem dX9_readsCell_31 : decode cX9_readsCell 31 = .ok (.getfield 103, 3) := by decide +kernel
theorem dX9_readsCell_34 : decode cX9_readsCell 34 = .ok (.aload_n 0, 1) := by decide +kernel
theorem dX9_readsCell_35 : decode cX9_readsCell 35 = .ok (.getfield 96, 3) := by decide +kernel
theorem dX9_readsCell_38 : decode cX9_readsCell 38 = .ok (.iastore, 1) := by decide +kernel
theorem dX9_readsCell_39 : decode cX9_readsCell 39 = .ok (.aload_n 0, 1) := by decide +kernel
theorem dX9_readsCell_40 : decode cX9_readsCell 40 = .ok (.iconst 0, 1) := by decide +kernel
theorem dX9_readsCell_41 : decode cX9_readsCell 41 = .ok (.bipush 10, 2) := by decide +kernel
theorem dX9_readsCell_43 : decode cX9_readsCell 43 = .ok (.aload_n 0, 1) := by decide +kernel
theorem dX9_readsCell_44 : decode cX9_readsCell 44 = .ok (.getfield 35, 3) := by decide +kernel
theorem dX9_readsCell_47 : decode cX9_readsCell 47 = .ok (.aload_n 0, 1) := by decide +kernel
theorem dX9_readsCell_48 : decode cX9_readsCell 48 = .ok (.getfield 103, 3) := by decide +kernel
theorem dX9_readsCell_51 : decode cX9_readsCell 51 = .ok (.iaload, 1) := by decide +kernel
theorem dX9_readsCell_52 : decode cX9_readsCell 52 = .ok (.imul, 1) := by decide +kernel
theorem dX9_readsCell_53 : decode cX9_readsCell 53 = .ok (.invokevirtual 106, 3) := by decide +kernel
theorem dX9_readsCell_56 : decode cX9_readsCell 56 = .ok (.ifCond .ne 5, 3) := by decide +kernel
theorem dX9_readsCell_59 : decode cX9_readsCell 59 = .ok (.iconst 0, 1) := by decide +kernel
theorem dX9_readsCell_60 : decode cX9_readsCell 60 = .ok (.ireturn, 1) := by decide +kernel
theorem dX9_readsCell_61 : decode cX9_readsCell 61 = .ok (.aload_n 0, 1) := by decide +kernel
theorem dX9_readsCell_62 : decode cX9_readsCell 62 = .ok (.getfield 38, 3) := by decide +kernel
theorem dX9_readsCell_65 : decode cX9_readsCell 65 = .ok (.aload_n 0, 1) := by decide +kernel
theorem dX9_readsCell_66 : decode cX9_readsCell 66 = .ok (.getfield 103, 3) := by decide +kernel
theorem dX9_readsCell_69 : decode cX9_readsCell 69 = .ok (.aload_n 0, 1) := by decide +kernel
theorem dX9_readsCell_70 : decode cX9_readsCell 70 = .ok (.getfield 96, 3) := by decide +kernel
theorem dX9_readsCell_73 : decode cX9_readsCell 73 = .ok (.iastore, 1) := by decide +kernel
theorem dX9_readsCell_74 : decode cX9_readsCell 74 = .ok (.aload_n 0, 1) := by decide +kernel
theorem dX9_readsCell_75 : decode cX9_readsCell 75 = .ok (.iconst 0, 1) := by decide +kernel
theorem dX9_readsCell_76 : decode cX9_readsCell 76 = .ok (.iconst 4, 1) := by decide +kernel
theorem dX9_readsCell_77 : decode cX9_readsCell 77 = .ok (.invokevirtual 106, 3) := by decide +kernel
theorem dX9_readsCell_80 : decode cX9_readsCell 80 = .ok (.ifCond .ne 5, 3) := by decide +kernel
theorem dX9_readsCell_83 : decode cX9_readsCell 83 = .ok (.iconst 0, 1) := by decide +kernel
theorem dX9_readsCell_84 : decode cX9_readsCell 84 = .ok (.ireturn, 1) := by decide +kernel
theorem dX9_readsCell_85 : decode cX9_readsCell 85 = .ok (.aload_n 0, 1) := by decide +kernel
theorem dX9_readsCell_86 : decode cX9_readsCell 86 = .ok (.getfield 41, 3) := by decide +kernel
theorem dX9_readsCell_89 : decode cX9_readsCell 89 = .ok (.aload_n 0, 1) := by decide +kernel
theorem dX9_readsCell_90 : decode cX9_readsCell 90 = .ok (.getfield 103, 3) := by decide +kernel
theorem dX9_readsCell_93 : decode cX9_readsCell 93 = .ok (.aload_n 0, 1) := by decide +kernel
theorem dX9_readsCell_94 : decode cX9_readsCell 94 = .ok (.getfield 96, 3) := by decide +kernel
theorem dX9_readsCell_97 : decode cX9_readsCell 97 = .ok (.iastore, 1) := by decide +kernel
theorem dX9_readsCell_98 : decode cX9_readsCell 98 = .ok (.aload_n 0, 1) := by decide +kernel
theorem dX9_readsCell_99 : decode cX9_readsCell 99 = .ok (.dup, 1) := by decide +kernel
theorem dX9_readsCell_100 : decode cX9_readsCell 100 = .ok (.getfield 103, 3) := by decide +kernel
theorem dX9_readsCell_103 : decode cX9_readsCell 103 = .ok (.iconst 1, 1) := by decide +kernel
theorem dX9_readsCell_104 : decode cX9_readsCell 104 = .ok (.iadd, 1) := by decide +kernel
theorem dX9_readsCell_105 : decode cX9_readsCell 105 = .ok (.putfield 103, 3) := by decide +kernel
theorem dX9_readsCell_108 : decode cX9_readsCell 108 = .ok (.iconst 1, 1) := by decide +kernel
theorem dX9_readsCell_109 : decode cX9_readsCell 109 = .ok (.ireturn, 1) := by decide +kernel
theorem dX9_least_0 : decode cX9_least 0 = .ok (.iload_n 0, 1) := by decide +kernel
theorem dX9_least_1 : decode cX9_least 1 = .ok (.iconst 2, 1) := by decide +kernel
theorem dX9_least_2 : decode cX9_least 2 = .ok (.if_icmp .eq 8, 3) := by decide +kernel
theorem dX9_least_5 : decode cX9_least 5 = .ok (.iload_n 0, 1) := by decide +kernel
theorem dX9_least_6 : decode cX9_least 6 = .ok (.iconst 5, 1) := by decide +kernel
theorem dX9_least_7 : decode cX9_least 7 = .ok (.if_icmp .ne 7, 3) := by decide +kernel
theorem dX9_least_10 : decode cX9_least 10 = .ok (.iconst 1, 1) := by decide +kernel
theorem dX9_least_11 : decode cX9_least 11 = .ok (.goto 4, 3) := by decide +kernel
theorem dX9_least_14 : decode cX9_least 14 = .ok (.iconst 0, 1) := by decide +kernel
theorem dX9_least_15 : decode cX9_least 15 = .ok (.ireturn, 1) := by decide +kernel
theorem dX9_most_0 : decode cX9_most 0 = .ok (.iload_n 0, 1) := by decide +kernel
theorem dX9_most_1 : decode cX9_most 1 = .ok (.tableswitch 41 1 4 #[31, 34, 36, 38], 31) := by decide +kernel
theorem dX9_most_32 : decode cX9_most 32 = .ok (.bipush 20, 2) := by decide +kernel
theorem dX9_most_34 : decode cX9_most 34 = .ok (.ireturn, 1) := by decide +kernel
theorem dX9_most_35 : decode cX9_most 35 = .ok (.iconst 5, 1) := by decide +kernel
theorem dX9_most_36 : decode cX9_most 36 = .ok (.ireturn, 1) := by decide +kernel
theorem dX9_most_37 : decode cX9_most 37 = .ok (.iconst 3, 1) := by decide +kernel
theorem dX9_most_38 : decode cX9_most 38 = .ok (.ireturn, 1) := by decide +kernel
theorem dX9_most_39 : decode cX9_most 39 = .ok (.bipush 60, 2) := by decide +kernel
theorem dX9_most_41 : decode cX9_most 41 = .ok (.ireturn, 1) := by decide +kernel
theorem dX9_most_42 : decode cX9_most 42 = .ok (.bipush 9, 2) := by decide +kernel
theorem dX9_most_44 : decode cX9_most 44 = .ok (.ireturn, 1) := by decide +kernel
theorem dX9_readsItem_0 : decode cX9_readsItem 0 = .ok (.aload_n 0, 1) := by decide +kernel
theorem dX9_readsItem_1 : decode cX9_readsItem 1 = .ok (.getfield 79, 3) := by decide +kernel
theorem dX9_readsItem_4 : decode cX9_readsItem 4 = .ok (.invokestatic 82, 3) := by decide +kernel
theorem dX9_readsItem_7 : decode cX9_readsItem 7 = .ok (.istore_n 1, 1) := by decide +kernel
theorem dX9_readsItem_8 : decode cX9_readsItem 8 = .ok (.iload_n 1, 1) := by decide +kernel
theorem dX9_readsItem_9 : decode cX9_readsItem 9 = .ok (.ifCond .lt 15, 3) := by decide +kernel
theorem dX9_readsItem_12 : decode cX9_readsItem 12 = .ok (.aload_n 0, 1) := by decide +kernel
theorem dX9_readsItem_13 : decode cX9_readsItem 13 = .ok (.getfield 109, 3) := by decide +kernel
theorem dX9_readsItem_16 : decode cX9_readsItem 16 = .ok (.iload_n 1, 1) := by decide +kernel
theorem dX9_readsItem_17 : decode cX9_readsItem 17 = .ok (.ishr, 1) := by decide +kernel
theorem dX9_readsItem_18 : decode cX9_readsItem 18 = .ok (.iconst 1, 1) := by decide +kernel
theorem dX9_readsItem_19 : decode cX9_readsItem 19 = .ok (.iand, 1) := by decide +kernel
theorem dX9_readsItem_20 : decode cX9_readsItem 20 = .ok (.iconst 1, 1) := by decide +kernel
theorem dX9_readsItem_21 : decode cX9_readsItem 21 = .ok (.if_icmp .ne 5, 3) := by decide +kernel
theorem dX9_readsItem_24 : decode cX9_readsItem 24 = .ok (.iconst 0, 1) := by decide +kernel
theorem dX9_readsItem_25 : decode cX9_readsItem 25 = .ok (.ireturn, 1) := by decide +kernel
theorem dX9_readsItem_26 : decode cX9_readsItem 26 = .ok (.iload_n 1, 1) := by decide +kernel
theorem dX9_readsItem_27 : decode cX9_readsItem 27 = .ok (.ifCond .ne 8, 3) := by decide +kernel
theorem dX9_readsItem_30 : decode cX9_readsItem 30 = .ok (.aload_n 0, 1) := by decide +kernel
theorem dX9_readsItem_31 : decode cX9_readsItem 31 = .ok (.invokevirtual 112, 3) := by decide +kernel
theorem dX9_readsItem_34 : decode cX9_readsItem 34 = .ok (.ireturn, 1) := by decide +kernel
theorem dX9_readsItem_35 : decode cX9_readsItem 35 = .ok (.aload_n 0, 1) := by decide +kernel
theorem dX9_readsItem_36 : decode cX9_readsItem 36 = .ok (.dup, 1) := by decide +kernel
theorem dX9_readsItem_37 : decode cX9_readsItem 37 = .ok (.getfield 109, 3) := by decide +kernel
theorem dX9_readsItem_40 : decode cX9_readsItem 40 = .ok (.iconst 1, 1) := by decide +kernel
theorem dX9_readsItem_41 : decode cX9_readsItem 41 = .ok (.iload_n 1, 1) := by decide +kernel
theorem dX9_readsItem_42 : decode cX9_readsItem 42 = .ok (.ishl, 1) := by decide +kernel
theorem dX9_readsItem_43 : decode cX9_readsItem 43 = .ok (.ior, 1) := by decide +kernel
theorem dX9_readsItem_44 : decode cX9_readsItem 44 = .ok (.putfield 109, 3) := by decide +kernel
theorem dX9_readsItem_47 : decode cX9_readsItem 47 = .ok (.aload_n 0, 1) := by decide +kernel
theorem dX9_readsItem_48 : decode cX9_readsItem 48 = .ok (.invokevirtual 93, 3) := by decide +kernel
theorem dX9_readsItem_51 : decode cX9_readsItem 51 = .ok (.aload_n 0, 1) := by decide +kernel
theorem dX9_readsItem_52 : decode cX9_readsItem 52 = .ok (.iload_n 1, 1) := by decide +kernel
theorem dX9_readsItem_53 : decode cX9_readsItem 53 = .ok (.invokestatic 116, 3) := by decide +kernel
theorem dX9_readsItem_56 : decode cX9_readsItem 56 = .ok (.iload_n 1, 1) := by decide +kernel
theorem dX9_readsItem_57 : decode cX9_readsItem 57 = .ok (.invokestatic 119, 3) := by decide +kernel
theorem dX9_readsItem_60 : decode cX9_readsItem 60 = .ok (.invokevirtual 106, 3) := by decide +kernel
theorem dX9_readsItem_63 : decode cX9_readsItem 63 = .ok (.istore_n 2, 1) := by decide +kernel
theorem dX9_readsItem_64 : decode cX9_readsItem 64 = .ok (.aload_n 0, 1) := by decide +kernel
theorem dX9_readsItem_65 : decode cX9_readsItem 65 = .ok (.getfield 44, 3) := by decide +kernel
theorem dX9_readsItem_68 : decode cX9_readsItem 68 = .ok (.iload_n 1, 1) := by decide +kernel
theorem dX9_readsItem_69 : decode cX9_readsItem 69 = .ok (.aload_n 0, 1) := by decide +kernel
theorem dX9_readsItem_70 : decode cX9_readsItem 70 = .ok (.getfield 96, 3) := by decide +kernel
theorem dX9_readsItem_73 : decode cX9_readsItem 73 = .ok (.iastore, 1) := by decide +kernel
theorem dX9_readsItem_74 : decode cX9_readsItem 74 = .ok (.iload_n 2, 1) := by decide +kernel
theorem dX9_readsItem_75 : decode cX9_readsItem 75 = .ok (.ireturn, 1) := by decide +kernel
theorem dX9_reads_0 : decode cX9_reads 0 = .ok (.aload_n 0, 1) := by decide +kernel
theorem dX9_reads_1 : decode cX9_reads 1 = .ok (.iconst 0, 1) := by decide +kernel
theorem dX9_reads_2 : decode cX9_reads 2 = .ok (.putfield 70, 3) := by decide +kernel
theorem dX9_reads_5 : decode cX9_reads 5 = .ok (.aload_n 0, 1) := by decide +kernel
theorem dX9_reads_6 : decode cX9_reads 6 = .ok (.iconst 0, 1) := by decide +kernel
theorem dX9_reads_7 : decode cX9_reads 7 = .ok (.putfield 122, 3) := by decide +kernel
theorem dX9_reads_10 : decode cX9_reads 10 = .ok (.aload_n 0, 1) := by decide +kernel
theorem dX9_reads_11 : decode cX9_reads 11 = .ok (.iconst 0, 1) := by decide +kernel
theorem dX9_reads_12 : decode cX9_reads 12 = .ok (.putfield 103, 3) := by decide +kernel
theorem dX9_reads_15 : decode cX9_reads 15 = .ok (.aload_n 0, 1) := by decide +kernel
theorem dX9_reads_16 : decode cX9_reads 16 = .ok (.iconst 0, 1) := by decide +kernel
theorem dX9_reads_17 : decode cX9_reads 17 = .ok (.putfield 109, 3) := by decide +kernel
theorem dX9_reads_20 : decode cX9_reads 20 = .ok (.aload_n 0, 1) := by decide +kernel
theorem dX9_reads_21 : decode cX9_reads 21 = .ok (.getfield 44, 3) := by decide +kernel
theorem dX9_reads_24 : decode cX9_reads 24 = .ok (.iconst 1, 1) := by decide +kernel
theorem dX9_reads_25 : decode cX9_reads 25 = .ok (.iconst 3, 1) := by decide +kernel
theorem dX9_reads_26 : decode cX9_reads 26 = .ok (.iastore, 1) := by decide +kernel
theorem dX9_reads_27 : decode cX9_reads 27 = .ok (.aload_n 0, 1) := by decide +kernel
theorem dX9_reads_28 : decode cX9_reads 28 = .ok (.getfield 44, 3) := by decide +kernel
theorem dX9_reads_31 : decode cX9_reads 31 = .ok (.iconst 2, 1) := by decide +kernel
theorem dX9_reads_32 : decode cX9_reads 32 = .ok (.iconst 2, 1) := by decide +kernel
theorem dX9_reads_33 : decode cX9_reads 33 = .ok (.iastore, 1) := by decide +kernel
theorem dX9_reads_34 : decode cX9_reads 34 = .ok (.aload_n 0, 1) := by decide +kernel
theorem dX9_reads_35 : decode cX9_reads 35 = .ok (.getfield 44, 3) := by decide +kernel
theorem dX9_reads_38 : decode cX9_reads 38 = .ok (.iconst 3, 1) := by decide +kernel
theorem dX9_reads_39 : decode cX9_reads 39 = .ok (.iconst 1, 1) := by decide +kernel
theorem dX9_reads_40 : decode cX9_reads 40 = .ok (.iastore, 1) := by decide +kernel
theorem dX9_reads_41 : decode cX9_reads 41 = .ok (.aload_n 0, 1) := by decide +kernel
theorem dX9_reads_42 : decode cX9_reads 42 = .ok (.getfield 44, 3) := by decide +kernel
theorem dX9_reads_45 : decode cX9_reads 45 = .ok (.iconst 4, 1) := by decide +kernel
theorem dX9_reads_46 : decode cX9_reads 46 = .ok (.bipush 10, 2) := by decide +kernel
theorem dX9_reads_48 : decode cX9_reads 48 = .ok (.iastore, 1) := by decide +kernel
theorem dX9_reads_49 : decode cX9_reads 49 = .ok (.aload_n 0, 1) := by decide +kernel
theorem dX9_reads_50 : decode cX9_reads 50 = .ok (.getfield 44, 3) := by decide +kernel
theorem dX9_reads_53 : decode cX9_reads 53 = .ok (.iconst 5, 1) := by decide +kernel
theorem dX9_reads_54 : decode cX9_reads 54 = .ok (.iconst 3, 1) := by decide +kernel
theorem dX9_reads_55 : decode cX9_reads 55 = .ok (.iastore, 1) := by decide +kernel
theorem dX9_reads_56 : decode cX9_reads 56 = .ok (.aload_n 0, 1) := by decide +kernel
theorem dX9_reads_57 : decode cX9_reads 57 = .ok (.invokevirtual 93, 3) := by decide +kernel
theorem dX9_reads_60 : decode cX9_reads 60 = .ok (.aload_n 0, 1) := by decide +kernel
theorem dX9_reads_61 : decode cX9_reads 61 = .ok (.getfield 79, 3) := by decide +kernel
theorem dX9_reads_64 : decode cX9_reads 64 = .ok (.iconst (-1), 1) := by decide +kernel
theorem dX9_reads_65 : decode cX9_reads 65 = .ok (.if_icmp .eq 38, 3) := by decide +kernel
theorem dX9_reads_68 : decode cX9_reads 68 = .ok (.aload_n 0, 1) := by decide +kernel
theorem dX9_reads_69 : decode cX9_reads 69 = .ok (.invokevirtual 125, 3) := by decide +kernel
theorem dX9_reads_72 : decode cX9_reads 72 = .ok (.ifCond .eq 12, 3) := by decide +kernel
theorem dX9_reads_75 : decode cX9_reads 75 = .ok (.aload_n 0, 1) := by decide +kernel
theorem dX9_reads_76 : decode cX9_reads 76 = .ok (.getfield 79, 3) := by decide +kernel
theorem dX9_reads_79 : decode cX9_reads 79 = .ok (.bipush 59, 2) := by decide +kernel
theorem dX9_reads_81 : decode cX9_reads 81 = .ok (.if_icmp .eq 5, 3) := by decide +kernel
theorem dX9_reads_84 : decode cX9_reads 84 = .ok (.iconst 0, 1) := by decide +kernel
theorem dX9_reads_85 : decode cX9_reads 85 = .ok (.ireturn, 1) := by decide +kernel
theorem dX9_reads_86 : decode cX9_reads 86 = .ok (.aload_n 0, 1) := by decide +kernel
theorem dX9_reads_87 : decode cX9_reads 87 = .ok (.dup, 1) := by decide +kernel
theorem dX9_reads_88 : decode cX9_reads 88 = .ok (.getfield 122, 3) := by decide +kernel
theorem dX9_reads_91 : decode cX9_reads 91 = .ok (.iconst 1, 1) := by decide +kernel
theorem dX9_reads_92 : decode cX9_reads 92 = .ok (.iadd, 1) := by decide +kernel
theorem dX9_reads_93 : decode cX9_reads 93 = .ok (.putfield 122, 3) := by decide +kernel
theorem dX9_reads_96 : decode cX9_reads 96 = .ok (.aload_n 0, 1) := by decide +kernel
theorem dX9_reads_97 : decode cX9_reads 97 = .ok (.invokevirtual 93, 3) := by decide +kernel
theorem dX9_reads_100 : decode cX9_reads 100 = .ok (.goto (-40), 3) := by decide +kernel
theorem dX9_reads_103 : decode cX9_reads 103 = .ok (.iconst 1, 1) := by decide +kernel
theorem dX9_reads_104 : decode cX9_reads 104 = .ok (.ireturn, 1) := by decide +kernel
theorem dX9_type_0 : decode cX9_type 0 = .ok (.iload_n 1, 1) := by decide +kernel
theorem dX9_type_1 : decode cX9_type 1 = .ok (.i2l, 1) := by decide +kernel
theorem dX9_type_2 : decode cX9_type 2 = .ok (.lconst 0, 1) := by decide +kernel
theorem dX9_type_3 : decode cX9_type 3 = .ok (.ldc2_w 128, 3) := by decide +kernel
theorem dX9_type_6 : decode cX9_type 6 = .ok (.invokestatic 66, 3) := by decide +kernel
theorem dX9_type_9 : decode cX9_type 9 = .ok (.ifCond .ne 5, 3) := by decide +kernel
theorem dX9_type_12 : decode cX9_type 12 = .ok (.iconst (-1), 1) := by decide +kernel
theorem dX9_type_13 : decode cX9_type 13 = .ok (.ireturn, 1) := by decide +kernel
theorem dX9_type_14 : decode cX9_type 14 = .ok (.aload_n 0, 1) := by decide +kernel
theorem dX9_type_15 : decode cX9_type 15 = .ok (.getfield 73, 3) := by decide +kernel
theorem dX9_type_18 : decode cX9_type 18 = .ok (.bipush 120, 2) := by decide +kernel
theorem dX9_type_20 : decode cX9_type 20 = .ok (.if_icmp .ne 6, 3) := by decide +kernel
theorem dX9_type_23 : decode cX9_type 23 = .ok (.bipush (-3), 2) := by decide +kernel
theorem dX9_type_25 : decode cX9_type 25 = .ok (.ireturn, 1) := by decide +kernel
theorem dX9_type_26 : decode cX9_type 26 = .ok (.aload_n 0, 1) := by decide +kernel
theorem dX9_type_27 : decode cX9_type 27 = .ok (.getfield 23, 3) := by decide +kernel
theorem dX9_type_30 : decode cX9_type 30 = .ok (.aload_n 0, 1) := by decide +kernel
theorem dX9_type_31 : decode cX9_type 31 = .ok (.getfield 73, 3) := by decide +kernel
theorem dX9_type_34 : decode cX9_type 34 = .ok (.iload_n 1, 1) := by decide +kernel
theorem dX9_type_35 : decode cX9_type 35 = .ok (.iastore, 1) := by decide +kernel
theorem dX9_type_36 : decode cX9_type 36 = .ok (.aload_n 0, 1) := by decide +kernel
theorem dX9_type_37 : decode cX9_type 37 = .ok (.dup, 1) := by decide +kernel
theorem dX9_type_38 : decode cX9_type 38 = .ok (.getfield 73, 3) := by decide +kernel
theorem dX9_type_41 : decode cX9_type 41 = .ok (.iconst 1, 1) := by decide +kernel
theorem dX9_type_42 : decode cX9_type 42 = .ok (.iadd, 1) := by decide +kernel
theorem dX9_type_43 : decode cX9_type 43 = .ok (.putfield 73, 3) := by decide +kernel
theorem dX9_type_46 : decode cX9_type 46 = .ok (.aload_n 0, 1) := by decide +kernel
theorem dX9_type_47 : decode cX9_type 47 = .ok (.getfield 73, 3) := by decide +kernel
theorem dX9_type_50 : decode cX9_type 50 = .ok (.ireturn, 1) := by decide +kernel
theorem dX9_clear_0 : decode cX9_clear 0 = .ok (.aload_n 0, 1) := by decide +kernel
theorem dX9_clear_1 : decode cX9_clear 1 = .ok (.getfield 73, 3) := by decide +kernel
theorem dX9_clear_4 : decode cX9_clear 4 = .ok (.istore_n 1, 1) := by decide +kernel
theorem dX9_clear_5 : decode cX9_clear 5 = .ok (.aload_n 0, 1) := by decide +kernel
theorem dX9_clear_6 : decode cX9_clear 6 = .ok (.iconst 0, 1) := by decide +kernel
theorem dX9_clear_7 : decode cX9_clear 7 = .ok (.putfield 73, 3) := by decide +kernel
theorem dX9_clear_10 : decode cX9_clear 10 = .ok (.iload_n 1, 1) := by decide +kernel
theorem dX9_clear_11 : decode cX9_clear 11 = .ok (.ireturn, 1) := by decide +kernel
theorem dX9_tells_0 : decode cX9_tells 0 = .ok (.aload_n 0, 1) := by decide +kernel
theorem dX9_tells_1 : decode cX9_tells 1 = .ok (.invokevirtual 130, 3) := by decide +kernel
theorem dX9_tells_4 : decode cX9_tells 4 = .ok (.ifCond .ne 11, 3) := by decide +kernel
theorem dX9_tells_7 : decode cX9_tells 7 = .ok (.bipush (-10), 2) := by decide +kernel
theorem dX9_tells_9 : decode cX9_tells 9 = .ok (.aload_n 0, 1) := by decide +kernel
theorem dX9_tells_10 : decode cX9_tells 10 = .ok (.getfield 76, 3) := by decide +kernel
theorem dX9_tells_13 : decode cX9_tells 13 = .ok (.isub, 1) := by decide +kernel
theorem dX9_tells_14 : decode cX9_tells 14 = .ok (.ireturn, 1) := by decide +kernel
theorem dX9_tells_15 : decode cX9_tells 15 = .ok (.aload_n 0, 1) := by decide +kernel
theorem dX9_tells_16 : decode cX9_tells 16 = .ok (.aload_n 0, 1) := by decide +kernel
theorem dX9_tells_17 : decode cX9_tells 17 = .ok (.getfield 103, 3) := by decide +kernel
theorem dX9_tells_20 : decode cX9_tells 20 = .ok (.putfield 133, 3) := by decide +kernel
theorem dX9_tells_23 : decode cX9_tells 23 = .ok (.iconst 0, 1) := by decide +kernel
theorem dX9_tells_24 : decode cX9_tells 24 = .ok (.istore_n 1, 1) := by decide +kernel
theorem dX9_tells_25 : decode cX9_tells 25 = .ok (.iload_n 1, 1) := by decide +kernel
theorem dX9_tells_26 : decode cX9_tells 26 = .ok (.sipush 283, 3) := by decide +kernel
theorem dX9_tells_29 : decode cX9_tells 29 = .ok (.if_icmp .ge 16, 3) := by decide +kernel
theorem dX9_tells_32 : decode cX9_tells 32 = .ok (.aload_n 0, 1) := by decide +kernel
theorem dX9_tells_33 : decode cX9_tells 33 = .ok (.getfield 7, 3) := by decide +kernel
theorem dX9_tells_36 : decode cX9_tells 36 = .ok (.iload_n 1, 1) := by decide +kernel
theorem dX9_tells_37 : decode cX9_tells 37 = .ok (.iconst 0, 1) := by decide +kernel
theorem dX9_tells_38 : decode cX9_tells 38 = .ok (.iastore, 1) := by decide +kernel
theorem dX9_tells_39 : decode cX9_tells 39 = .ok (.iinc 1 1, 3) := by decide +kernel
theorem dX9_tells_42 : decode cX9_tells 42 = .ok (.goto (-17), 3) := by decide +kernel
theorem dX9_tells_45 : decode cX9_tells 45 = .ok (.iconst 0, 1) := by decide +kernel
theorem dX9_tells_46 : decode cX9_tells 46 = .ok (.istore_n 1, 1) := by decide +kernel
theorem dX9_tells_47 : decode cX9_tells 47 = .ok (.iload_n 1, 1) := by decide +kernel
theorem dX9_tells_48 : decode cX9_tells 48 = .ok (.iconst 4, 1) := by decide +kernel
theorem dX9_tells_49 : decode cX9_tells 49 = .ok (.if_icmp .ge 49, 3) := by decide +kernel
theorem dX9_tells_52 : decode cX9_tells 52 = .ok (.aload_n 0, 1) := by decide +kernel
theorem dX9_tells_53 : decode cX9_tells 53 = .ok (.getfield 26, 3) := by decide +kernel
theorem dX9_tells_56 : decode cX9_tells 56 = .ok (.iload_n 1, 1) := by decide +kernel
theorem dX9_tells_57 : decode cX9_tells 57 = .ok (.aload_n 0, 1) := by decide +kernel
theorem dX9_tells_58 : decode cX9_tells 58 = .ok (.getfield 35, 3) := by decide +kernel
theorem dX9_tells_61 : decode cX9_tells 61 = .ok (.iload_n 1, 1) := by decide +kernel
theorem dX9_tells_62 : decode cX9_tells 62 = .ok (.iaload, 1) := by decide +kernel
theorem dX9_tells_63 : decode cX9_tells 63 = .ok (.iastore, 1) := by decide +kernel
theorem dX9_tells_64 : decode cX9_tells 64 = .ok (.aload_n 0, 1) := by decide +kernel
theorem dX9_tells_65 : decode cX9_tells 65 = .ok (.getfield 29, 3) := by decide +kernel
theorem dX9_tells_68 : decode cX9_tells 68 = .ok (.iload_n 1, 1) := by decide +kernel
theorem dX9_tells_69 : decode cX9_tells 69 = .ok (.aload_n 0, 1) := by decide +kernel
theorem dX9_tells_70 : decode cX9_tells 70 = .ok (.getfield 41, 3) := by decide +kernel
theorem dX9_tells_73 : decode cX9_tells 73 = .ok (.iload_n 1, 1) := by decide +kernel
theorem dX9_tells_74 : decode cX9_tells 74 = .ok (.iaload, 1) := by decide +kernel
theorem dX9_tells_75 : decode cX9_tells 75 = .ok (.iastore, 1) := by decide +kernel
theorem dX9_tells_76 : decode cX9_tells 76 = .ok (.aload_n 0, 1) := by decide +kernel
theorem dX9_tells_77 : decode cX9_tells 77 = .ok (.getfield 7, 3) := by decide +kernel
theorem dX9_tells_80 : decode cX9_tells 80 = .ok (.sipush 216, 3) := by decide +kernel
theorem dX9_tells_83 : decode cX9_tells 83 = .ok (.iload_n 1, 1) := by decide +kernel
theorem dX9_tells_84 : decode cX9_tells 84 = .ok (.iadd, 1) := by decide +kernel
theorem dX9_tells_85 : decode cX9_tells 85 = .ok (.aload_n 0, 1) := by decide +kernel
theorem dX9_tells_86 : decode cX9_tells 86 = .ok (.getfield 38, 3) := by decide +kernel
theorem dX9_tells_89 : decode cX9_tells 89 = .ok (.iload_n 1, 1) := by decide +kernel
theorem dX9_tells_90 : decode cX9_tells 90 = .ok (.iaload, 1) := by decide +kernel
theorem dX9_tells_91 : decode cX9_tells 91 = .ok (.iastore, 1) := by decide +kernel
theorem dX9_tells_92 : decode cX9_tells 92 = .ok (.iinc 1 1, 3) := by decide +kernel
theorem dX9_tells_95 : decode cX9_tells 95 = .ok (.goto (-48), 3) := by decide +kernel
theorem dX9_tells_98 : decode cX9_tells 98 = .ok (.iconst 0, 1) := by decide +kernel
theorem dX9_tells_99 : decode cX9_tells 99 = .ok (.istore_n 1, 1) := by decide +kernel
theorem dX9_tells_100 : decode cX9_tells 100 = .ok (.iload_n 1, 1) := by decide +kernel
theorem dX9_tells_101 : decode cX9_tells 101 = .ok (.bipush 6, 2) := by decide +kernel
theorem dX9_tells_103 : decode cX9_tells 103 = .ok (.if_icmp .ge 21, 3) := by decide +kernel
theorem dX9_tells_106 : decode cX9_tells 106 = .ok (.aload_n 0, 1) := by decide +kernel
theorem dX9_tells_107 : decode cX9_tells 107 = .ok (.getfield 32, 3) := by decide +kernel
theorem dX9_tells_110 : decode cX9_tells 110 = .ok (.iload_n 1, 1) := by decide +kernel
theorem dX9_tells_111 : decode cX9_tells 111 = .ok (.aload_n 0, 1) := by decide +kernel
theorem dX9_tells_112 : decode cX9_tells 112 = .ok (.getfield 44, 3) := by decide +kernel
theorem dX9_tells_115 : decode cX9_tells 115 = .ok (.iload_n 1, 1) := by decide +kernel
theorem dX9_tells_116 : decode cX9_tells 116 = .ok (.iaload, 1) := by decide +kernel
theorem dX9_tells_117 : decode cX9_tells 117 = .ok (.iastore, 1) := by decide +kernel
theorem dX9_tells_118 : decode cX9_tells 118 = .ok (.iinc 1 1, 3) := by decide +kernel
theorem dX9_tells_121 : decode cX9_tells 121 = .ok (.goto (-21), 3) := by decide +kernel
theorem dX9_tells_124 : decode cX9_tells 124 = .ok (.aload_n 0, 1) := by decide +kernel
theorem dX9_tells_125 : decode cX9_tells 125 = .ok (.iconst 0, 1) := by decide +kernel
theorem dX9_tells_126 : decode cX9_tells 126 = .ok (.putfield 73, 3) := by decide +kernel
theorem dX9_tells_129 : decode cX9_tells 129 = .ok (.aload_n 0, 1) := by decide +kernel
theorem dX9_tells_130 : decode cX9_tells 130 = .ok (.iconst 0, 1) := by decide +kernel
theorem dX9_tells_131 : decode cX9_tells 131 = .ok (.putfield 54, 3) := by decide +kernel
theorem dX9_tells_134 : decode cX9_tells 134 = .ok (.aload_n 0, 1) := by decide +kernel
theorem dX9_tells_135 : decode cX9_tells 135 = .ok (.iconst 0, 1) := by decide +kernel
theorem dX9_tells_136 : decode cX9_tells 136 = .ok (.putfield 136, 3) := by decide +kernel
theorem dX9_tells_139 : decode cX9_tells 139 = .ok (.aload_n 0, 1) := by decide +kernel
theorem dX9_tells_140 : decode cX9_tells 140 = .ok (.getfield 13, 3) := by decide +kernel
theorem dX9_tells_143 : decode cX9_tells 143 = .ok (.iconst 0, 1) := by decide +kernel
theorem dX9_tells_144 : decode cX9_tells 144 = .ok (.iconst 0, 1) := by decide +kernel
theorem dX9_tells_145 : decode cX9_tells 145 = .ok (.bastore, 1) := by decide +kernel
theorem dX9_tells_146 : decode cX9_tells 146 = .ok (.aload_n 0, 1) := by decide +kernel
theorem dX9_tells_147 : decode cX9_tells 147 = .ok (.getfield 13, 3) := by decide +kernel
theorem dX9_tells_150 : decode cX9_tells 150 = .ok (.iconst 1, 1) := by decide +kernel
theorem dX9_tells_151 : decode cX9_tells 151 = .ok (.iconst 0, 1) := by decide +kernel
theorem dX9_tells_152 : decode cX9_tells 152 = .ok (.bastore, 1) := by decide +kernel
theorem dX9_tells_153 : decode cX9_tells 153 = .ok (.aload_n 0, 1) := by decide +kernel
theorem dX9_tells_154 : decode cX9_tells 154 = .ok (.getfield 122, 3) := by decide +kernel
theorem dX9_tells_157 : decode cX9_tells 157 = .ok (.ireturn, 1) := by decide +kernel
theorem dX9_isCell_0 : decode cX9_isCell 0 = .ok (.iload_n 1, 1) := by decide +kernel
theorem dX9_isCell_1 : decode cX9_isCell 1 = .ok (.i2l, 1) := by decide +kernel
theorem dX9_isCell_2 : decode cX9_isCell 2 = .ok (.lconst 0, 1) := by decide +kernel
theorem dX9_isCell_3 : decode cX9_isCell 3 = .ok (.aload_n 0, 1) := by decide +kernel
theorem dX9_isCell_4 : decode cX9_isCell 4 = .ok (.getfield 133, 3) := by decide +kernel
theorem dX9_isCell_7 : decode cX9_isCell 7 = .ok (.iconst 1, 1) := by decide +kernel
theorem dX9_isCell_8 : decode cX9_isCell 8 = .ok (.isub, 1) := by decide +kernel
theorem dX9_isCell_9 : decode cX9_isCell 9 = .ok (.i2l, 1) := by decide +kernel
theorem dX9_isCell_10 : decode cX9_isCell 10 = .ok (.invokestatic 66, 3) := by decide +kernel
theorem dX9_isCell_13 : decode cX9_isCell 13 = .ok (.ireturn, 1) := by decide +kernel
theorem dX9_get_0 : decode cX9_get 0 = .ok (.aload_n 0, 1) := by decide +kernel
theorem dX9_get_1 : decode cX9_get 1 = .ok (.getfield 7, 3) := by decide +kernel
theorem dX9_get_4 : decode cX9_get 4 = .ok (.bipush 18, 2) := by decide +kernel
theorem dX9_get_6 : decode cX9_get 6 = .ok (.iload_n 1, 1) := by decide +kernel
theorem dX9_get_7 : decode cX9_get 7 = .ok (.imul, 1) := by decide +kernel
theorem dX9_get_8 : decode cX9_get 8 = .ok (.iload_n 2, 1) := by decide +kernel
theorem dX9_get_9 : decode cX9_get 9 = .ok (.iadd, 1) := by decide +kernel
theorem dX9_get_10 : decode cX9_get 10 = .ok (.iaload, 1) := by decide +kernel
theorem dX9_get_11 : decode cX9_get 11 = .ok (.ireturn, 1) := by decide +kernel
theorem dX9_set_0 : decode cX9_set 0 = .ok (.aload_n 0, 1) := by decide +kernel
theorem dX9_set_1 : decode cX9_set 1 = .ok (.getfield 7, 3) := by decide +kernel
theorem dX9_set_4 : decode cX9_set 4 = .ok (.bipush 18, 2) := by decide +kernel
theorem dX9_set_6 : decode cX9_set 6 = .ok (.iload_n 1, 1) := by decide +kernel
theorem dX9_set_7 : decode cX9_set 7 = .ok (.imul, 1) := by decide +kernel
theorem dX9_set_8 : decode cX9_set 8 = .ok (.iload_n 2, 1) := by decide +kernel
theorem dX9_set_9 : decode cX9_set 9 = .ok (.iadd, 1) := by decide +kernel
theorem dX9_set_10 : decode cX9_set 10 = .ok (.iload_n 3, 1) := by decide +kernel
theorem dX9_set_11 : decode cX9_set 11 = .ok (.iastore, 1) := by decide +kernel
theorem dX9_set_12 : decode cX9_set 12 = .ok (.return_, 1) := by decide +kernel
theorem dX9_isCall_0 : decode cX9_isCall 0 = .ok (.iload_n 1, 1) := by decide +kernel
theorem dX9_isCall_1 : decode cX9_isCall 1 = .ok (.i2l, 1) := by decide +kernel
theorem dX9_isCall_2 : decode cX9_isCall 2 = .ok (.lconst 0, 1) := by decide +kernel
theorem dX9_isCall_3 : decode cX9_isCall 3 = .ok (.ldc2_w 139, 3) := by decide +kernel
theorem dX9_isCall_6 : decode cX9_isCall 6 = .ok (.invokestatic 66, 3) := by decide +kernel
theorem dX9_isCall_9 : decode cX9_isCall 9 = .ok (.ifCond .eq 17, 3) := by decide +kernel
theorem dX9_isCall_12 : decode cX9_isCall 12 = .ok (.aload_n 0, 1) := by decide +kernel
theorem dX9_isCall_13 : decode cX9_isCall 13 = .ok (.iload_n 1, 1) := by decide +kernel
theorem dX9_isCall_14 : decode cX9_isCall 14 = .ok (.iconst 0, 1) := by decide +kernel
theorem dX9_isCall_15 : decode cX9_isCall 15 = .ok (.invokevirtual 141, 3) := by decide +kernel
theorem dX9_isCall_18 : decode cX9_isCall 18 = .ok (.iconst 1, 1) := by decide +kernel
theorem dX9_isCall_19 : decode cX9_isCall 19 = .ok (.if_icmp .ne 7, 3) := by decide +kernel
theorem dX9_isCall_22 : decode cX9_isCall 22 = .ok (.iconst 1, 1) := by decide +kernel
theorem dX9_isCall_23 : decode cX9_isCall 23 = .ok (.goto 4, 3) := by decide +kernel
theorem dX9_isCall_26 : decode cX9_isCall 26 = .ok (.iconst 0, 1) := by decide +kernel
theorem dX9_isCall_27 : decode cX9_isCall 27 = .ok (.ireturn, 1) := by decide +kernel
theorem dX9_calls_0 : decode cX9_calls 0 = .ok (.iconst 0, 1) := by decide +kernel
theorem dX9_calls_1 : decode cX9_calls 1 = .ok (.istore_n 1, 1) := by decide +kernel
theorem dX9_calls_2 : decode cX9_calls 2 = .ok (.iconst 0, 1) := by decide +kernel
theorem dX9_calls_3 : decode cX9_calls 3 = .ok (.istore_n 2, 1) := by decide +kernel
theorem dX9_calls_4 : decode cX9_calls 4 = .ok (.iload_n 2, 1) := by decide +kernel
theorem dX9_calls_5 : decode cX9_calls 5 = .ok (.bipush 12, 2) := by decide +kernel
theorem dX9_calls_7 : decode cX9_calls 7 = .ok (.if_icmp .ge 18, 3) := by decide +kernel
theorem dX9_calls_10 : decode cX9_calls 10 = .ok (.iload_n 1, 1) := by decide +kernel
theorem dX9_calls_11 : decode cX9_calls 11 = .ok (.aload_n 0, 1) := by decide +kernel
theorem dX9_calls_12 : decode cX9_calls 12 = .ok (.iload_n 2, 1) := by decide +kernel
theorem dX9_calls_13 : decode cX9_calls 13 = .ok (.iconst 0, 1) := by decide +kernel
theorem dX9_calls_14 : decode cX9_calls 14 = .ok (.invokevirtual 141, 3) := by decide +kernel
theorem dX9_calls_17 : decode cX9_calls 17 = .ok (.iadd, 1) := by decide +kernel
theorem dX9_calls_18 : decode cX9_calls 18 = .ok (.istore_n 1, 1) := by decide +kernel
theorem dX9_calls_19 : decode cX9_calls 19 = .ok (.iinc 2 1, 3) := by decide +kernel
theorem dX9_calls_22 : decode cX9_calls 22 = .ok (.goto (-18), 3) := by decide +kernel
theorem dX9_calls_25 : decode cX9_calls 25 = .ok (.iload_n 1, 1) := by decide +kernel
theorem dX9_calls_26 : decode cX9_calls 26 = .ok (.ireturn, 1) := by decide +kernel
theorem dX9_busy_0 : decode cX9_busy 0 = .ok (.iconst 0, 1) := by decide +kernel
theorem dX9_busy_1 : decode cX9_busy 1 = .ok (.istore_n 2, 1) := by decide +kernel
theorem dX9_busy_2 : decode cX9_busy 2 = .ok (.iconst 0, 1) := by decide +kernel
theorem dX9_busy_3 : decode cX9_busy 3 = .ok (.istore_n 3, 1) := by decide +kernel
theorem dX9_busy_4 : decode cX9_busy 4 = .ok (.iload_n 3, 1) := by decide +kernel
theorem dX9_busy_5 : decode cX9_busy 5 = .ok (.bipush 12, 2) := by decide +kernel
theorem dX9_busy_7 : decode cX9_busy 7 = .ok (.if_icmp .ge 37, 3) := by decide +kernel
theorem dX9_busy_10 : decode cX9_busy 10 = .ok (.iload_n 2, 1) := by decide +kernel
theorem dX9_busy_11 : decode cX9_busy 11 = .ok (.aload_n 0, 1) := by decide +kernel
theorem dX9_busy_12 : decode cX9_busy 12 = .ok (.iload_n 3, 1) := by decide +kernel
theorem dX9_busy_13 : decode cX9_busy 13 = .ok (.iconst 0, 1) := by decide +kernel
theorem dX9_busy_14 : decode cX9_busy 14 = .ok (.invokevirtual 141, 3) := by decide +kernel
theorem dX9_busy_17 : decode cX9_busy 17 = .ok (.iconst 1, 1) := by decide +kernel
theorem dX9_busy_18 : decode cX9_busy 18 = .ok (.if_icmp .ne 17, 3) := by decide +kernel
theorem dX9_busy_21 : decode cX9_busy 21 = .ok (.aload_n 0, 1) := by decide +kernel
theorem dX9_busy_22 : decode cX9_busy 22 = .ok (.iload_n 3, 1) := by decide +kernel
theorem dX9_busy_23 : decode cX9_busy 23 = .ok (.iconst 1, 1) := by decide +kernel
theorem dX9_busy_24 : decode cX9_busy 24 = .ok (.invokevirtual 141, 3) := by decide +kernel
theorem dX9_busy_27 : decode cX9_busy 27 = .ok (.iload_n 1, 1) := by decide +kernel
theorem dX9_busy_28 : decode cX9_busy 28 = .ok (.if_icmp .ne 7, 3) := by decide +kernel
theorem dX9_busy_31 : decode cX9_busy 31 = .ok (.iconst 1, 1) := by decide +kernel
theorem dX9_busy_32 : decode cX9_busy 32 = .ok (.goto 4, 3) := by decide +kernel
theorem dX9_busy_35 : decode cX9_busy 35 = .ok (.iconst 0, 1) := by decide +kernel
theorem dX9_busy_36 : decode cX9_busy 36 = .ok (.iadd, 1) := by decide +kernel
theorem dX9_busy_37 : decode cX9_busy 37 = .ok (.istore_n 2, 1) := by decide +kernel
theorem dX9_busy_38 : decode cX9_busy 38 = .ok (.iinc 3 1, 3) := by decide +kernel
theorem dX9_busy_41 : decode cX9_busy 41 = .ok (.goto (-37), 3) := by decide +kernel
theorem dX9_busy_44 : decode cX9_busy 44 = .ok (.iload_n 2, 1) := by decide +kernel
theorem dX9_busy_45 : decode cX9_busy 45 = .ok (.ireturn, 1) := by decide +kernel
theorem dX9_waiting_0 : decode cX9_waiting 0 = .ok (.iconst 0, 1) := by decide +kernel
theorem dX9_waiting_1 : decode cX9_waiting 1 = .ok (.istore_n 2, 1) := by decide +kernel
theorem dX9_waiting_2 : decode cX9_waiting 2 = .ok (.iconst 0, 1) := by decide +kernel
theorem dX9_waiting_3 : decode cX9_waiting 3 = .ok (.istore_n 3, 1) := by decide +kernel
theorem dX9_waiting_4 : decode cX9_waiting 4 = .ok (.iload_n 3, 1) := by decide +kernel
theorem dX9_waiting_5 : decode cX9_waiting 5 = .ok (.bipush 12, 2) := by decide +kernel
theorem dX9_waiting_7 : decode cX9_waiting 7 = .ok (.if_icmp .ge 37, 3) := by decide +kernel
theorem dX9_waiting_10 : decode cX9_waiting 10 = .ok (.iload_n 2, 1) := by decide +kernel
theorem dX9_waiting_11 : decode cX9_waiting 11 = .ok (.aload_n 0, 1) := by decide +kernel
theorem dX9_waiting_12 : decode cX9_waiting 12 = .ok (.iload_n 3, 1) := by decide +kernel
theorem dX9_waiting_13 : decode cX9_waiting 13 = .ok (.iconst 0, 1) := by decide +kernel
theorem dX9_waiting_14 : decode cX9_waiting 14 = .ok (.invokevirtual 141, 3) := by decide +kernel
theorem dX9_waiting_17 : decode cX9_waiting 17 = .ok (.iconst 1, 1) := by decide +kernel
theorem dX9_waiting_18 : decode cX9_waiting 18 = .ok (.if_icmp .ne 17, 3) := by decide +kernel
theorem dX9_waiting_21 : decode cX9_waiting 21 = .ok (.aload_n 0, 1) := by decide +kernel
theorem dX9_waiting_22 : decode cX9_waiting 22 = .ok (.iload_n 3, 1) := by decide +kernel
theorem dX9_waiting_23 : decode cX9_waiting 23 = .ok (.iconst 2, 1) := by decide +kernel
theorem dX9_waiting_24 : decode cX9_waiting 24 = .ok (.invokevirtual 141, 3) := by decide +kernel
theorem dX9_waiting_27 : decode cX9_waiting 27 = .ok (.iload_n 1, 1) := by decide +kernel
theorem dX9_waiting_28 : decode cX9_waiting 28 = .ok (.if_icmp .ne 7, 3) := by decide +kernel
theorem dX9_waiting_31 : decode cX9_waiting 31 = .ok (.iconst 1, 1) := by decide +kernel
theorem dX9_waiting_32 : decode cX9_waiting 32 = .ok (.goto 4, 3) := by decide +kernel
theorem dX9_waiting_35 : decode cX9_waiting 35 = .ok (.iconst 0, 1) := by decide +kernel
theorem dX9_waiting_36 : decode cX9_waiting 36 = .ok (.iadd, 1) := by decide +kernel
theorem dX9_waiting_37 : decode cX9_waiting 37 = .ok (.istore_n 2, 1) := by decide +kernel
theorem dX9_waiting_38 : decode cX9_waiting 38 = .ok (.iinc 3 1, 3) := by decide +kernel
theorem dX9_waiting_41 : decode cX9_waiting 41 = .ok (.goto (-37), 3) := by decide +kernel
theorem dX9_waiting_44 : decode cX9_waiting 44 = .ok (.iload_n 2, 1) := by decide +kernel
theorem dX9_waiting_45 : decode cX9_waiting 45 = .ok (.ireturn, 1) := by decide +kernel
theorem dX9_free_0 : decode cX9_free 0 = .ok (.aload_n 0, 1) := by decide +kernel
theorem dX9_free_1 : decode cX9_free 1 = .ok (.getfield 26, 3) := by decide +kernel
theorem dX9_free_4 : decode cX9_free 4 = .ok (.iload_n 1, 1) := by decide +kernel
theorem dX9_free_5 : decode cX9_free 5 = .ok (.iaload, 1) := by decide +kernel
theorem dX9_free_6 : decode cX9_free 6 = .ok (.aload_n 0, 1) := by decide +kernel
theorem dX9_free_7 : decode cX9_free 7 = .ok (.iload_n 1, 1) := by decide +kernel
theorem dX9_free_8 : decode cX9_free 8 = .ok (.invokevirtual 145, 3) := by decide +kernel
theorem dX9_free_11 : decode cX9_free 11 = .ok (.isub, 1) := by decide +kernel
theorem dX9_free_12 : decode cX9_free 12 = .ok (.ireturn, 1) := by decide +kernel
theorem dX9_chanceBy_0 : decode cX9_chanceBy 0 = .ok (.bipush 10, 2) := by decide +kernel
theorem dX9_chanceBy_2 : decode cX9_chanceBy 2 = .ok (.iload_n 0, 1) := by decide +kernel
theorem dX9_chanceBy_3 : decode cX9_chanceBy 3 = .ok (.imul, 1) := by decide +kernel
theorem dX9_chanceBy_4 : decode cX9_chanceBy 4 = .ok (.iload_n 1, 1) := by decide +kernel
theorem dX9_chanceBy_5 : decode cX9_chanceBy 5 = .ok (.isub, 1) := by decide +kernel
theorem dX9_chanceBy_6 : decode cX9_chanceBy 6 = .ok (.istore_n 2, 1) := by decide +kernel
theorem dX9_chanceBy_7 : decode cX9_chanceBy 7 = .ok (.iload_n 2, 1) := by decide +kernel
theorem dX9_chanceBy_8 : decode cX9_chanceBy 8 = .ok (.ifCond .ge 7, 3) := by decide +kernel
theorem dX9_chanceBy_11 : decode cX9_chanceBy 11 = .ok (.iconst 0, 1) := by decide +kernel
theorem dX9_chanceBy_12 : decode cX9_chanceBy 12 = .ok (.goto 9, 3) := by decide +kernel
theorem dX9_chanceBy_15 : decode cX9_chanceBy 15 = .ok (.iload_n 2, 1) := by decide +kernel
theorem dX9_chanceBy_16 : decode cX9_chanceBy 16 = .ok (.bipush 10, 2) := by decide +kernel
theorem dX9_chanceBy_18 : decode cX9_chanceBy 18 = .ok (.invokestatic 148, 3) := by decide +kernel
theorem dX9_chanceBy_21 : decode cX9_chanceBy 21 = .ok (.ireturn, 1) := by decide +kernel
theorem dX9_chance_0 : decode cX9_chance 0 = .ok (.aload_n 0, 1) := by decide +kernel
theorem dX9_chance_1 : decode cX9_chance 1 = .ok (.iload_n 1, 1) := by decide +kernel
theorem dX9_chance_2 : decode cX9_chance 2 = .ok (.invokevirtual 151, 3) := by decide +kernel
theorem dX9_chance_5 : decode cX9_chance 5 = .ok (.aload_n 0, 1) := by decide +kernel
theorem dX9_chance_6 : decode cX9_chance 6 = .ok (.getfield 7, 3) := by decide +kernel
theorem dX9_chance_9 : decode cX9_chance 9 = .ok (.sipush 216, 3) := by decide +kernel
theorem dX9_chance_12 : decode cX9_chance 12 = .ok (.iload_n 1, 1) := by decide +kernel
theorem dX9_chance_13 : decode cX9_chance 13 = .ok (.iadd, 1) := by decide +kernel
theorem dX9_chance_14 : decode cX9_chance 14 = .ok (.iaload, 1) := by decide +kernel
theorem dX9_chance_15 : decode cX9_chance 15 = .ok (.invokestatic 154, 3) := by decide +kernel
theorem dX9_chance_18 : decode cX9_chance 18 = .ok (.ireturn, 1) := by decide +kernel
theorem dX9_counts_0 : decode cX9_counts 0 = .ok (.aload_n 0, 1) := by decide +kernel
theorem dX9_counts_1 : decode cX9_counts 1 = .ok (.getfield 7, 3) := by decide +kernel
theorem dX9_counts_4 : decode cX9_counts 4 = .ok (.sipush 220, 3) := by decide +kernel
theorem dX9_counts_7 : decode cX9_counts 7 = .ok (.bipush 6, 2) := by decide +kernel
theorem dX9_counts_9 : decode cX9_counts 9 = .ok (.iload_n 1, 1) := by decide +kernel
theorem dX9_counts_10 : decode cX9_counts 10 = .ok (.imul, 1) := by decide +kernel
theorem dX9_counts_11 : decode cX9_counts 11 = .ok (.iadd, 1) := by decide +kernel
theorem dX9_counts_12 : decode cX9_counts 12 = .ok (.iload_n 2, 1) := by decide +kernel
theorem dX9_counts_13 : decode cX9_counts 13 = .ok (.iadd, 1) := by decide +kernel
theorem dX9_counts_14 : decode cX9_counts 14 = .ok (.bipush 6, 2) := by decide +kernel
theorem dX9_counts_16 : decode cX9_counts 16 = .ok (.isub, 1) := by decide +kernel
theorem dX9_counts_17 : decode cX9_counts 17 = .ok (.dup2, 1) := by decide +kernel
theorem dX9_counts_18 : decode cX9_counts 18 = .ok (.iaload, 1) := by decide +kernel
theorem dX9_counts_19 : decode cX9_counts 19 = .ok (.iconst 1, 1) := by decide +kernel
theorem dX9_counts_20 : decode cX9_counts 20 = .ok (.iadd, 1) := by decide +kernel
theorem dX9_counts_21 : decode cX9_counts 21 = .ok (.iastore, 1) := by decide +kernel
theorem dX9_counts_22 : decode cX9_counts 22 = .ok (.return_, 1) := by decide +kernel
theorem dX9_draw_0 : decode cX9_draw 0 = .ok (.aload_n 0, 1) := by decide +kernel
theorem dX9_draw_1 : decode cX9_draw 1 = .ok (.getfield 7, 3) := by decide +kernel
theorem dX9_draw_4 : decode cX9_draw 4 = .ok (.sipush 281, 3) := by decide +kernel
theorem dX9_draw_7 : decode cX9_draw 7 = .ok (.aload_n 0, 1) := by decide +kernel
theorem dX9_draw_8 : decode cX9_draw 8 = .ok (.getfield 7, 3) := by decide +kernel
theorem dX9_draw_11 : decode cX9_draw 11 = .ok (.sipush 281, 3) := by decide +kernel
theorem dX9_draw_14 : decode cX9_draw 14 = .ok (.iaload, 1) := by decide +kernel
theorem dX9_draw_15 : decode cX9_draw 15 = .ok (.ldc 157, 2) := by decide +kernel
theorem dX9_draw_17 : decode cX9_draw 17 = .ok (.imul, 1) := by decide +kernel
theorem dX9_draw_18 : decode cX9_draw 18 = .ok (.iconst 1, 1) := by decide +kernel
theorem dX9_draw_19 : decode cX9_draw 19 = .ok (.iadd, 1) := by decide +kernel
theorem dX9_draw_20 : decode cX9_draw 20 = .ok (.iastore, 1) := by decide +kernel
theorem dX9_draw_21 : decode cX9_draw 21 = .ok (.aload_n 0, 1) := by decide +kernel
theorem dX9_draw_22 : decode cX9_draw 22 = .ok (.getfield 7, 3) := by decide +kernel
theorem dX9_draw_25 : decode cX9_draw 25 = .ok (.sipush 281, 3) := by decide +kernel
theorem dX9_draw_28 : decode cX9_draw 28 = .ok (.iaload, 1) := by decide +kernel
theorem dX9_draw_29 : decode cX9_draw 29 = .ok (.bipush 16, 2) := by decide +kernel
theorem dX9_draw_31 : decode cX9_draw 31 = .ok (.iushr, 1) := by decide +kernel
theorem dX9_draw_32 : decode cX9_draw 32 = .ok (.bipush 10, 2) := by decide +kernel
theorem dX9_draw_34 : decode cX9_draw 34 = .ok (.irem, 1) := by decide +kernel
theorem dX9_draw_35 : decode cX9_draw 35 = .ok (.ireturn, 1) := by decide +kernel
theorem dX9_offers_0 : decode cX9_offers 0 = .ok (.aload_n 0, 1) := by decide +kernel
theorem dX9_offers_1 : decode cX9_offers 1 = .ok (.iload_n 1, 1) := by decide +kernel
theorem dX9_offers_2 : decode cX9_offers 2 = .ok (.invokevirtual 158, 3) := by decide +kernel
theorem dX9_offers_5 : decode cX9_offers 5 = .ok (.ifCond .eq 15, 3) := by decide +kernel
theorem dX9_offers_8 : decode cX9_offers 8 = .ok (.iload_n 2, 1) := by decide +kernel
theorem dX9_offers_9 : decode cX9_offers 9 = .ok (.i2l, 1) := by decide +kernel
theorem dX9_offers_10 : decode cX9_offers 10 = .ok (.lconst 0, 1) := by decide +kernel
theorem dX9_offers_11 : decode cX9_offers 11 = .ok (.ldc2_w 161, 3) := by decide +kernel
theorem dX9_offers_14 : decode cX9_offers 14 = .ok (.invokestatic 66, 3) := by decide +kernel
theorem dX9_offers_17 : decode cX9_offers 17 = .ok (.ifCond .ne 5, 3) := by decide +kernel
theorem dX9_offers_20 : decode cX9_offers 20 = .ok (.iconst (-1), 1) := by decide +kernel
theorem dX9_offers_21 : decode cX9_offers 21 = .ok (.ireturn, 1) := by decide +kernel
theorem dX9_offers_22 : decode cX9_offers 22 = .ok (.aload_n 0, 1) := by decide +kernel
theorem dX9_offers_23 : decode cX9_offers 23 = .ok (.invokevirtual 163, 3) := by decide +kernel
theorem dX9_offers_26 : decode cX9_offers 26 = .ok (.bipush 12, 2) := by decide +kernel
theorem dX9_offers_28 : decode cX9_offers 28 = .ok (.if_icmp .ne 6, 3) := by decide +kernel
theorem dX9_offers_31 : decode cX9_offers 31 = .ok (.bipush (-3), 2) := by decide +kernel
theorem dX9_offers_33 : decode cX9_offers 33 = .ok (.ireturn, 1) := by decide +kernel
theorem dX9_offers_34 : decode cX9_offers 34 = .ok (.aload_n 0, 1) := by decide +kernel
theorem dX9_offers_35 : decode cX9_offers 35 = .ok (.invokevirtual 167, 3) := by decide +kernel
theorem dX9_offers_38 : decode cX9_offers 38 = .ok (.aload_n 0, 1) := by decide +kernel
theorem dX9_offers_39 : decode cX9_offers 39 = .ok (.iload_n 1, 1) := by decide +kernel
theorem dX9_offers_40 : decode cX9_offers 40 = .ok (.bipush 6, 2) := by decide +kernel
theorem dX9_offers_42 : decode cX9_offers 42 = .ok (.invokevirtual 170, 3) := by decide +kernel
theorem dX9_offers_45 : decode cX9_offers 45 = .ok (.aload_n 0, 1) := by decide +kernel
theorem dX9_offers_46 : decode cX9_offers 46 = .ok (.iload_n 1, 1) := by decide +kernel
theorem dX9_offers_47 : decode cX9_offers 47 = .ok (.invokevirtual 173, 3) := by decide +kernel
theorem dX9_offers_50 : decode cX9_offers 50 = .ok (.istore_n 3, 1) := by decide +kernel
theorem dX9_offers_51 : decode cX9_offers 51 = .ok (.iload_n 3, 1) := by decide +kernel
theorem dX9_offers_52 : decode cX9_offers 52 = .ok (.ifCond .eq 17, 3) := by decide +kernel
theorem dX9_offers_55 : decode cX9_offers 55 = .ok (.iload_n 3, 1) := by decide +kernel
theorem dX9_offers_56 : decode cX9_offers 56 = .ok (.bipush 10, 2) := by decide +kernel
theorem dX9_offers_58 : decode cX9_offers 58 = .ok (.if_icmp .ge 14, 3) := by decide +kernel
theorem dX9_offers_61 : decode cX9_offers 61 = .ok (.aload_n 0, 1) := by decide +kernel
theorem dX9_offers_62 : decode cX9_offers 62 = .ok (.invokevirtual 176, 3) := by decide +kernel
theorem dX9_offers_65 : decode cX9_offers 65 = .ok (.iload_n 3, 1) := by decide +kernel
theorem dX9_offers_66 : decode cX9_offers 66 = .ok (.if_icmp .lt 6, 3) := by decide +kernel
theorem dX9_offers_69 : decode cX9_offers 69 = .ok (.bipush (-9), 2) := by decide +kernel
theorem dX9_offers_71 : decode cX9_offers 71 = .ok (.ireturn, 1) := by decide +kernel
theorem dX9_offers_72 : decode cX9_offers 72 = .ok (.aload_n 0, 1) := by decide +kernel
theorem dX9_offers_73 : decode cX9_offers 73 = .ok (.iload_n 1, 1) := by decide +kernel
theorem dX9_offers_74 : decode cX9_offers 74 = .ok (.bipush 7, 2) := by decide +kernel
theorem dX9_offers_76 : decode cX9_offers 76 = .ok (.invokevirtual 170, 3) := by decide +kernel
theorem dX9_offers_79 : decode cX9_offers 79 = .ok (.iconst 0, 1) := by decide +kernel
theorem dX9_offers_80 : decode cX9_offers 80 = .ok (.istore 4, 2) := by decide +kernel
theorem dX9_offers_82 : decode cX9_offers 82 = .ok (.aload_n 0, 1) := by decide +kernel
theorem dX9_offers_83 : decode cX9_offers 83 = .ok (.iload 4, 2) := by decide +kernel
theorem dX9_offers_85 : decode cX9_offers 85 = .ok (.iconst 0, 1) := by decide +kernel
theorem dX9_offers_86 : decode cX9_offers 86 = .ok (.invokevirtual 141, 3) := by decide +kernel
theorem dX9_offers_89 : decode cX9_offers 89 = .ok (.iconst 1, 1) := by decide +kernel
theorem dX9_offers_90 : decode cX9_offers 90 = .ok (.if_icmp .ne 9, 3) := by decide +kernel
theorem dX9_offers_93 : decode cX9_offers 93 = .ok (.iinc 4 1, 3) := by decide +kernel
theorem dX9_offers_96 : decode cX9_offers 96 = .ok (.goto (-14), 3) := by decide +kernel
theorem dX9_offers_99 : decode cX9_offers 99 = .ok (.iconst 0, 1) := by decide +kernel
theorem dX9_offers_100 : decode cX9_offers 100 = .ok (.istore 5, 2) := by decide +kernel
theorem dX9_offers_102 : decode cX9_offers 102 = .ok (.iload 5, 2) := by decide +kernel
theorem dX9_offers_104 : decode cX9_offers 104 = .ok (.bipush 18, 2) := by decide +kernel
theorem dX9_offers_106 : decode cX9_offers 106 = .ok (.if_icmp .ge 18, 3) := by decide +kernel
theorem dX9_offers_109 : decode cX9_offers 109 = .ok (.aload_n 0, 1) := by decide +kernel
theorem dX9_offers_110 : decode cX9_offers 110 = .ok (.iload 4, 2) := by decide +kernel
theorem dX9_offers_112 : decode cX9_offers 112 = .ok (.iload 5, 2) := by decide +kernel
theorem dX9_offers_114 : decode cX9_offers 114 = .ok (.iconst 0, 1) := by decide +kernel
theorem dX9_offers_115 : decode cX9_offers 115 = .ok (.invokevirtual 179, 3) := by decide +kernel
theorem dX9_offers_118 : decode cX9_offers 118 = .ok (.iinc 5 1, 3) := by decide +kernel
theorem dX9_offers_121 : decode cX9_offers 121 = .ok (.goto (-19), 3) := by decide +kernel
theorem dX9_offers_124 : decode cX9_offers 124 = .ok (.aload_n 0, 1) := by decide +kernel
theorem dX9_offers_125 : decode cX9_offers 125 = .ok (.iload 4, 2) := by decide +kernel
theorem dX9_offers_127 : decode cX9_offers 127 = .ok (.iconst 0, 1) := by decide +kernel
theorem dX9_offers_128 : decode cX9_offers 128 = .ok (.iconst 1, 1) := by decide +kernel
theorem dX9_offers_129 : decode cX9_offers 129 = .ok (.invokevirtual 179, 3) := by decide +kernel
theorem dX9_offers_132 : decode cX9_offers 132 = .ok (.aload_n 0, 1) := by decide +kernel
theorem dX9_offers_133 : decode cX9_offers 133 = .ok (.iload 4, 2) := by decide +kernel
theorem dX9_offers_135 : decode cX9_offers 135 = .ok (.iconst 1, 1) := by decide +kernel
theorem dX9_offers_136 : decode cX9_offers 136 = .ok (.iload_n 1, 1) := by decide +kernel
theorem dX9_offers_137 : decode cX9_offers 137 = .ok (.invokevirtual 179, 3) := by decide +kernel
theorem dX9_offers_140 : decode cX9_offers 140 = .ok (.aload_n 0, 1) := by decide +kernel
theorem dX9_offers_141 : decode cX9_offers 141 = .ok (.iload 4, 2) := by decide +kernel
theorem dX9_offers_143 : decode cX9_offers 143 = .ok (.iconst 2, 1) := by decide +kernel
theorem dX9_offers_144 : decode cX9_offers 144 = .ok (.bipush (-9), 2) := by decide +kernel
theorem dX9_offers_146 : decode cX9_offers 146 = .ok (.invokevirtual 179, 3) := by decide +kernel
theorem dX9_offers_149 : decode cX9_offers 149 = .ok (.aload_n 0, 1) := by decide +kernel
theorem dX9_offers_150 : decode cX9_offers 150 = .ok (.iload 4, 2) := by decide +kernel
theorem dX9_offers_152 : decode cX9_offers 152 = .ok (.bipush 8, 2) := by decide +kernel
theorem dX9_offers_154 : decode cX9_offers 154 = .ok (.bipush (-9), 2) := by decide +kernel
theorem dX9_offers_156 : decode cX9_offers 156 = .ok (.invokevirtual 179, 3) := by decide +kernel
theorem dX9_offers_159 : decode cX9_offers 159 = .ok (.aload_n 0, 1) := by decide +kernel
theorem dX9_offers_160 : decode cX9_offers 160 = .ok (.iload 4, 2) := by decide +kernel
theorem dX9_offers_162 : decode cX9_offers 162 = .ok (.bipush 10, 2) := by decide +kernel
theorem dX9_offers_164 : decode cX9_offers 164 = .ok (.iload_n 1, 1) := by decide +kernel
theorem dX9_offers_165 : decode cX9_offers 165 = .ok (.iadd, 1) := by decide +kernel
theorem dX9_offers_166 : decode cX9_offers 166 = .ok (.bipush 64, 2) := by decide +kernel
theorem dX9_offers_168 : decode cX9_offers 168 = .ok (.iload_n 2, 1) := by decide +kernel
theorem dX9_offers_169 : decode cX9_offers 169 = .ok (.imul, 1) := by decide +kernel
theorem dX9_offers_170 : decode cX9_offers 170 = .ok (.invokevirtual 179, 3) := by decide +kernel
theorem dX9_offers_173 : decode cX9_offers 173 = .ok (.iload 4, 2) := by decide +kernel
theorem dX9_offers_175 : decode cX9_offers 175 = .ok (.ireturn, 1) := by decide +kernel
theorem dX9_pairs_0 : decode cX9_pairs 0 = .ok (.iconst 0, 1) := by decide +kernel
theorem dX9_pairs_1 : decode cX9_pairs 1 = .ok (.istore_n 3, 1) := by decide +kernel
theorem dX9_pairs_2 : decode cX9_pairs 2 = .ok (.iload_n 3, 1) := by decide +kernel
theorem dX9_pairs_3 : decode cX9_pairs 3 = .ok (.aload_n 0, 1) := by decide +kernel
theorem dX9_pairs_4 : decode cX9_pairs 4 = .ok (.getfield 7, 3) := by decide +kernel
theorem dX9_pairs_7 : decode cX9_pairs 7 = .ok (.sipush 244, 3) := by decide +kernel
theorem dX9_pairs_10 : decode cX9_pairs 10 = .ok (.iaload, 1) := by decide +kernel
theorem dX9_pairs_11 : decode cX9_pairs 11 = .ok (.if_icmp .ge 43, 3) := by decide +kernel
theorem dX9_pairs_14 : decode cX9_pairs 14 = .ok (.aload_n 0, 1) := by decide +kernel
theorem dX9_pairs_15 : decode cX9_pairs 15 = .ok (.getfield 7, 3) := by decide +kernel
theorem dX9_pairs_18 : decode cX9_pairs 18 = .ok (.sipush 245, 3) := by decide +kernel
theorem dX9_pairs_21 : decode cX9_pairs 21 = .ok (.iconst 3, 1) := by decide +kernel
theorem dX9_pairs_22 : decode cX9_pairs 22 = .ok (.iload_n 3, 1) := by decide +kernel
theorem dX9_pairs_23 : decode cX9_pairs 23 = .ok (.imul, 1) := by decide +kernel
theorem dX9_pairs_24 : decode cX9_pairs 24 = .ok (.iadd, 1) := by decide +kernel
theorem dX9_pairs_25 : decode cX9_pairs 25 = .ok (.iaload, 1) := by decide +kernel
theorem dX9_pairs_26 : decode cX9_pairs 26 = .ok (.iload_n 1, 1) := by decide +kernel
theorem dX9_pairs_27 : decode cX9_pairs 27 = .ok (.if_icmp .ne 21, 3) := by decide +kernel
theorem dX9_pairs_30 : decode cX9_pairs 30 = .ok (.aload_n 0, 1) := by decide +kernel
theorem dX9_pairs_31 : decode cX9_pairs 31 = .ok (.getfield 7, 3) := by decide +kernel
theorem dX9_pairs_34 : decode cX9_pairs 34 = .ok (.sipush 245, 3) := by decide +kernel
theorem dX9_pairs_37 : decode cX9_pairs 37 = .ok (.iconst 3, 1) := by decide +kernel
theorem dX9_pairs_38 : decode cX9_pairs 38 = .ok (.iload_n 3, 1) := by decide +kernel
theorem dX9_pairs_39 : decode cX9_pairs 39 = .ok (.imul, 1) := by decide +kernel
theorem dX9_pairs_40 : decode cX9_pairs 40 = .ok (.iadd, 1) := by decide +kernel
theorem dX9_pairs_41 : decode cX9_pairs 41 = .ok (.iconst 1, 1) := by decide +kernel
theorem dX9_pairs_42 : decode cX9_pairs 42 = .ok (.iadd, 1) := by decide +kernel
theorem dX9_pairs_43 : decode cX9_pairs 43 = .ok (.iaload, 1) := by decide +kernel
theorem dX9_pairs_44 : decode cX9_pairs 44 = .ok (.iload_n 2, 1) := by decide +kernel
theorem dX9_pairs_45 : decode cX9_pairs 45 = .ok (.if_icmp .eq 9, 3) := by decide +kernel
theorem dX9_pairs_48 : decode cX9_pairs 48 = .ok (.iinc 3 1, 3) := by decide +kernel
theorem dX9_pairs_51 : decode cX9_pairs 51 = .ok (.goto (-49), 3) := by decide +kernel
theorem dX9_pairs_54 : decode cX9_pairs 54 = .ok (.iload_n 3, 1) := by decide +kernel
theorem dX9_pairs_55 : decode cX9_pairs 55 = .ok (.aload_n 0, 1) := by decide +kernel
theorem dX9_pairs_56 : decode cX9_pairs 56 = .ok (.getfield 7, 3) := by decide +kernel
theorem dX9_pairs_59 : decode cX9_pairs 59 = .ok (.sipush 244, 3) := by decide +kernel
theorem dX9_pairs_62 : decode cX9_pairs 62 = .ok (.iaload, 1) := by decide +kernel
theorem dX9_pairs_63 : decode cX9_pairs 63 = .ok (.if_icmp .ne 58, 3) := by decide +kernel
theorem dX9_pairs_66 : decode cX9_pairs 66 = .ok (.aload_n 0, 1) := by decide +kernel
theorem dX9_pairs_67 : decode cX9_pairs 67 = .ok (.getfield 7, 3) := by decide +kernel
theorem dX9_pairs_70 : decode cX9_pairs 70 = .ok (.sipush 245, 3) := by decide +kernel
theorem dX9_pairs_73 : decode cX9_pairs 73 = .ok (.iconst 3, 1) := by decide +kernel
theorem dX9_pairs_74 : decode cX9_pairs 74 = .ok (.iload_n 3, 1) := by decide +kernel
theorem dX9_pairs_75 : decode cX9_pairs 75 = .ok (.imul, 1) := by decide +kernel
theorem dX9_pairs_76 : decode cX9_pairs 76 = .ok (.iadd, 1) := by decide +kernel
theorem dX9_pairs_77 : decode cX9_pairs 77 = .ok (.iload_n 1, 1) := by decide +kernel
theorem dX9_pairs_78 : decode cX9_pairs 78 = .ok (.iastore, 1) := by decide +kernel
theorem dX9_pairs_79 : decode cX9_pairs 79 = .ok (.aload_n 0, 1) := by decide +kernel
theorem dX9_pairs_80 : decode cX9_pairs 80 = .ok (.getfield 7, 3) := by decide +kernel
theorem dX9_pairs_83 : decode cX9_pairs 83 = .ok (.sipush 245, 3) := by decide +kernel
theorem dX9_pairs_86 : decode cX9_pairs 86 = .ok (.iconst 3, 1) := by decide +kernel
theorem dX9_pairs_87 : decode cX9_pairs 87 = .ok (.iload_n 3, 1) := by decide +kernel
theorem dX9_pairs_88 : decode cX9_pairs 88 = .ok (.imul, 1) := by decide +kernel
theorem dX9_pairs_89 : decode cX9_pairs 89 = .ok (.iadd, 1) := by decide +kernel
theorem dX9_pairs_90 : decode cX9_pairs 90 = .ok (.iconst 1, 1) := by decide +kernel
theorem dX9_pairs_91 : decode cX9_pairs 91 = .ok (.iadd, 1) := by decide +kernel
theorem dX9_pairs_92 : decode cX9_pairs 92 = .ok (.iload_n 2, 1) := by decide +kernel
theorem dX9_pairs_93 : decode cX9_pairs 93 = .ok (.iastore, 1) := by decide +kernel
theorem dX9_pairs_94 : decode cX9_pairs 94 = .ok (.aload_n 0, 1) := by decide +kernel
theorem dX9_pairs_95 : decode cX9_pairs 95 = .ok (.getfield 7, 3) := by decide +kernel
theorem dX9_pairs_98 : decode cX9_pairs 98 = .ok (.sipush 245, 3) := by decide +kernel
theorem dX9_pairs_101 : decode cX9_pairs 101 = .ok (.iconst 3, 1) := by decide +kernel
theorem dX9_pairs_102 : decode cX9_pairs 102 = .ok (.iload_n 3, 1) := by decide +kernel
theorem dX9_pairs_103 : decode cX9_pairs 103 = .ok (.imul, 1) := by decide +kernel
theorem dX9_pairs_104 : decode cX9_pairs 104 = .ok (.iadd, 1) := by decide +kernel
theorem dX9_pairs_105 : decode cX9_pairs 105 = .ok (.iconst 2, 1) := by decide +kernel
theorem dX9_pairs_106 : decode cX9_pairs 106 = .ok (.iadd, 1) := by decide +kernel
theorem dX9_pairs_107 : decode cX9_pairs 107 = .ok (.iconst 0, 1) := by decide +kernel
theorem dX9_pairs_108 : decode cX9_pairs 108 = .ok (.iastore, 1) := by decide +kernel
theorem dX9_pairs_109 : decode cX9_pairs 109 = .ok (.aload_n 0, 1) := by decide +kernel
theorem dX9_pairs_110 : decode cX9_pairs 110 = .ok (.getfield 7, 3) := by decide +kernel
theorem dX9_pairs_113 : decode cX9_pairs 113 = .ok (.sipush 244, 3) := by decide +kernel
theorem dX9_pairs_116 : decode cX9_pairs 116 = .ok (.dup2, 1) := by decide +kernel
theorem dX9_pairs_117 : decode cX9_pairs 117 = .ok (.iaload, 1) := by decide +kernel
theorem dX9_pairs_118 : decode cX9_pairs 118 = .ok (.iconst 1, 1) := by decide +kernel
theorem dX9_pairs_119 : decode cX9_pairs 119 = .ok (.iadd, 1) := by decide +kernel
theorem dX9_pairs_120 : decode cX9_pairs 120 = .ok (.iastore, 1) := by decide +kernel
theorem dX9_pairs_121 : decode cX9_pairs 121 = .ok (.aload_n 0, 1) := by decide +kernel
theorem dX9_pairs_122 : decode cX9_pairs 122 = .ok (.getfield 7, 3) := by decide +kernel
theorem dX9_pairs_125 : decode cX9_pairs 125 = .ok (.sipush 245, 3) := by decide +kernel
theorem dX9_pairs_128 : decode cX9_pairs 128 = .ok (.iconst 3, 1) := by decide +kernel
theorem dX9_pairs_129 : decode cX9_pairs 129 = .ok (.iload_n 3, 1) := by decide +kernel
theorem dX9_pairs_130 : decode cX9_pairs 130 = .ok (.imul, 1) := by decide +kernel
theorem dX9_pairs_131 : decode cX9_pairs 131 = .ok (.iadd, 1) := by decide +kernel
theorem dX9_pairs_132 : decode cX9_pairs 132 = .ok (.iconst 2, 1) := by decide +kernel
theorem dX9_pairs_133 : decode cX9_pairs 133 = .ok (.iadd, 1) := by decide +kernel
theorem dX9_pairs_134 : decode cX9_pairs 134 = .ok (.dup2, 1) := by decide +kernel
theorem dX9_pairs_135 : decode cX9_pairs 135 = .ok (.iaload, 1) := by decide +kernel
theorem dX9_pairs_136 : decode cX9_pairs 136 = .ok (.iconst 1, 1) := by decide +kernel
theorem dX9_pairs_137 : decode cX9_pairs 137 = .ok (.iadd, 1) := by decide +kernel
theorem dX9_pairs_138 : decode cX9_pairs 138 = .ok (.iastore, 1) := by decide +kernel
theorem dX9_pairs_139 : decode cX9_pairs 139 = .ok (.return_, 1) := by decide +kernel
theorem dX9_frees_0 : decode cX9_frees 0 = .ok (.aload_n 0, 1) := by decide +kernel
theorem dX9_frees_1 : decode cX9_frees 1 = .ok (.getfield 47, 3) := by decide +kernel
theorem dX9_frees_4 : decode cX9_frees 4 = .ok (.aload_n 0, 1) := by decide +kernel
theorem dX9_frees_5 : decode cX9_frees 5 = .ok (.getfield 183, 3) := by decide +kernel
theorem dX9_frees_8 : decode cX9_frees 8 = .ok (.iload_n 1, 1) := by decide +kernel
theorem dX9_frees_9 : decode cX9_frees 9 = .ok (.iastore, 1) := by decide +kernel
theorem dX9_frees_10 : decode cX9_frees 10 = .ok (.aload_n 0, 1) := by decide +kernel
theorem dX9_frees_11 : decode cX9_frees 11 = .ok (.dup, 1) := by decide +kernel
theorem dX9_frees_12 : decode cX9_frees 12 = .ok (.getfield 183, 3) := by decide +kernel
theorem dX9_frees_15 : decode cX9_frees 15 = .ok (.iconst 1, 1) := by decide +kernel
theorem dX9_frees_16 : decode cX9_frees 16 = .ok (.iadd, 1) := by decide +kernel
theorem dX9_frees_17 : decode cX9_frees 17 = .ok (.putfield 183, 3) := by decide +kernel
theorem dX9_frees_20 : decode cX9_frees 20 = .ok (.return_, 1) := by decide +kernel
theorem dX9_moves_0 : decode cX9_moves 0 = .ok (.aload_n 0, 1) := by decide +kernel
theorem dX9_moves_1 : decode cX9_moves 1 = .ok (.iload_n 1, 1) := by decide +kernel
theorem dX9_moves_2 : decode cX9_moves 2 = .ok (.iconst 1, 1) := by decide +kernel
theorem dX9_moves_3 : decode cX9_moves 3 = .ok (.invokevirtual 141, 3) := by decide +kernel
theorem dX9_moves_6 : decode cX9_moves 6 = .ok (.istore_n 3, 1) := by decide +kernel
theorem dX9_moves_7 : decode cX9_moves 7 = .ok (.aload_n 0, 1) := by decide +kernel
theorem dX9_moves_8 : decode cX9_moves 8 = .ok (.iload_n 1, 1) := by decide +kernel
theorem dX9_moves_9 : decode cX9_moves 9 = .ok (.bipush 8, 2) := by decide +kernel
theorem dX9_moves_11 : decode cX9_moves 11 = .ok (.invokevirtual 141, 3) := by decide +kernel
theorem dX9_moves_14 : decode cX9_moves 14 = .ok (.iload_n 2, 1) := by decide +kernel
theorem dX9_moves_15 : decode cX9_moves 15 = .ok (.if_icmp .ne 23, 3) := by decide +kernel
theorem dX9_moves_18 : decode cX9_moves 18 = .ok (.aload_n 0, 1) := by decide +kernel
theorem dX9_moves_19 : decode cX9_moves 19 = .ok (.iload_n 1, 1) := by decide +kernel
theorem dX9_moves_20 : decode cX9_moves 20 = .ok (.bipush 9, 2) := by decide +kernel
theorem dX9_moves_22 : decode cX9_moves 22 = .ok (.invokevirtual 141, 3) := by decide +kernel
theorem dX9_moves_25 : decode cX9_moves 25 = .ok (.aload_n 0, 1) := by decide +kernel
theorem dX9_moves_26 : decode cX9_moves 26 = .ok (.getfield 32, 3) := by decide +kernel
theorem dX9_moves_29 : decode cX9_moves 29 = .ok (.iconst 5, 1) := by decide +kernel
theorem dX9_moves_30 : decode cX9_moves 30 = .ok (.iaload, 1) := by decide +kernel
theorem dX9_moves_31 : decode cX9_moves 31 = .ok (.if_icmp .gt 7, 3) := by decide +kernel
theorem dX9_moves_34 : decode cX9_moves 34 = .ok (.iconst 1, 1) := by decide +kernel
theorem dX9_moves_35 : decode cX9_moves 35 = .ok (.goto 4, 3) := by decide +kernel
theorem dX9_moves_38 : decode cX9_moves 38 = .ok (.iconst 0, 1) := by decide +kernel
theorem dX9_moves_39 : decode cX9_moves 39 = .ok (.istore 4, 2) := by decide +kernel
theorem dX9_moves_41 : decode cX9_moves 41 = .ok (.aload_n 0, 1) := by decide +kernel
theorem dX9_moves_42 : decode cX9_moves 42 = .ok (.iload_n 1, 1) := by decide +kernel
theorem dX9_moves_43 : decode cX9_moves 43 = .ok (.bipush 6, 2) := by decide +kernel
theorem dX9_moves_45 : decode cX9_moves 45 = .ok (.aload_n 0, 1) := by decide +kernel
theorem dX9_moves_46 : decode cX9_moves 46 = .ok (.iload_n 1, 1) := by decide +kernel
theorem dX9_moves_47 : decode cX9_moves 47 = .ok (.bipush 6, 2) := by decide +kernel
theorem dX9_moves_49 : decode cX9_moves 49 = .ok (.invokevirtual 141, 3) := by decide +kernel
theorem dX9_moves_52 : decode cX9_moves 52 = .ok (.iload 4, 2) := by decide +kernel
theorem dX9_moves_54 : decode cX9_moves 54 = .ok (.ifCond .eq 7, 3) := by decide +kernel
theorem dX9_moves_57 : decode cX9_moves 57 = .ok (.iconst 1, 1) := by decide +kernel
theorem dX9_moves_58 : decode cX9_moves 58 = .ok (.goto 4, 3) := by decide +kernel
theorem dX9_moves_61 : decode cX9_moves 61 = .ok (.iconst 0, 1) := by decide +kernel
theorem dX9_moves_62 : decode cX9_moves 62 = .ok (.iadd, 1) := by decide +kernel
theorem dX9_moves_63 : decode cX9_moves 63 = .ok (.invokevirtual 179, 3) := by decide +kernel
theorem dX9_moves_66 : decode cX9_moves 66 = .ok (.aload_n 0, 1) := by decide +kernel
theorem dX9_moves_67 : decode cX9_moves 67 = .ok (.iload_n 1, 1) := by decide +kernel
theorem dX9_moves_68 : decode cX9_moves 68 = .ok (.iconst 5, 1) := by decide +kernel
theorem dX9_moves_69 : decode cX9_moves 69 = .ok (.aload_n 0, 1) := by decide +kernel
theorem dX9_moves_70 : decode cX9_moves 70 = .ok (.iload_n 1, 1) := by decide +kernel
theorem dX9_moves_71 : decode cX9_moves 71 = .ok (.iconst 5, 1) := by decide +kernel
theorem dX9_moves_72 : decode cX9_moves 72 = .ok (.invokevirtual 141, 3) := by decide +kernel
theorem dX9_moves_75 : decode cX9_moves 75 = .ok (.iconst 1, 1) := by decide +kernel
theorem dX9_moves_76 : decode cX9_moves 76 = .ok (.iadd, 1) := by decide +kernel
theorem dX9_moves_77 : decode cX9_moves 77 = .ok (.invokevirtual 179, 3) := by decide +kernel
theorem dX9_moves_80 : decode cX9_moves 80 = .ok (.aload_n 0, 1) := by decide +kernel
theorem dX9_moves_81 : decode cX9_moves 81 = .ok (.iload_n 1, 1) := by decide +kernel
theorem dX9_moves_82 : decode cX9_moves 82 = .ok (.bipush 8, 2) := by decide +kernel
theorem dX9_moves_84 : decode cX9_moves 84 = .ok (.iload_n 3, 1) := by decide +kernel
theorem dX9_moves_85 : decode cX9_moves 85 = .ok (.invokevirtual 179, 3) := by decide +kernel
theorem dX9_moves_88 : decode cX9_moves 88 = .ok (.aload_n 0, 1) := by decide +kernel
theorem dX9_moves_89 : decode cX9_moves 89 = .ok (.iload_n 1, 1) := by decide +kernel
theorem dX9_moves_90 : decode cX9_moves 90 = .ok (.bipush 9, 2) := by decide +kernel
theorem dX9_moves_92 : decode cX9_moves 92 = .ok (.iconst 0, 1) := by decide +kernel
theorem dX9_moves_93 : decode cX9_moves 93 = .ok (.invokevirtual 179, 3) := by decide +kernel
theorem dX9_moves_96 : decode cX9_moves 96 = .ok (.aload_n 0, 1) := by decide +kernel
theorem dX9_moves_97 : decode cX9_moves 97 = .ok (.iload_n 1, 1) := by decide +kernel
theorem dX9_moves_98 : decode cX9_moves 98 = .ok (.iconst 1, 1) := by decide +kernel
theorem dX9_moves_99 : decode cX9_moves 99 = .ok (.iload_n 2, 1) := by decide +kernel
theorem dX9_moves_100 : decode cX9_moves 100 = .ok (.invokevirtual 179, 3) := by decide +kernel
theorem dX9_moves_103 : decode cX9_moves 103 = .ok (.aload_n 0, 1) := by decide +kernel
theorem dX9_moves_104 : decode cX9_moves 104 = .ok (.iload_n 1, 1) := by decide +kernel
theorem dX9_moves_105 : decode cX9_moves 105 = .ok (.iconst 2, 1) := by decide +kernel
theorem dX9_moves_106 : decode cX9_moves 106 = .ok (.bipush (-9), 2) := by decide +kernel
theorem dX9_moves_108 : decode cX9_moves 108 = .ok (.invokevirtual 179, 3) := by decide +kernel
theorem dX9_moves_111 : decode cX9_moves 111 = .ok (.aload_n 0, 1) := by decide +kernel
theorem dX9_moves_112 : decode cX9_moves 112 = .ok (.iload_n 1, 1) := by decide +kernel
theorem dX9_moves_113 : decode cX9_moves 113 = .ok (.bipush 7, 2) := by decide +kernel
theorem dX9_moves_115 : decode cX9_moves 115 = .ok (.iconst 0, 1) := by decide +kernel
theorem dX9_moves_116 : decode cX9_moves 116 = .ok (.invokevirtual 179, 3) := by decide +kernel
theorem dX9_moves_119 : decode cX9_moves 119 = .ok (.iconst 0, 1) := by decide +kernel
theorem dX9_moves_120 : decode cX9_moves 120 = .ok (.istore 5, 2) := by decide +kernel
theorem dX9_moves_122 : decode cX9_moves 122 = .ok (.iload 5, 2) := by decide +kernel
theorem dX9_moves_124 : decode cX9_moves 124 = .ok (.iconst 4, 1) := by decide +kernel
theorem dX9_moves_125 : decode cX9_moves 125 = .ok (.if_icmp .ge 20, 3) := by decide +kernel
theorem dX9_moves_128 : decode cX9_moves 128 = .ok (.aload_n 0, 1) := by decide +kernel
theorem dX9_moves_129 : decode cX9_moves 129 = .ok (.iload_n 1, 1) := by decide +kernel
theorem dX9_moves_130 : decode cX9_moves 130 = .ok (.bipush 14, 2) := by decide +kernel
theorem dX9_moves_132 : decode cX9_moves 132 = .ok (.iload 5, 2) := by decide +kernel
theorem dX9_moves_134 : decode cX9_moves 134 = .ok (.iadd, 1) := by decide +kernel
theorem dX9_moves_135 : decode cX9_moves 135 = .ok (.iconst 0, 1) := by decide +kernel
theorem dX9_moves_136 : decode cX9_moves 136 = .ok (.invokevirtual 179, 3) := by decide +kernel
theorem dX9_moves_139 : decode cX9_moves 139 = .ok (.iinc 5 1, 3) := by decide +kernel
theorem dX9_moves_142 : decode cX9_moves 142 = .ok (.goto (-20), 3) := by decide +kernel
theorem dX9_moves_145 : decode cX9_moves 145 = .ok (.aload_n 0, 1) := by decide +kernel
theorem dX9_moves_146 : decode cX9_moves 146 = .ok (.iload_n 2, 1) := by decide +kernel
theorem dX9_moves_147 : decode cX9_moves 147 = .ok (.bipush 10, 2) := by decide +kernel
theorem dX9_moves_149 : decode cX9_moves 149 = .ok (.invokevirtual 170, 3) := by decide +kernel
theorem dX9_moves_152 : decode cX9_moves 152 = .ok (.aload_n 0, 1) := by decide +kernel
theorem dX9_moves_153 : decode cX9_moves 153 = .ok (.iload_n 3, 1) := by decide +kernel
theorem dX9_moves_154 : decode cX9_moves 154 = .ok (.iload_n 2, 1) := by decide +kernel
theorem dX9_moves_155 : decode cX9_moves 155 = .ok (.invokevirtual 186, 3) := by decide +kernel
theorem dX9_moves_158 : decode cX9_moves 158 = .ok (.aload_n 0, 1) := by decide +kernel
theorem dX9_moves_159 : decode cX9_moves 159 = .ok (.dup, 1) := by decide +kernel
theorem dX9_moves_160 : decode cX9_moves 160 = .ok (.getfield 189, 3) := by decide +kernel
theorem dX9_moves_163 : decode cX9_moves 163 = .ok (.iconst 1, 1) := by decide +kernel
theorem dX9_moves_164 : decode cX9_moves 164 = .ok (.iadd, 1) := by decide +kernel
theorem dX9_moves_165 : decode cX9_moves 165 = .ok (.putfield 189, 3) := by decide +kernel
theorem dX9_moves_168 : decode cX9_moves 168 = .ok (.aload_n 0, 1) := by decide +kernel
theorem dX9_moves_169 : decode cX9_moves 169 = .ok (.iload_n 3, 1) := by decide +kernel
theorem dX9_moves_170 : decode cX9_moves 170 = .ok (.invokevirtual 192, 3) := by decide +kernel
theorem dX9_moves_173 : decode cX9_moves 173 = .ok (.return_, 1) := by decide +kernel
theorem dX9_isAhead_0 : decode cX9_isAhead 0 = .ok (.aload_n 0, 1) := by decide +kernel
theorem dX9_isAhead_1 : decode cX9_isAhead 1 = .ok (.iload_n 1, 1) := by decide +kernel
theorem dX9_isAhead_2 : decode cX9_isAhead 2 = .ok (.bipush 7, 2) := by decide +kernel
theorem dX9_isAhead_4 : decode cX9_isAhead 4 = .ok (.invokevirtual 141, 3) := by decide +kernel
theorem dX9_isAhead_7 : decode cX9_isAhead 7 = .ok (.istore_n 3, 1) := by decide +kernel
theorem dX9_isAhead_8 : decode cX9_isAhead 8 = .ok (.aload_n 0, 1) := by decide +kernel
theorem dX9_isAhead_9 : decode cX9_isAhead 9 = .ok (.iload_n 2, 1) := by decide +kernel
theorem dX9_isAhead_10 : decode cX9_isAhead 10 = .ok (.bipush 7, 2) := by decide +kernel
theorem dX9_isAhead_12 : decode cX9_isAhead 12 = .ok (.invokevirtual 141, 3) := by decide +kernel
theorem dX9_isAhead_15 : decode cX9_isAhead 15 = .ok (.istore 4, 2) := by decide +kernel
theorem dX9_isAhead_17 : decode cX9_isAhead 17 = .ok (.aload_n 0, 1) := by decide +kernel
theorem dX9_isAhead_18 : decode cX9_isAhead 18 = .ok (.iload_n 1, 1) := by decide +kernel
theorem dX9_isAhead_19 : decode cX9_isAhead 19 = .ok (.iconst 3, 1) := by decide +kernel
theorem dX9_isAhead_20 : decode cX9_isAhead 20 = .ok (.invokevirtual 141, 3) := by decide +kernel
theorem dX9_isAhead_23 : decode cX9_isAhead 23 = .ok (.aload_n 0, 1) := by decide +kernel
theorem dX9_isAhead_24 : decode cX9_isAhead 24 = .ok (.iload_n 2, 1) := by decide +kernel
theorem dX9_isAhead_25 : decode cX9_isAhead 25 = .ok (.iconst 3, 1) := by decide +kernel
theorem dX9_isAhead_26 : decode cX9_isAhead 26 = .ok (.invokevirtual 141, 3) := by decide +kernel
theorem dX9_isAhead_29 : decode cX9_isAhead 29 = .ok (.if_icmp .ge 7, 3) := by decide +kernel
theorem dX9_isAhead_32 : decode cX9_isAhead 32 = .ok (.iconst 1, 1) := by decide +kernel
theorem dX9_isAhead_33 : decode cX9_isAhead 33 = .ok (.goto 4, 3) := by decide +kernel
theorem dX9_isAhead_36 : decode cX9_isAhead 36 = .ok (.iconst 0, 1) := by decide +kernel
theorem dX9_isAhead_37 : decode cX9_isAhead 37 = .ok (.istore 5, 2) := by decide +kernel
theorem dX9_isAhead_39 : decode cX9_isAhead 39 = .ok (.iload_n 3, 1) := by decide +kernel
theorem dX9_isAhead_40 : decode cX9_isAhead 40 = .ok (.ifCond .le 8, 3) := by decide +kernel
theorem dX9_isAhead_43 : decode cX9_isAhead 43 = .ok (.iload 4, 2) := by decide +kernel
theorem dX9_isAhead_45 : decode cX9_isAhead 45 = .ok (.ifCond .gt 23, 3) := by decide +kernel
theorem dX9_isAhead_48 : decode cX9_isAhead 48 = .ok (.iload_n 3, 1) := by decide +kernel
theorem dX9_isAhead_49 : decode cX9_isAhead 49 = .ok (.ifCond .gt 13, 3) := by decide +kernel
theorem dX9_isAhead_52 : decode cX9_isAhead 52 = .ok (.iload 4, 2) := by decide +kernel
theorem dX9_isAhead_54 : decode cX9_isAhead 54 = .ok (.ifCond .gt 12, 3) := by decide +kernel
theorem dX9_isAhead_57 : decode cX9_isAhead 57 = .ok (.iload 5, 2) := by decide +kernel
theorem dX9_isAhead_59 : decode cX9_isAhead 59 = .ok (.ifCond .eq 7, 3) := by decide +kernel
theorem dX9_isAhead_62 : decode cX9_isAhead 62 = .ok (.iconst 1, 1) := by decide +kernel
theorem dX9_isAhead_63 : decode cX9_isAhead 63 = .ok (.goto 4, 3) := by decide +kernel
theorem dX9_isAhead_66 : decode cX9_isAhead 66 = .ok (.iconst 0, 1) := by decide +kernel
theorem dX9_isAhead_67 : decode cX9_isAhead 67 = .ok (.ireturn, 1) := by decide +kernel
theorem dX9_isAhead_68 : decode cX9_isAhead 68 = .ok (.aload_n 0, 1) := by decide +kernel
theorem dX9_isAhead_69 : decode cX9_isAhead 69 = .ok (.iload_n 1, 1) := by decide +kernel
theorem dX9_isAhead_70 : decode cX9_isAhead 70 = .ok (.bipush 10, 2) := by decide +kernel
theorem dX9_isAhead_72 : decode cX9_isAhead 72 = .ok (.aload_n 0, 1) := by decide +kernel
theorem dX9_isAhead_73 : decode cX9_isAhead 73 = .ok (.iload_n 1, 1) := by decide +kernel
theorem dX9_isAhead_74 : decode cX9_isAhead 74 = .ok (.iconst 1, 1) := by decide +kernel
theorem dX9_isAhead_75 : decode cX9_isAhead 75 = .ok (.invokevirtual 141, 3) := by decide +kernel
theorem dX9_isAhead_78 : decode cX9_isAhead 78 = .ok (.iadd, 1) := by decide +kernel
theorem dX9_isAhead_79 : decode cX9_isAhead 79 = .ok (.invokevirtual 141, 3) := by decide +kernel
theorem dX9_isAhead_82 : decode cX9_isAhead 82 = .ok (.bipush 64, 2) := by decide +kernel
theorem dX9_isAhead_84 : decode cX9_isAhead 84 = .ok (.aload_n 0, 1) := by decide +kernel
theorem dX9_isAhead_85 : decode cX9_isAhead 85 = .ok (.getfield 32, 3) := by decide +kernel
theorem dX9_isAhead_88 : decode cX9_isAhead 88 = .ok (.iconst 4, 1) := by decide +kernel
theorem dX9_isAhead_89 : decode cX9_isAhead 89 = .ok (.iaload, 1) := by decide +kernel
theorem dX9_isAhead_90 : decode cX9_isAhead 90 = .ok (.imul, 1) := by decide +kernel
theorem dX9_isAhead_91 : decode cX9_isAhead 91 = .ok (.isub, 1) := by decide +kernel
theorem dX9_isAhead_92 : decode cX9_isAhead 92 = .ok (.i2l, 1) := by decide +kernel
theorem dX9_isAhead_93 : decode cX9_isAhead 93 = .ok (.iload 4, 2) := by decide +kernel
theorem dX9_isAhead_95 : decode cX9_isAhead 95 = .ok (.i2l, 1) := by decide +kernel
theorem dX9_isAhead_96 : decode cX9_isAhead 96 = .ok (.lmul, 1) := by decide +kernel
theorem dX9_isAhead_97 : decode cX9_isAhead 97 = .ok (.lstore 6, 2) := by decide +kernel
theorem dX9_isAhead_99 : decode cX9_isAhead 99 = .ok (.aload_n 0, 1) := by decide +kernel
theorem dX9_isAhead_100 : decode cX9_isAhead 100 = .ok (.iload_n 2, 1) := by decide +kernel
theorem dX9_isAhead_101 : decode cX9_isAhead 101 = .ok (.bipush 10, 2) := by decide +kernel
theorem dX9_isAhead_103 : decode cX9_isAhead 103 = .ok (.aload_n 0, 1) := by decide +kernel
theorem dX9_isAhead_104 : decode cX9_isAhead 104 = .ok (.iload_n 2, 1) := by decide +kernel
theorem dX9_isAhead_105 : decode cX9_isAhead 105 = .ok (.iconst 1, 1) := by decide +kernel
theorem dX9_isAhead_106 : decode cX9_isAhead 106 = .ok (.invokevirtual 141, 3) := by decide +kernel
theorem dX9_isAhead_109 : decode cX9_isAhead 109 = .ok (.iadd, 1) := by decide +kernel
theorem dX9_isAhead_110 : decode cX9_isAhead 110 = .ok (.invokevirtual 141, 3) := by decide +kernel
theorem dX9_isAhead_113 : decode cX9_isAhead 113 = .ok (.bipush 64, 2) := by decide +kernel
theorem dX9_isAhead_115 : decode cX9_isAhead 115 = .ok (.aload_n 0, 1) := by decide +kernel
theorem dX9_isAhead_116 : decode cX9_isAhead 116 = .ok (.getfield 32, 3) := by decide +kernel
theorem dX9_isAhead_119 : decode cX9_isAhead 119 = .ok (.iconst 4, 1) := by decide +kernel
theorem dX9_isAhead_120 : decode cX9_isAhead 120 = .ok (.iaload, 1) := by decide +kernel
theorem dX9_isAhead_121 : decode cX9_isAhead 121 = .ok (.imul, 1) := by decide +kernel
theorem dX9_isAhead_122 : decode cX9_isAhead 122 = .ok (.isub, 1) := by decide +kernel
theorem dX9_isAhead_123 : decode cX9_isAhead 123 = .ok (.i2l, 1) := by decide +kernel
theorem dX9_isAhead_124 : decode cX9_isAhead 124 = .ok (.iload_n 3, 1) := by decide +kernel
theorem dX9_isAhead_125 : decode cX9_isAhead 125 = .ok (.i2l, 1) := by decide +kernel
theorem dX9_isAhead_126 : decode cX9_isAhead 126 = .ok (.lmul, 1) := by decide +kernel
theorem dX9_isAhead_127 : decode cX9_isAhead 127 = .ok (.lstore 8, 2) := by decide +kernel
theorem dX9_isAhead_129 : decode cX9_isAhead 129 = .ok (.lload 6, 2) := by decide +kernel
theorem dX9_isAhead_131 : decode cX9_isAhead 131 = .ok (.lload 8, 2) := by decide +kernel
theorem dX9_isAhead_133 : decode cX9_isAhead 133 = .ok (.lcmp, 1) := by decide +kernel
theorem dX9_isAhead_134 : decode cX9_isAhead 134 = .ok (.ifCond .lt 16, 3) := by decide +kernel
theorem dX9_isAhead_137 : decode cX9_isAhead 137 = .ok (.lload 6, 2) := by decide +kernel
theorem dX9_isAhead_139 : decode cX9_isAhead 139 = .ok (.lload 8, 2) := by decide +kernel
theorem dX9_isAhead_141 : decode cX9_isAhead 141 = .ok (.lcmp, 1) := by decide +kernel
theorem dX9_isAhead_142 : decode cX9_isAhead 142 = .ok (.ifCond .ne 12, 3) := by decide +kernel
theorem dX9_isAhead_145 : decode cX9_isAhead 145 = .ok (.iload 5, 2) := by decide +kernel
theorem dX9_isAhead_147 : decode cX9_isAhead 147 = .ok (.ifCond .eq 7, 3) := by decide +kernel
theorem dX9_isAhead_150 : decode cX9_isAhead 150 = .ok (.iconst 1, 1) := by decide +kernel
theorem dX9_isAhead_151 : decode cX9_isAhead 151 = .ok (.goto 4, 3) := by decide +kernel
theorem dX9_isAhead_154 : decode cX9_isAhead 154 = .ok (.iconst 0, 1) := by decide +kernel
theorem dX9_isAhead_155 : decode cX9_isAhead 155 = .ok (.ireturn, 1) := by decide +kernel
