theorem dX0_init_0 : decode cX0_init 0 = .ok (.aload_n 0, 1) := by decide +kernel
theorem dX0_init_1 : decode cX0_init 1 = .ok (.invokespecial 3, 3) := by decide +kernel
theorem dX0_init_4 : decode cX0_init 4 = .ok (.aload_n 0, 1) := by decide +kernel
theorem dX0_init_5 : decode cX0_init 5 = .ok (.iconst 4, 1) := by decide +kernel
theorem dX0_init_6 : decode cX0_init 6 = .ok (.newarray .int, 2) := by decide +kernel
theorem dX0_init_8 : decode cX0_init 8 = .ok (.putfield 9, 3) := by decide +kernel
theorem dX0_init_11 : decode cX0_init 11 = .ok (.aload_n 0, 1) := by decide +kernel
theorem dX0_init_12 : decode cX0_init 12 = .ok (.bipush 13, 2) := by decide +kernel
theorem dX0_init_14 : decode cX0_init 14 = .ok (.newarray .int, 2) := by decide +kernel
theorem dX0_init_16 : decode cX0_init 16 = .ok (.putfield 15, 3) := by decide +kernel
theorem dX0_init_19 : decode cX0_init 19 = .ok (.aload_n 0, 1) := by decide +kernel
theorem dX0_init_20 : decode cX0_init 20 = .ok (.aload_n 1, 1) := by decide +kernel
theorem dX0_init_21 : decode cX0_init 21 = .ok (.putfield 18, 3) := by decide +kernel
theorem dX0_init_24 : decode cX0_init 24 = .ok (.aload_n 0, 1) := by decide +kernel
theorem dX0_init_25 : decode cX0_init 25 = .ok (.aload_n 2, 1) := by decide +kernel
theorem dX0_init_26 : decode cX0_init 26 = .ok (.putfield 22, 3) := by decide +kernel
theorem dX0_init_29 : decode cX0_init 29 = .ok (.return_, 1) := by decide +kernel
theorem dX0_free_0 : decode cX0_free 0 = .ok (.aload_n 0, 1) := by decide +kernel
theorem dX0_free_1 : decode cX0_free 1 = .ok (.getfield 18, 3) := by decide +kernel
theorem dX0_free_4 : decode cX0_free 4 = .ok (.getfield 26, 3) := by decide +kernel
theorem dX0_free_7 : decode cX0_free 7 = .ok (.iload_n 1, 1) := by decide +kernel
theorem dX0_free_8 : decode cX0_free 8 = .ok (.iaload, 1) := by decide +kernel
theorem dX0_free_9 : decode cX0_free 9 = .ok (.aload_n 0, 1) := by decide +kernel
theorem dX0_free_10 : decode cX0_free 10 = .ok (.getfield 22, 3) := by decide +kernel
theorem dX0_free_13 : decode cX0_free 13 = .ok (.iload_n 1, 1) := by decide +kernel
theorem dX0_free_14 : decode cX0_free 14 = .ok (.invokevirtual 31, 3) := by decide +kernel
theorem dX0_free_17 : decode cX0_free 17 = .ok (.isub, 1) := by decide +kernel
theorem dX0_free_18 : decode cX0_free 18 = .ok (.ireturn, 1) := by decide +kernel
theorem dX0_chanceOf_0 : decode cX0_chanceOf 0 = .ok (.aload_n 0, 1) := by decide +kernel
theorem dX0_chanceOf_1 : decode cX0_chanceOf 1 = .ok (.iload_n 1, 1) := by decide +kernel
theorem dX0_chanceOf_2 : decode cX0_chanceOf 2 = .ok (.invokevirtual 37, 3) := by decide +kernel
theorem dX0_chanceOf_5 : decode cX0_chanceOf 5 = .ok (.aload_n 0, 1) := by decide +kernel
theorem dX0_chanceOf_6 : decode cX0_chanceOf 6 = .ok (.getfield 22, 3) := by decide +kernel
theorem dX0_chanceOf_9 : decode cX0_chanceOf 9 = .ok (.getfield 40, 3) := by decide +kernel
theorem dX0_chanceOf_12 : decode cX0_chanceOf 12 = .ok (.iload_n 1, 1) := by decide +kernel
theorem dX0_chanceOf_13 : decode cX0_chanceOf 13 = .ok (.iaload, 1) := by decide +kernel
theorem dX0_chanceOf_14 : decode cX0_chanceOf 14 = .ok (.invokestatic 43, 3) := by decide +kernel
theorem dX0_chanceOf_17 : decode cX0_chanceOf 17 = .ok (.ireturn, 1) := by decide +kernel
theorem dX0_offer_0 : decode cX0_offer 0 = .ok (.aload_n 0, 1) := by decide +kernel
theorem dX0_offer_1 : decode cX0_offer 1 = .ok (.getfield 22, 3) := by decide +kernel
theorem dX0_offer_4 : decode cX0_offer 4 = .ok (.iload_n 1, 1) := by decide +kernel
theorem dX0_offer_5 : decode cX0_offer 5 = .ok (.iconst 0, 1) := by decide +kernel
theorem dX0_offer_6 : decode cX0_offer 6 = .ok (.invokevirtual 47, 3) := by decide +kernel
theorem dX0_offer_9 : decode cX0_offer 9 = .ok (.aload_n 0, 1) := by decide +kernel
theorem dX0_offer_10 : decode cX0_offer 10 = .ok (.getfield 22, 3) := by decide +kernel
theorem dX0_offer_13 : decode cX0_offer 13 = .ok (.invokevirtual 51, 3) := by decide +kernel
theorem dX0_offer_16 : decode cX0_offer 16 = .ok (.istore_n 3, 1) := by decide +kernel
theorem dX0_offer_17 : decode cX0_offer 17 = .ok (.iload_n 3, 1) := by decide +kernel
theorem dX0_offer_18 : decode cX0_offer 18 = .ok (.bipush (-9), 2) := by decide +kernel
theorem dX0_offer_20 : decode cX0_offer 20 = .ok (.if_icmp .eq 15, 3) := by decide +kernel
theorem dX0_offer_23 : decode cX0_offer 23 = .ok (.aload_n 0, 1) := by decide +kernel
theorem dX0_offer_24 : decode cX0_offer 24 = .ok (.aload_n 0, 1) := by decide +kernel
theorem dX0_offer_25 : decode cX0_offer 25 = .ok (.iload_n 1, 1) := by decide +kernel
theorem dX0_offer_26 : decode cX0_offer 26 = .ok (.invokevirtual 55, 3) := by decide +kernel
theorem dX0_offer_29 : decode cX0_offer 29 = .ok (.invokevirtual 58, 3) := by decide +kernel
theorem dX0_offer_32 : decode cX0_offer 32 = .ok (.ifCond .ne 6, 3) := by decide +kernel
theorem dX0_offer_35 : decode cX0_offer 35 = .ok (.bipush (-9), 2) := by decide +kernel
theorem dX0_offer_37 : decode cX0_offer 37 = .ok (.ireturn, 1) := by decide +kernel
theorem dX0_offer_38 : decode cX0_offer 38 = .ok (.aload_n 0, 1) := by decide +kernel
theorem dX0_offer_39 : decode cX0_offer 39 = .ok (.getfield 22, 3) := by decide +kernel
theorem dX0_offer_42 : decode cX0_offer 42 = .ok (.iload_n 1, 1) := by decide +kernel
theorem dX0_offer_43 : decode cX0_offer 43 = .ok (.iconst 1, 1) := by decide +kernel
theorem dX0_offer_44 : decode cX0_offer 44 = .ok (.invokevirtual 47, 3) := by decide +kernel
theorem dX0_offer_47 : decode cX0_offer 47 = .ok (.aload_n 0, 1) := by decide +kernel
theorem dX0_offer_48 : decode cX0_offer 48 = .ok (.getfield 22, 3) := by decide +kernel
theorem dX0_offer_51 : decode cX0_offer 51 = .ok (.iload_n 3, 1) := by decide +kernel
theorem dX0_offer_52 : decode cX0_offer 52 = .ok (.iload_n 1, 1) := by decide +kernel
theorem dX0_offer_53 : decode cX0_offer 53 = .ok (.iload_n 2, 1) := by decide +kernel
theorem dX0_offer_54 : decode cX0_offer 54 = .ok (.invokevirtual 62, 3) := by decide +kernel
theorem dX0_offer_57 : decode cX0_offer 57 = .ok (.iload_n 3, 1) := by decide +kernel
theorem dX0_offer_58 : decode cX0_offer 58 = .ok (.ireturn, 1) := by decide +kernel
theorem dX0_isTaken_0 : decode cX0_isTaken 0 = .ok (.iload_n 1, 1) := by decide +kernel
theorem dX0_isTaken_1 : decode cX0_isTaken 1 = .ok (.ifCond .eq 9, 3) := by decide +kernel
theorem dX0_isTaken_4 : decode cX0_isTaken 4 = .ok (.iload_n 1, 1) := by decide +kernel
theorem dX0_isTaken_5 : decode cX0_isTaken 5 = .ok (.bipush 10, 2) := by decide +kernel
theorem dX0_isTaken_7 : decode cX0_isTaken 7 = .ok (.if_icmp .ne 15, 3) := by decide +kernel
theorem dX0_isTaken_10 : decode cX0_isTaken 10 = .ok (.iload_n 1, 1) := by decide +kernel
theorem dX0_isTaken_11 : decode cX0_isTaken 11 = .ok (.bipush 10, 2) := by decide +kernel
theorem dX0_isTaken_13 : decode cX0_isTaken 13 = .ok (.if_icmp .ne 7, 3) := by decide +kernel
theorem dX0_isTaken_16 : decode cX0_isTaken 16 = .ok (.iconst 1, 1) := by decide +kernel
theorem dX0_isTaken_17 : decode cX0_isTaken 17 = .ok (.goto 4, 3) := by decide +kernel
theorem dX0_isTaken_20 : decode cX0_isTaken 20 = .ok (.iconst 0, 1) := by decide +kernel
theorem dX0_isTaken_21 : decode cX0_isTaken 21 = .ok (.ireturn, 1) := by decide +kernel
theorem dX0_isTaken_22 : decode cX0_isTaken 22 = .ok (.aload_n 0, 1) := by decide +kernel
theorem dX0_isTaken_23 : decode cX0_isTaken 23 = .ok (.invokevirtual 66, 3) := by decide +kernel
theorem dX0_isTaken_26 : decode cX0_isTaken 26 = .ok (.iload_n 1, 1) := by decide +kernel
theorem dX0_isTaken_27 : decode cX0_isTaken 27 = .ok (.if_icmp .ge 7, 3) := by decide +kernel
theorem dX0_isTaken_30 : decode cX0_isTaken 30 = .ok (.iconst 1, 1) := by decide +kernel
theorem dX0_isTaken_31 : decode cX0_isTaken 31 = .ok (.goto 4, 3) := by decide +kernel
theorem dX0_isTaken_34 : decode cX0_isTaken 34 = .ok (.iconst 0, 1) := by decide +kernel
theorem dX0_isTaken_35 : decode cX0_isTaken 35 = .ok (.ireturn, 1) := by decide +kernel
theorem dX0_draw_0 : decode cX0_draw 0 = .ok (.aload_n 0, 1) := by decide +kernel
theorem dX0_draw_1 : decode cX0_draw 1 = .ok (.getfield 22, 3) := by decide +kernel
theorem dX0_draw_4 : decode cX0_draw 4 = .ok (.aload_n 0, 1) := by decide +kernel
theorem dX0_draw_5 : decode cX0_draw 5 = .ok (.getfield 22, 3) := by decide +kernel
theorem dX0_draw_8 : decode cX0_draw 8 = .ok (.getfield 69, 3) := by decide +kernel
theorem dX0_draw_11 : decode cX0_draw 11 = .ok (.ldc 73, 2) := by decide +kernel
theorem dX0_draw_13 : decode cX0_draw 13 = .ok (.imul, 1) := by decide +kernel
theorem dX0_draw_14 : decode cX0_draw 14 = .ok (.iconst 1, 1) := by decide +kernel
theorem dX0_draw_15 : decode cX0_draw 15 = .ok (.iadd, 1) := by decide +kernel
theorem dX0_draw_16 : decode cX0_draw 16 = .ok (.putfield 69, 3) := by decide +kernel
theorem dX0_draw_19 : decode cX0_draw 19 = .ok (.aload_n 0, 1) := by decide +kernel
theorem dX0_draw_20 : decode cX0_draw 20 = .ok (.getfield 22, 3) := by decide +kernel
theorem dX0_draw_23 : decode cX0_draw 23 = .ok (.getfield 69, 3) := by decide +kernel
theorem dX0_draw_26 : decode cX0_draw 26 = .ok (.bipush 16, 2) := by decide +kernel
theorem dX0_draw_28 : decode cX0_draw 28 = .ok (.iushr, 1) := by decide +kernel
theorem dX0_draw_29 : decode cX0_draw 29 = .ok (.bipush 10, 2) := by decide +kernel
theorem dX0_draw_31 : decode cX0_draw 31 = .ok (.irem, 1) := by decide +kernel
theorem dX0_draw_32 : decode cX0_draw 32 = .ok (.ireturn, 1) := by decide +kernel
theorem dX0_setValues_0 : decode cX0_setValues 0 = .ok (.aload_n 0, 1) := by decide +kernel
theorem dX0_setValues_1 : decode cX0_setValues 1 = .ok (.getfield 9, 3) := by decide +kernel
theorem dX0_setValues_4 : decode cX0_setValues 4 = .ok (.iconst 0, 1) := by decide +kernel
theorem dX0_setValues_5 : decode cX0_setValues 5 = .ok (.iload_n 1, 1) := by decide +kernel
theorem dX0_setValues_6 : decode cX0_setValues 6 = .ok (.iastore, 1) := by decide +kernel
theorem dX0_setValues_7 : decode cX0_setValues 7 = .ok (.aload_n 0, 1) := by decide +kernel
theorem dX0_setValues_8 : decode cX0_setValues 8 = .ok (.getfield 9, 3) := by decide +kernel
theorem dX0_setValues_11 : decode cX0_setValues 11 = .ok (.iconst 1, 1) := by decide +kernel
theorem dX0_setValues_12 : decode cX0_setValues 12 = .ok (.iload_n 2, 1) := by decide +kernel
theorem dX0_setValues_13 : decode cX0_setValues 13 = .ok (.iastore, 1) := by decide +kernel
theorem dX0_setValues_14 : decode cX0_setValues 14 = .ok (.aload_n 0, 1) := by decide +kernel
theorem dX0_setValues_15 : decode cX0_setValues 15 = .ok (.getfield 9, 3) := by decide +kernel
theorem dX0_setValues_18 : decode cX0_setValues 18 = .ok (.iconst 2, 1) := by decide +kernel
theorem dX0_setValues_19 : decode cX0_setValues 19 = .ok (.iload_n 3, 1) := by decide +kernel
theorem dX0_setValues_20 : decode cX0_setValues 20 = .ok (.iastore, 1) := by decide +kernel
theorem dX0_setValues_21 : decode cX0_setValues 21 = .ok (.aload_n 0, 1) := by decide +kernel
theorem dX0_setValues_22 : decode cX0_setValues 22 = .ok (.getfield 9, 3) := by decide +kernel
theorem dX0_setValues_25 : decode cX0_setValues 25 = .ok (.iconst 3, 1) := by decide +kernel
theorem dX0_setValues_26 : decode cX0_setValues 26 = .ok (.iload 4, 2) := by decide +kernel
theorem dX0_setValues_28 : decode cX0_setValues 28 = .ok (.iastore, 1) := by decide +kernel
theorem dX0_setValues_29 : decode cX0_setValues 29 = .ok (.return_, 1) := by decide +kernel
theorem dX0_hear_0 : decode cX0_hear 0 = .ok (.aload_n 0, 1) := by decide +kernel
theorem dX0_hear_1 : decode cX0_hear 1 = .ok (.getfield 22, 3) := by decide +kernel
theorem dX0_hear_4 : decode cX0_hear 4 = .ok (.getfield 74, 3) := by decide +kernel
theorem dX0_hear_7 : decode cX0_hear 7 = .ok (.iload_n 1, 1) := by decide +kernel
theorem dX0_hear_8 : decode cX0_hear 8 = .ok (.dup2, 1) := by decide +kernel
theorem dX0_hear_9 : decode cX0_hear 9 = .ok (.iaload, 1) := by decide +kernel
theorem dX0_hear_10 : decode cX0_hear 10 = .ok (.iconst 1, 1) := by decide +kernel
theorem dX0_hear_11 : decode cX0_hear 11 = .ok (.iadd, 1) := by decide +kernel
theorem dX0_hear_12 : decode cX0_hear 12 = .ok (.iastore, 1) := by decide +kernel
theorem dX0_hear_13 : decode cX0_hear 13 = .ok (.aload_n 0, 1) := by decide +kernel
theorem dX0_hear_14 : decode cX0_hear 14 = .ok (.getfield 22, 3) := by decide +kernel
theorem dX0_hear_17 : decode cX0_hear 17 = .ok (.getfield 77, 3) := by decide +kernel
theorem dX0_hear_20 : decode cX0_hear 20 = .ok (.iload_n 1, 1) := by decide +kernel
theorem dX0_hear_21 : decode cX0_hear 21 = .ok (.dup2, 1) := by decide +kernel
theorem dX0_hear_22 : decode cX0_hear 22 = .ok (.iaload, 1) := by decide +kernel
theorem dX0_hear_23 : decode cX0_hear 23 = .ok (.iconst 1, 1) := by decide +kernel
theorem dX0_hear_24 : decode cX0_hear 24 = .ok (.iadd, 1) := by decide +kernel
theorem dX0_hear_25 : decode cX0_hear 25 = .ok (.iastore, 1) := by decide +kernel
theorem dX0_hear_26 : decode cX0_hear 26 = .ok (.aload_n 0, 1) := by decide +kernel
theorem dX0_hear_27 : decode cX0_hear 27 = .ok (.iload_n 1, 1) := by decide +kernel
theorem dX0_hear_28 : decode cX0_hear 28 = .ok (.invokevirtual 80, 3) := by decide +kernel
theorem dX0_hear_31 : decode cX0_hear 31 = .ok (.aload_n 0, 1) := by decide +kernel
theorem dX0_hear_32 : decode cX0_hear 32 = .ok (.iload_n 1, 1) := by decide +kernel
theorem dX0_hear_33 : decode cX0_hear 33 = .ok (.invokevirtual 84, 3) := by decide +kernel
theorem dX0_hear_36 : decode cX0_hear 36 = .ok (.aload_n 0, 1) := by decide +kernel
theorem dX0_hear_37 : decode cX0_hear 37 = .ok (.iload_n 1, 1) := by decide +kernel
theorem dX0_hear_38 : decode cX0_hear 38 = .ok (.aload_n 0, 1) := by decide +kernel
theorem dX0_hear_39 : decode cX0_hear 39 = .ok (.iload_n 1, 1) := by decide +kernel
theorem dX0_hear_40 : decode cX0_hear 40 = .ok (.invokevirtual 87, 3) := by decide +kernel
theorem dX0_hear_43 : decode cX0_hear 43 = .ok (.invokevirtual 90, 3) := by decide +kernel
theorem dX0_hear_46 : decode cX0_hear 46 = .ok (.istore_n 2, 1) := by decide +kernel
theorem dX0_hear_47 : decode cX0_hear 47 = .ok (.iload_n 2, 1) := by decide +kernel
theorem dX0_hear_48 : decode cX0_hear 48 = .ok (.iconst 1, 1) := by decide +kernel
theorem dX0_hear_49 : decode cX0_hear 49 = .ok (.if_icmp .eq 50, 3) := by decide +kernel
theorem dX0_hear_52 : decode cX0_hear 52 = .ok (.aload_n 0, 1) := by decide +kernel
theorem dX0_hear_53 : decode cX0_hear 53 = .ok (.getfield 22, 3) := by decide +kernel
theorem dX0_hear_56 : decode cX0_hear 56 = .ok (.iload_n 1, 1) := by decide +kernel
theorem dX0_hear_57 : decode cX0_hear 57 = .ok (.invokevirtual 93, 3) := by decide +kernel
theorem dX0_hear_60 : decode cX0_hear 60 = .ok (.bipush 64, 2) := by decide +kernel
theorem dX0_hear_62 : decode cX0_hear 62 = .ok (.aload_n 0, 1) := by decide +kernel
theorem dX0_hear_63 : decode cX0_hear 63 = .ok (.getfield 18, 3) := by decide +kernel
theorem dX0_hear_66 : decode cX0_hear 66 = .ok (.getfield 96, 3) := by decide +kernel
theorem dX0_hear_69 : decode cX0_hear 69 = .ok (.iconst 3, 1) := by decide +kernel
theorem dX0_hear_70 : decode cX0_hear 70 = .ok (.iaload, 1) := by decide +kernel
theorem dX0_hear_71 : decode cX0_hear 71 = .ok (.imul, 1) := by decide +kernel
theorem dX0_hear_72 : decode cX0_hear 72 = .ok (.if_icmp .ge 27, 3) := by decide +kernel
theorem dX0_hear_75 : decode cX0_hear 75 = .ok (.aload_n 0, 1) := by decide +kernel
theorem dX0_hear_76 : decode cX0_hear 76 = .ok (.getfield 22, 3) := by decide +kernel
theorem dX0_hear_79 : decode cX0_hear 79 = .ok (.aload_n 0, 1) := by decide +kernel
theorem dX0_hear_80 : decode cX0_hear 80 = .ok (.getfield 22, 3) := by decide +kernel
theorem dX0_hear_83 : decode cX0_hear 83 = .ok (.getfield 99, 3) := by decide +kernel
theorem dX0_hear_86 : decode cX0_hear 86 = .ok (.iload_n 1, 1) := by decide +kernel
theorem dX0_hear_87 : decode cX0_hear 87 = .ok (.iaload, 1) := by decide +kernel
theorem dX0_hear_88 : decode cX0_hear 88 = .ok (.iconst 5, 1) := by decide +kernel
theorem dX0_hear_89 : decode cX0_hear 89 = .ok (.invokevirtual 47, 3) := by decide +kernel
theorem dX0_hear_92 : decode cX0_hear 92 = .ok (.aload_n 0, 1) := by decide +kernel
theorem dX0_hear_93 : decode cX0_hear 93 = .ok (.iload_n 1, 1) := by decide +kernel
theorem dX0_hear_94 : decode cX0_hear 94 = .ok (.invokevirtual 102, 3) := by decide +kernel
theorem dX0_hear_97 : decode cX0_hear 97 = .ok (.iconst 4, 1) := by decide +kernel
theorem dX0_hear_98 : decode cX0_hear 98 = .ok (.istore_n 2, 1) := by decide +kernel
theorem dX0_hear_99 : decode cX0_hear 99 = .ok (.aload_n 0, 1) := by decide +kernel
theorem dX0_hear_100 : decode cX0_hear 100 = .ok (.invokevirtual 105, 3) := by decide +kernel
theorem dX0_hear_103 : decode cX0_hear 103 = .ok (.pop, 1) := by decide +kernel
theorem dX0_hear_104 : decode cX0_hear 104 = .ok (.iload_n 2, 1) := by decide +kernel
theorem dX0_hear_105 : decode cX0_hear 105 = .ok (.ireturn, 1) := by decide +kernel
theorem dX0_smoothLevels_0 : decode cX0_smoothLevels 0 = .ok (.aload_n 0, 1) := by decide +kernel
theorem dX0_smoothLevels_1 : decode cX0_smoothLevels 1 = .ok (.getfield 22, 3) := by decide +kernel
theorem dX0_smoothLevels_4 : decode cX0_smoothLevels 4 = .ok (.iload_n 1, 1) := by decide +kernel
theorem dX0_smoothLevels_5 : decode cX0_smoothLevels 5 = .ok (.invokevirtual 93, 3) := by decide +kernel
theorem dX0_smoothLevels_8 : decode cX0_smoothLevels 8 = .ok (.istore_n 2, 1) := by decide +kernel
theorem dX0_smoothLevels_9 : decode cX0_smoothLevels 9 = .ok (.aload_n 0, 1) := by decide +kernel
theorem dX0_smoothLevels_10 : decode cX0_smoothLevels 10 = .ok (.getfield 18, 3) := by decide +kernel
theorem dX0_smoothLevels_13 : decode cX0_smoothLevels 13 = .ok (.getfield 96, 3) := by decide +kernel
theorem dX0_smoothLevels_16 : decode cX0_smoothLevels 16 = .ok (.iconst 2, 1) := by decide +kernel
theorem dX0_smoothLevels_17 : decode cX0_smoothLevels 17 = .ok (.iaload, 1) := by decide +kernel
theorem dX0_smoothLevels_18 : decode cX0_smoothLevels 18 = .ok (.istore_n 3, 1) := by decide +kernel
theorem dX0_smoothLevels_19 : decode cX0_smoothLevels 19 = .ok (.iconst 1, 1) := by decide +kernel
theorem dX0_smoothLevels_20 : decode cX0_smoothLevels 20 = .ok (.iload_n 3, 1) := by decide +kernel
theorem dX0_smoothLevels_21 : decode cX0_smoothLevels 21 = .ok (.ishl, 1) := by decide +kernel
theorem dX0_smoothLevels_22 : decode cX0_smoothLevels 22 = .ok (.iconst 1, 1) := by decide +kernel
theorem dX0_smoothLevels_23 : decode cX0_smoothLevels 23 = .ok (.isub, 1) := by decide +kernel
theorem dX0_smoothLevels_24 : decode cX0_smoothLevels 24 = .ok (.istore 4, 2) := by decide +kernel
theorem dX0_smoothLevels_26 : decode cX0_smoothLevels 26 = .ok (.iconst 0, 1) := by decide +kernel
theorem dX0_smoothLevels_27 : decode cX0_smoothLevels 27 = .ok (.istore 5, 2) := by decide +kernel
theorem dX0_smoothLevels_29 : decode cX0_smoothLevels 29 = .ok (.iload 5, 2) := by decide +kernel
theorem dX0_smoothLevels_31 : decode cX0_smoothLevels 31 = .ok (.aload_n 0, 1) := by decide +kernel
theorem dX0_smoothLevels_32 : decode cX0_smoothLevels 32 = .ok (.getfield 18, 3) := by decide +kernel
theorem dX0_smoothLevels_35 : decode cX0_smoothLevels 35 = .ok (.getfield 108, 3) := by decide +kernel
theorem dX0_smoothLevels_38 : decode cX0_smoothLevels 38 = .ok (.if_icmp .ge 59, 3) := by decide +kernel
theorem dX0_smoothLevels_41 : decode cX0_smoothLevels 41 = .ok (.iload 5, 2) := by decide +kernel
theorem dX0_smoothLevels_43 : decode cX0_smoothLevels 43 = .ok (.iconst 4, 1) := by decide +kernel
theorem dX0_smoothLevels_44 : decode cX0_smoothLevels 44 = .ok (.if_icmp .ge 53, 3) := by decide +kernel
theorem dX0_smoothLevels_47 : decode cX0_smoothLevels 47 = .ok (.iload_n 1, 1) := by decide +kernel
theorem dX0_smoothLevels_48 : decode cX0_smoothLevels 48 = .ok (.iconst 4, 1) := by decide +kernel
theorem dX0_smoothLevels_49 : decode cX0_smoothLevels 49 = .ok (.imul, 1) := by decide +kernel
theorem dX0_smoothLevels_50 : decode cX0_smoothLevels 50 = .ok (.iload 5, 2) := by decide +kernel
theorem dX0_smoothLevels_52 : decode cX0_smoothLevels 52 = .ok (.iadd, 1) := by decide +kernel
theorem dX0_smoothLevels_53 : decode cX0_smoothLevels 53 = .ok (.istore 6, 2) := by decide +kernel
theorem dX0_smoothLevels_55 : decode cX0_smoothLevels 55 = .ok (.aload_n 0, 1) := by decide +kernel
theorem dX0_smoothLevels_56 : decode cX0_smoothLevels 56 = .ok (.getfield 22, 3) := by decide +kernel
theorem dX0_smoothLevels_59 : decode cX0_smoothLevels 59 = .ok (.getfield 111, 3) := by decide +kernel
theorem dX0_smoothLevels_62 : decode cX0_smoothLevels 62 = .ok (.iload 6, 2) := by decide +kernel
theorem dX0_smoothLevels_64 : decode cX0_smoothLevels 64 = .ok (.aload_n 0, 1) := by decide +kernel
theorem dX0_smoothLevels_65 : decode cX0_smoothLevels 65 = .ok (.getfield 22, 3) := by decide +kernel
theorem dX0_smoothLevels_68 : decode cX0_smoothLevels 68 = .ok (.getfield 111, 3) := by decide +kernel
theorem dX0_smoothLevels_71 : decode cX0_smoothLevels 71 = .ok (.iload 6, 2) := by decide +kernel
theorem dX0_smoothLevels_73 : decode cX0_smoothLevels 73 = .ok (.iaload, 1) := by decide +kernel
theorem dX0_smoothLevels_74 : decode cX0_smoothLevels 74 = .ok (.iload 4, 2) := by decide +kernel
theorem dX0_smoothLevels_76 : decode cX0_smoothLevels 76 = .ok (.imul, 1) := by decide +kernel
theorem dX0_smoothLevels_77 : decode cX0_smoothLevels 77 = .ok (.bipush 64, 2) := by decide +kernel
theorem dX0_smoothLevels_79 : decode cX0_smoothLevels 79 = .ok (.aload_n 0, 1) := by decide +kernel
theorem dX0_smoothLevels_80 : decode cX0_smoothLevels 80 = .ok (.getfield 9, 3) := by decide +kernel
theorem dX0_smoothLevels_83 : decode cX0_smoothLevels 83 = .ok (.iload 5, 2) := by decide +kernel
theorem dX0_smoothLevels_85 : decode cX0_smoothLevels 85 = .ok (.iaload, 1) := by decide +kernel
theorem dX0_smoothLevels_86 : decode cX0_smoothLevels 86 = .ok (.imul, 1) := by decide +kernel
theorem dX0_smoothLevels_87 : decode cX0_smoothLevels 87 = .ok (.iadd, 1) := by decide +kernel
theorem dX0_smoothLevels_88 : decode cX0_smoothLevels 88 = .ok (.iload_n 3, 1) := by decide +kernel
theorem dX0_smoothLevels_89 : decode cX0_smoothLevels 89 = .ok (.ishr, 1) := by decide +kernel
theorem dX0_smoothLevels_90 : decode cX0_smoothLevels 90 = .ok (.iastore, 1) := by decide +kernel
theorem dX0_smoothLevels_91 : decode cX0_smoothLevels 91 = .ok (.iinc 5 1, 3) := by decide +kernel
theorem dX0_smoothLevels_94 : decode cX0_smoothLevels 94 = .ok (.goto (-65), 3) := by decide +kernel
theorem dX0_smoothLevels_97 : decode cX0_smoothLevels 97 = .ok (.aload_n 0, 1) := by decide +kernel
theorem dX0_smoothLevels_98 : decode cX0_smoothLevels 98 = .ok (.getfield 22, 3) := by decide +kernel
theorem dX0_smoothLevels_101 : decode cX0_smoothLevels 101 = .ok (.getfield 114, 3) := by decide +kernel
theorem dX0_smoothLevels_104 : decode cX0_smoothLevels 104 = .ok (.iload_n 1, 1) := by decide +kernel
theorem dX0_smoothLevels_105 : decode cX0_smoothLevels 105 = .ok (.iload_n 2, 1) := by decide +kernel
theorem dX0_smoothLevels_106 : decode cX0_smoothLevels 106 = .ok (.aload_n 0, 1) := by decide +kernel
theorem dX0_smoothLevels_107 : decode cX0_smoothLevels 107 = .ok (.getfield 22, 3) := by decide +kernel
theorem dX0_smoothLevels_110 : decode cX0_smoothLevels 110 = .ok (.iload_n 1, 1) := by decide +kernel
theorem dX0_smoothLevels_111 : decode cX0_smoothLevels 111 = .ok (.invokevirtual 93, 3) := by decide +kernel
theorem dX0_smoothLevels_114 : decode cX0_smoothLevels 114 = .ok (.isub, 1) := by decide +kernel
theorem dX0_smoothLevels_115 : decode cX0_smoothLevels 115 = .ok (.iastore, 1) := by decide +kernel
theorem dX0_smoothLevels_116 : decode cX0_smoothLevels 116 = .ok (.return_, 1) := by decide +kernel
theorem dX0_countStreaks_0 : decode cX0_countStreaks 0 = .ok (.aload_n 0, 1) := by decide +kernel
theorem dX0_countStreaks_1 : decode cX0_countStreaks 1 = .ok (.getfield 22, 3) := by decide +kernel
theorem dX0_countStreaks_4 : decode cX0_countStreaks 4 = .ok (.iload_n 1, 1) := by decide +kernel
theorem dX0_countStreaks_5 : decode cX0_countStreaks 5 = .ok (.invokevirtual 93, 3) := by decide +kernel
theorem dX0_countStreaks_8 : decode cX0_countStreaks 8 = .ok (.bipush 64, 2) := by decide +kernel
theorem dX0_countStreaks_10 : decode cX0_countStreaks 10 = .ok (.aload_n 0, 1) := by decide +kernel
theorem dX0_countStreaks_11 : decode cX0_countStreaks 11 = .ok (.getfield 18, 3) := by decide +kernel
theorem dX0_countStreaks_14 : decode cX0_countStreaks 14 = .ok (.getfield 96, 3) := by decide +kernel
theorem dX0_countStreaks_17 : decode cX0_countStreaks 17 = .ok (.iconst 0, 1) := by decide +kernel
theorem dX0_countStreaks_18 : decode cX0_countStreaks 18 = .ok (.iaload, 1) := by decide +kernel
theorem dX0_countStreaks_19 : decode cX0_countStreaks 19 = .ok (.imul, 1) := by decide +kernel
theorem dX0_countStreaks_20 : decode cX0_countStreaks 20 = .ok (.iadd, 1) := by decide +kernel
theorem dX0_countStreaks_21 : decode cX0_countStreaks 21 = .ok (.istore_n 2, 1) := by decide +kernel
theorem dX0_countStreaks_22 : decode cX0_countStreaks 22 = .ok (.iconst 0, 1) := by decide +kernel
theorem dX0_countStreaks_23 : decode cX0_countStreaks 23 = .ok (.istore_n 3, 1) := by decide +kernel
theorem dX0_countStreaks_24 : decode cX0_countStreaks 24 = .ok (.iload_n 3, 1) := by decide +kernel
theorem dX0_countStreaks_25 : decode cX0_countStreaks 25 = .ok (.aload_n 0, 1) := by decide +kernel
theorem dX0_countStreaks_26 : decode cX0_countStreaks 26 = .ok (.getfield 18, 3) := by decide +kernel
theorem dX0_countStreaks_29 : decode cX0_countStreaks 29 = .ok (.getfield 108, 3) := by decide +kernel
theorem dX0_countStreaks_32 : decode cX0_countStreaks 32 = .ok (.if_icmp .ge 86, 3) := by decide +kernel
theorem dX0_countStreaks_35 : decode cX0_countStreaks 35 = .ok (.iload_n 3, 1) := by decide +kernel
theorem dX0_countStreaks_36 : decode cX0_countStreaks 36 = .ok (.iconst 4, 1) := by decide +kernel
theorem dX0_countStreaks_37 : decode cX0_countStreaks 37 = .ok (.if_icmp .ge 81, 3) := by decide +kernel
theorem dX0_countStreaks_40 : decode cX0_countStreaks 40 = .ok (.iload_n 1, 1) := by decide +kernel
theorem dX0_countStreaks_41 : decode cX0_countStreaks 41 = .ok (.iconst 4, 1) := by decide +kernel
theorem dX0_countStreaks_42 : decode cX0_countStreaks 42 = .ok (.imul, 1) := by decide +kernel
theorem dX0_countStreaks_43 : decode cX0_countStreaks 43 = .ok (.iload_n 3, 1) := by decide +kernel
theorem dX0_countStreaks_44 : decode cX0_countStreaks 44 = .ok (.iadd, 1) := by decide +kernel
theorem dX0_countStreaks_45 : decode cX0_countStreaks 45 = .ok (.istore 4, 2) := by decide +kernel
theorem dX0_countStreaks_47 : decode cX0_countStreaks 47 = .ok (.iload_n 3, 1) := by decide +kernel
theorem dX0_countStreaks_48 : decode cX0_countStreaks 48 = .ok (.aload_n 0, 1) := by decide +kernel
theorem dX0_countStreaks_49 : decode cX0_countStreaks 49 = .ok (.getfield 22, 3) := by decide +kernel
theorem dX0_countStreaks_52 : decode cX0_countStreaks 52 = .ok (.getfield 99, 3) := by decide +kernel
theorem dX0_countStreaks_55 : decode cX0_countStreaks 55 = .ok (.iload_n 1, 1) := by decide +kernel
theorem dX0_countStreaks_56 : decode cX0_countStreaks 56 = .ok (.iaload, 1) := by decide +kernel
theorem dX0_countStreaks_57 : decode cX0_countStreaks 57 = .ok (.if_icmp .eq 21, 3) := by decide +kernel
theorem dX0_countStreaks_60 : decode cX0_countStreaks 60 = .ok (.aload_n 0, 1) := by decide +kernel
theorem dX0_countStreaks_61 : decode cX0_countStreaks 61 = .ok (.getfield 22, 3) := by decide +kernel
theorem dX0_countStreaks_64 : decode cX0_countStreaks 64 = .ok (.getfield 111, 3) := by decide +kernel
theorem dX0_countStreaks_67 : decode cX0_countStreaks 67 = .ok (.iload 4, 2) := by decide +kernel
theorem dX0_countStreaks_69 : decode cX0_countStreaks 69 = .ok (.iaload, 1) := by decide +kernel
theorem dX0_countStreaks_70 : decode cX0_countStreaks 70 = .ok (.iload_n 2, 1) := by decide +kernel
theorem dX0_countStreaks_71 : decode cX0_countStreaks 71 = .ok (.if_icmp .lt 7, 3) := by decide +kernel
theorem dX0_countStreaks_74 : decode cX0_countStreaks 74 = .ok (.iconst 1, 1) := by decide +kernel
theorem dX0_countStreaks_75 : decode cX0_countStreaks 75 = .ok (.goto 4, 3) := by decide +kernel
theorem dX0_countStreaks_78 : decode cX0_countStreaks 78 = .ok (.iconst 0, 1) := by decide +kernel
theorem dX0_countStreaks_79 : decode cX0_countStreaks 79 = .ok (.istore 5, 2) := by decide +kernel
theorem dX0_countStreaks_81 : decode cX0_countStreaks 81 = .ok (.aload_n 0, 1) := by decide +kernel
theorem dX0_countStreaks_82 : decode cX0_countStreaks 82 = .ok (.getfield 22, 3) := by decide +kernel
theorem dX0_countStreaks_85 : decode cX0_countStreaks 85 = .ok (.getfield 117, 3) := by decide +kernel
theorem dX0_countStreaks_88 : decode cX0_countStreaks 88 = .ok (.iload 4, 2) := by decide +kernel
theorem dX0_countStreaks_90 : decode cX0_countStreaks 90 = .ok (.iload 5, 2) := by decide +kernel
theorem dX0_countStreaks_92 : decode cX0_countStreaks 92 = .ok (.ifCond .eq 18, 3) := by decide +kernel
theorem dX0_countStreaks_95 : decode cX0_countStreaks 95 = .ok (.aload_n 0, 1) := by decide +kernel
theorem dX0_countStreaks_96 : decode cX0_countStreaks 96 = .ok (.getfield 22, 3) := by decide +kernel
theorem dX0_countStreaks_99 : decode cX0_countStreaks 99 = .ok (.getfield 117, 3) := by decide +kernel
theorem dX0_countStreaks_102 : decode cX0_countStreaks 102 = .ok (.iload 4, 2) := by decide +kernel
theorem dX0_countStreaks_104 : decode cX0_countStreaks 104 = .ok (.iaload, 1) := by decide +kernel
theorem dX0_countStreaks_105 : decode cX0_countStreaks 105 = .ok (.iconst 1, 1) := by decide +kernel
theorem dX0_countStreaks_106 : decode cX0_countStreaks 106 = .ok (.iadd, 1) := by decide +kernel
theorem dX0_countStreaks_107 : decode cX0_countStreaks 107 = .ok (.goto 4, 3) := by decide +kernel
theorem dX0_countStreaks_110 : decode cX0_countStreaks 110 = .ok (.iconst 0, 1) := by decide +kernel
theorem dX0_countStreaks_111 : decode cX0_countStreaks 111 = .ok (.iastore, 1) := by decide +kernel
theorem dX0_countStreaks_112 : decode cX0_countStreaks 112 = .ok (.iinc 3 1, 3) := by decide +kernel
theorem dX0_countStreaks_115 : decode cX0_countStreaks 115 = .ok (.goto (-91), 3) := by decide +kernel
theorem dX0_countStreaks_118 : decode cX0_countStreaks 118 = .ok (.return_, 1) := by decide +kernel
theorem dX0_targetOf_0 : decode cX0_targetOf 0 = .ok (.bipush (-9), 2) := by decide +kernel
theorem dX0_targetOf_2 : decode cX0_targetOf 2 = .ok (.istore_n 2, 1) := by decide +kernel
theorem dX0_targetOf_3 : decode cX0_targetOf 3 = .ok (.iconst (-1), 1) := by decide +kernel
theorem dX0_targetOf_4 : decode cX0_targetOf 4 = .ok (.istore_n 3, 1) := by decide +kernel
theorem dX0_targetOf_5 : decode cX0_targetOf 5 = .ok (.iconst 0, 1) := by decide +kernel
theorem dX0_targetOf_6 : decode cX0_targetOf 6 = .ok (.istore 4, 2) := by decide +kernel
theorem dX0_targetOf_8 : decode cX0_targetOf 8 = .ok (.iload 4, 2) := by decide +kernel
theorem dX0_targetOf_10 : decode cX0_targetOf 10 = .ok (.aload_n 0, 1) := by decide +kernel
theorem dX0_targetOf_11 : decode cX0_targetOf 11 = .ok (.getfield 18, 3) := by decide +kernel
theorem dX0_targetOf_14 : decode cX0_targetOf 14 = .ok (.getfield 108, 3) := by decide +kernel
theorem dX0_targetOf_17 : decode cX0_targetOf 17 = .ok (.if_icmp .ge 73, 3) := by decide +kernel
theorem dX0_targetOf_20 : decode cX0_targetOf 20 = .ok (.iload 4, 2) := by decide +kernel
theorem dX0_targetOf_22 : decode cX0_targetOf 22 = .ok (.iconst 4, 1) := by decide +kernel
theorem dX0_targetOf_23 : decode cX0_targetOf 23 = .ok (.if_icmp .ge 67, 3) := by decide +kernel
theorem dX0_targetOf_26 : decode cX0_targetOf 26 = .ok (.iload_n 1, 1) := by decide +kernel
theorem dX0_targetOf_27 : decode cX0_targetOf 27 = .ok (.iconst 4, 1) := by decide +kernel
theorem dX0_targetOf_28 : decode cX0_targetOf 28 = .ok (.imul, 1) := by decide +kernel
theorem dX0_targetOf_29 : decode cX0_targetOf 29 = .ok (.iload 4, 2) := by decide +kernel
theorem dX0_targetOf_31 : decode cX0_targetOf 31 = .ok (.iadd, 1) := by decide +kernel
theorem dX0_targetOf_32 : decode cX0_targetOf 32 = .ok (.istore 5, 2) := by decide +kernel
theorem dX0_targetOf_34 : decode cX0_targetOf 34 = .ok (.aload_n 0, 1) := by decide +kernel
theorem dX0_targetOf_35 : decode cX0_targetOf 35 = .ok (.getfield 22, 3) := by decide +kernel
theorem dX0_targetOf_38 : decode cX0_targetOf 38 = .ok (.getfield 117, 3) := by decide +kernel
theorem dX0_targetOf_41 : decode cX0_targetOf 41 = .ok (.iload 5, 2) := by decide +kernel
theorem dX0_targetOf_43 : decode cX0_targetOf 43 = .ok (.iaload, 1) := by decide +kernel
theorem dX0_targetOf_44 : decode cX0_targetOf 44 = .ok (.aload_n 0, 1) := by decide +kernel
theorem dX0_targetOf_45 : decode cX0_targetOf 45 = .ok (.getfield 18, 3) := by decide +kernel
theorem dX0_targetOf_48 : decode cX0_targetOf 48 = .ok (.getfield 96, 3) := by decide +kernel
theorem dX0_targetOf_51 : decode cX0_targetOf 51 = .ok (.iconst 1, 1) := by decide +kernel
theorem dX0_targetOf_52 : decode cX0_targetOf 52 = .ok (.iaload, 1) := by decide +kernel
theorem dX0_targetOf_53 : decode cX0_targetOf 53 = .ok (.if_icmp .lt 31, 3) := by decide +kernel
theorem dX0_targetOf_56 : decode cX0_targetOf 56 = .ok (.aload_n 0, 1) := by decide +kernel
theorem dX0_targetOf_57 : decode cX0_targetOf 57 = .ok (.getfield 22, 3) := by decide +kernel
theorem dX0_targetOf_60 : decode cX0_targetOf 60 = .ok (.getfield 111, 3) := by decide +kernel
theorem dX0_targetOf_63 : decode cX0_targetOf 63 = .ok (.iload 5, 2) := by decide +kernel
theorem dX0_targetOf_65 : decode cX0_targetOf 65 = .ok (.iaload, 1) := by decide +kernel
theorem dX0_targetOf_66 : decode cX0_targetOf 66 = .ok (.iload_n 3, 1) := by decide +kernel
theorem dX0_targetOf_67 : decode cX0_targetOf 67 = .ok (.if_icmp .le 17, 3) := by decide +kernel
theorem dX0_targetOf_70 : decode cX0_targetOf 70 = .ok (.iload 4, 2) := by decide +kernel
theorem dX0_targetOf_72 : decode cX0_targetOf 72 = .ok (.istore_n 2, 1) := by decide +kernel
theorem dX0_targetOf_73 : decode cX0_targetOf 73 = .ok (.aload_n 0, 1) := by decide +kernel
theorem dX0_targetOf_74 : decode cX0_targetOf 74 = .ok (.getfield 22, 3) := by decide +kernel
theorem dX0_targetOf_77 : decode cX0_targetOf 77 = .ok (.getfield 111, 3) := by decide +kernel
theorem dX0_targetOf_80 : decode cX0_targetOf 80 = .ok (.iload 5, 2) := by decide +kernel
theorem dX0_targetOf_82 : decode cX0_targetOf 82 = .ok (.iaload, 1) := by decide +kernel
theorem dX0_targetOf_83 : decode cX0_targetOf 83 = .ok (.istore_n 3, 1) := by decide +kernel
theorem dX0_targetOf_84 : decode cX0_targetOf 84 = .ok (.iinc 4 1, 3) := by decide +kernel
theorem dX0_targetOf_87 : decode cX0_targetOf 87 = .ok (.goto (-79), 3) := by decide +kernel
theorem dX0_targetOf_90 : decode cX0_targetOf 90 = .ok (.iload_n 2, 1) := by decide +kernel
theorem dX0_targetOf_91 : decode cX0_targetOf 91 = .ok (.ireturn, 1) := by decide +kernel
theorem dX0_follow_0 : decode cX0_follow 0 = .ok (.aload_n 0, 1) := by decide +kernel
theorem dX0_follow_1 : decode cX0_follow 1 = .ok (.getfield 22, 3) := by decide +kernel
theorem dX0_follow_4 : decode cX0_follow 4 = .ok (.getfield 120, 3) := by decide +kernel
theorem dX0_follow_7 : decode cX0_follow 7 = .ok (.iload_n 1, 1) := by decide +kernel
theorem dX0_follow_8 : decode cX0_follow 8 = .ok (.iaload, 1) := by decide +kernel
theorem dX0_follow_9 : decode cX0_follow 9 = .ok (.iload_n 2, 1) := by decide +kernel
theorem dX0_follow_10 : decode cX0_follow 10 = .ok (.if_icmp .eq 14, 3) := by decide +kernel
theorem dX0_follow_13 : decode cX0_follow 13 = .ok (.aload_n 0, 1) := by decide +kernel
theorem dX0_follow_14 : decode cX0_follow 14 = .ok (.getfield 22, 3) := by decide +kernel
theorem dX0_follow_17 : decode cX0_follow 17 = .ok (.getfield 120, 3) := by decide +kernel
theorem dX0_follow_20 : decode cX0_follow 20 = .ok (.iload_n 1, 1) := by decide +kernel
theorem dX0_follow_21 : decode cX0_follow 21 = .ok (.bipush (-9), 2) := by decide +kernel
theorem dX0_follow_23 : decode cX0_follow 23 = .ok (.iastore, 1) := by decide +kernel
theorem dX0_follow_24 : decode cX0_follow 24 = .ok (.iload_n 2, 1) := by decide +kernel
theorem dX0_follow_25 : decode cX0_follow 25 = .ok (.bipush (-9), 2) := by decide +kernel
theorem dX0_follow_27 : decode cX0_follow 27 = .ok (.if_icmp .ne 5, 3) := by decide +kernel
theorem dX0_follow_30 : decode cX0_follow 30 = .ok (.iconst 0, 1) := by decide +kernel
theorem dX0_follow_31 : decode cX0_follow 31 = .ok (.ireturn, 1) := by decide +kernel
theorem dX0_follow_32 : decode cX0_follow 32 = .ok (.aload_n 0, 1) := by decide +kernel
theorem dX0_follow_33 : decode cX0_follow 33 = .ok (.getfield 22, 3) := by decide +kernel
theorem dX0_follow_36 : decode cX0_follow 36 = .ok (.getfield 120, 3) := by decide +kernel
theorem dX0_follow_39 : decode cX0_follow 39 = .ok (.iload_n 1, 1) := by decide +kernel
theorem dX0_follow_40 : decode cX0_follow 40 = .ok (.iaload, 1) := by decide +kernel
theorem dX0_follow_41 : decode cX0_follow 41 = .ok (.iload_n 2, 1) := by decide +kernel
theorem dX0_follow_42 : decode cX0_follow 42 = .ok (.if_icmp .ne 7, 3) := by decide +kernel
theorem dX0_follow_45 : decode cX0_follow 45 = .ok (.iconst 2, 1) := by decide +kernel
theorem dX0_follow_46 : decode cX0_follow 46 = .ok (.goto 9, 3) := by decide +kernel
theorem dX0_follow_49 : decode cX0_follow 49 = .ok (.aload_n 0, 1) := by decide +kernel
theorem dX0_follow_50 : decode cX0_follow 50 = .ok (.iload_n 1, 1) := by decide +kernel
theorem dX0_follow_51 : decode cX0_follow 51 = .ok (.iload_n 2, 1) := by decide +kernel
theorem dX0_follow_52 : decode cX0_follow 52 = .ok (.invokevirtual 123, 3) := by decide +kernel
theorem dX0_follow_55 : decode cX0_follow 55 = .ok (.ireturn, 1) := by decide +kernel
theorem dX0_ask_0 : decode cX0_ask 0 = .ok (.aload_n 0, 1) := by decide +kernel
theorem dX0_ask_1 : decode cX0_ask 1 = .ok (.getfield 22, 3) := by decide +kernel
theorem dX0_ask_4 : decode cX0_ask 4 = .ok (.iload_n 2, 1) := by decide +kernel
theorem dX0_ask_5 : decode cX0_ask 5 = .ok (.iconst 2, 1) := by decide +kernel
theorem dX0_ask_6 : decode cX0_ask 6 = .ok (.invokevirtual 47, 3) := by decide +kernel
theorem dX0_ask_9 : decode cX0_ask 9 = .ok (.aload_n 0, 1) := by decide +kernel
theorem dX0_ask_10 : decode cX0_ask 10 = .ok (.iload_n 2, 1) := by decide +kernel
theorem dX0_ask_11 : decode cX0_ask 11 = .ok (.invokevirtual 37, 3) := by decide +kernel
theorem dX0_ask_14 : decode cX0_ask 14 = .ok (.ifCond .le 11, 3) := by decide +kernel
theorem dX0_ask_17 : decode cX0_ask 17 = .ok (.aload_n 0, 1) := by decide +kernel
theorem dX0_ask_18 : decode cX0_ask 18 = .ok (.iload_n 1, 1) := by decide +kernel
theorem dX0_ask_19 : decode cX0_ask 19 = .ok (.iload_n 2, 1) := by decide +kernel
theorem dX0_ask_20 : decode cX0_ask 20 = .ok (.invokevirtual 126, 3) := by decide +kernel
theorem dX0_ask_23 : decode cX0_ask 23 = .ok (.iconst 1, 1) := by decide +kernel
theorem dX0_ask_24 : decode cX0_ask 24 = .ok (.ireturn, 1) := by decide +kernel
theorem dX0_ask_25 : decode cX0_ask 25 = .ok (.aload_n 0, 1) := by decide +kernel
theorem dX0_ask_26 : decode cX0_ask 26 = .ok (.getfield 22, 3) := by decide +kernel
theorem dX0_ask_29 : decode cX0_ask 29 = .ok (.iload_n 2, 1) := by decide +kernel
theorem dX0_ask_30 : decode cX0_ask 30 = .ok (.invokevirtual 129, 3) := by decide +kernel
theorem dX0_ask_33 : decode cX0_ask 33 = .ok (.aload_n 0, 1) := by decide +kernel
theorem dX0_ask_34 : decode cX0_ask 34 = .ok (.getfield 18, 3) := by decide +kernel
theorem dX0_ask_37 : decode cX0_ask 37 = .ok (.getfield 132, 3) := by decide +kernel
theorem dX0_ask_40 : decode cX0_ask 40 = .ok (.iload_n 2, 1) := by decide +kernel
theorem dX0_ask_41 : decode cX0_ask 41 = .ok (.iaload, 1) := by decide +kernel
theorem dX0_ask_42 : decode cX0_ask 42 = .ok (.if_icmp .ge 14, 3) := by decide +kernel
theorem dX0_ask_45 : decode cX0_ask 45 = .ok (.aload_n 0, 1) := by decide +kernel
theorem dX0_ask_46 : decode cX0_ask 46 = .ok (.getfield 22, 3) := by decide +kernel
theorem dX0_ask_49 : decode cX0_ask 49 = .ok (.iload_n 1, 1) := by decide +kernel
theorem dX0_ask_50 : decode cX0_ask 50 = .ok (.iload_n 2, 1) := by decide +kernel
theorem dX0_ask_51 : decode cX0_ask 51 = .ok (.invokevirtual 135, 3) := by decide +kernel
theorem dX0_ask_54 : decode cX0_ask 54 = .ok (.iconst 2, 1) := by decide +kernel
theorem dX0_ask_55 : decode cX0_ask 55 = .ok (.ireturn, 1) := by decide +kernel
theorem dX0_ask_56 : decode cX0_ask 56 = .ok (.aload_n 0, 1) := by decide +kernel
theorem dX0_ask_57 : decode cX0_ask 57 = .ok (.getfield 22, 3) := by decide +kernel
theorem dX0_ask_60 : decode cX0_ask 60 = .ok (.iload_n 2, 1) := by decide +kernel
theorem dX0_ask_61 : decode cX0_ask 61 = .ok (.iconst 3, 1) := by decide +kernel
theorem dX0_ask_62 : decode cX0_ask 62 = .ok (.invokevirtual 47, 3) := by decide +kernel
theorem dX0_ask_65 : decode cX0_ask 65 = .ok (.iconst 3, 1) := by decide +kernel
theorem dX0_ask_66 : decode cX0_ask 66 = .ok (.ireturn, 1) := by decide +kernel
theorem dX0_end_0 : decode cX0_end 0 = .ok (.aload_n 0, 1) := by decide +kernel
theorem dX0_end_1 : decode cX0_end 1 = .ok (.iload_n 1, 1) := by decide +kernel
theorem dX0_end_2 : decode cX0_end 2 = .ok (.invokevirtual 102, 3) := by decide +kernel
theorem dX0_end_5 : decode cX0_end 5 = .ok (.aload_n 0, 1) := by decide +kernel
theorem dX0_end_6 : decode cX0_end 6 = .ok (.invokevirtual 105, 3) := by decide +kernel
theorem dX0_end_9 : decode cX0_end 9 = .ok (.ireturn, 1) := by decide +kernel
theorem dX0_vanish_0 : decode cX0_vanish 0 = .ok (.aload_n 0, 1) := by decide +kernel
theorem dX0_vanish_1 : decode cX0_vanish 1 = .ok (.getfield 22, 3) := by decide +kernel
theorem dX0_vanish_4 : decode cX0_vanish 4 = .ok (.getfield 99, 3) := by decide +kernel
theorem dX0_vanish_7 : decode cX0_vanish 7 = .ok (.iload_n 1, 1) := by decide +kernel
theorem dX0_vanish_8 : decode cX0_vanish 8 = .ok (.iaload, 1) := by decide +kernel
theorem dX0_vanish_9 : decode cX0_vanish 9 = .ok (.istore_n 2, 1) := by decide +kernel
theorem dX0_vanish_10 : decode cX0_vanish 10 = .ok (.aload_n 0, 1) := by decide +kernel
theorem dX0_vanish_11 : decode cX0_vanish 11 = .ok (.getfield 22, 3) := by decide +kernel
theorem dX0_vanish_14 : decode cX0_vanish 14 = .ok (.getfield 99, 3) := by decide +kernel
theorem dX0_vanish_17 : decode cX0_vanish 17 = .ok (.iload_n 1, 1) := by decide +kernel
theorem dX0_vanish_18 : decode cX0_vanish 18 = .ok (.bipush (-9), 2) := by decide +kernel
theorem dX0_vanish_20 : decode cX0_vanish 20 = .ok (.iastore, 1) := by decide +kernel
theorem dX0_vanish_21 : decode cX0_vanish 21 = .ok (.aload_n 0, 1) := by decide +kernel
theorem dX0_vanish_22 : decode cX0_vanish 22 = .ok (.getfield 22, 3) := by decide +kernel
theorem dX0_vanish_25 : decode cX0_vanish 25 = .ok (.getfield 120, 3) := by decide +kernel
theorem dX0_vanish_28 : decode cX0_vanish 28 = .ok (.iload_n 1, 1) := by decide +kernel
theorem dX0_vanish_29 : decode cX0_vanish 29 = .ok (.bipush (-9), 2) := by decide +kernel
theorem dX0_vanish_31 : decode cX0_vanish 31 = .ok (.iastore, 1) := by decide +kernel
theorem dX0_vanish_32 : decode cX0_vanish 32 = .ok (.aload_n 0, 1) := by decide +kernel
theorem dX0_vanish_33 : decode cX0_vanish 33 = .ok (.iload_n 2, 1) := by decide +kernel
theorem dX0_vanish_34 : decode cX0_vanish 34 = .ok (.invokevirtual 138, 3) := by decide +kernel
theorem dX0_vanish_37 : decode cX0_vanish 37 = .ok (.return_, 1) := by decide +kernel
theorem dX0_move_0 : decode cX0_move 0 = .ok (.aload_n 0, 1) := by decide +kernel
theorem dX0_move_1 : decode cX0_move 1 = .ok (.getfield 22, 3) := by decide +kernel
theorem dX0_move_4 : decode cX0_move 4 = .ok (.getfield 99, 3) := by decide +kernel
theorem dX0_move_7 : decode cX0_move 7 = .ok (.iload_n 1, 1) := by decide +kernel
theorem dX0_move_8 : decode cX0_move 8 = .ok (.iaload, 1) := by decide +kernel
theorem dX0_move_9 : decode cX0_move 9 = .ok (.istore_n 3, 1) := by decide +kernel
theorem dX0_move_10 : decode cX0_move 10 = .ok (.aload_n 0, 1) := by decide +kernel
theorem dX0_move_11 : decode cX0_move 11 = .ok (.getfield 22, 3) := by decide +kernel
theorem dX0_move_14 : decode cX0_move 14 = .ok (.getfield 77, 3) := by decide +kernel
theorem dX0_move_17 : decode cX0_move 17 = .ok (.iload_n 1, 1) := by decide +kernel
theorem dX0_move_18 : decode cX0_move 18 = .ok (.iaload, 1) := by decide +kernel
theorem dX0_move_19 : decode cX0_move 19 = .ok (.aload_n 0, 1) := by decide +kernel
theorem dX0_move_20 : decode cX0_move 20 = .ok (.getfield 18, 3) := by decide +kernel
theorem dX0_move_23 : decode cX0_move 23 = .ok (.getfield 96, 3) := by decide +kernel
theorem dX0_move_26 : decode cX0_move 26 = .ok (.iconst 4, 1) := by decide +kernel
theorem dX0_move_27 : decode cX0_move 27 = .ok (.iaload, 1) := by decide +kernel
theorem dX0_move_28 : decode cX0_move 28 = .ok (.if_icmp .gt 7, 3) := by decide +kernel
theorem dX0_move_31 : decode cX0_move 31 = .ok (.iconst 1, 1) := by decide +kernel
theorem dX0_move_32 : decode cX0_move 32 = .ok (.goto 4, 3) := by decide +kernel
theorem dX0_move_35 : decode cX0_move 35 = .ok (.iconst 0, 1) := by decide +kernel
theorem dX0_move_36 : decode cX0_move 36 = .ok (.istore 4, 2) := by decide +kernel
theorem dX0_move_38 : decode cX0_move 38 = .ok (.aload_n 0, 1) := by decide +kernel
theorem dX0_move_39 : decode cX0_move 39 = .ok (.getfield 22, 3) := by decide +kernel
theorem dX0_move_42 : decode cX0_move 42 = .ok (.getfield 141, 3) := by decide +kernel
theorem dX0_move_45 : decode cX0_move 45 = .ok (.iload_n 1, 1) := by decide +kernel
theorem dX0_move_46 : decode cX0_move 46 = .ok (.iaload, 1) := by decide +kernel
theorem dX0_move_47 : decode cX0_move 47 = .ok (.iload_n 2, 1) := by decide +kernel
theorem dX0_move_48 : decode cX0_move 48 = .ok (.if_icmp .ne 21, 3) := by decide +kernel
theorem dX0_move_51 : decode cX0_move 51 = .ok (.iload 4, 2) := by decide +kernel
theorem dX0_move_53 : decode cX0_move 53 = .ok (.ifCond .eq 16, 3) := by decide +kernel
theorem dX0_move_56 : decode cX0_move 56 = .ok (.aload_n 0, 1) := by decide +kernel
theorem dX0_move_57 : decode cX0_move 57 = .ok (.getfield 22, 3) := by decide +kernel
theorem dX0_move_60 : decode cX0_move 60 = .ok (.getfield 144, 3) := by decide +kernel
theorem dX0_move_63 : decode cX0_move 63 = .ok (.iload_n 1, 1) := by decide +kernel
theorem dX0_move_64 : decode cX0_move 64 = .ok (.dup2, 1) := by decide +kernel
theorem dX0_move_65 : decode cX0_move 65 = .ok (.iaload, 1) := by decide +kernel
theorem dX0_move_66 : decode cX0_move 66 = .ok (.iconst 1, 1) := by decide +kernel
theorem dX0_move_67 : decode cX0_move 67 = .ok (.iadd, 1) := by decide +kernel
theorem dX0_move_68 : decode cX0_move 68 = .ok (.iastore, 1) := by decide +kernel
theorem dX0_move_69 : decode cX0_move 69 = .ok (.aload_n 0, 1) := by decide +kernel
theorem dX0_move_70 : decode cX0_move 70 = .ok (.getfield 22, 3) := by decide +kernel
theorem dX0_move_73 : decode cX0_move 73 = .ok (.getfield 99, 3) := by decide +kernel
theorem dX0_move_76 : decode cX0_move 76 = .ok (.iload_n 1, 1) := by decide +kernel
theorem dX0_move_77 : decode cX0_move 77 = .ok (.iload_n 2, 1) := by decide +kernel
theorem dX0_move_78 : decode cX0_move 78 = .ok (.iastore, 1) := by decide +kernel
theorem dX0_move_79 : decode cX0_move 79 = .ok (.aload_n 0, 1) := by decide +kernel
theorem dX0_move_80 : decode cX0_move 80 = .ok (.getfield 22, 3) := by decide +kernel
theorem dX0_move_83 : decode cX0_move 83 = .ok (.getfield 120, 3) := by decide +kernel
theorem dX0_move_86 : decode cX0_move 86 = .ok (.iload_n 1, 1) := by decide +kernel
theorem dX0_move_87 : decode cX0_move 87 = .ok (.bipush (-9), 2) := by decide +kernel
theorem dX0_move_89 : decode cX0_move 89 = .ok (.iastore, 1) := by decide +kernel
theorem dX0_move_90 : decode cX0_move 90 = .ok (.aload_n 0, 1) := by decide +kernel
theorem dX0_move_91 : decode cX0_move 91 = .ok (.getfield 22, 3) := by decide +kernel
theorem dX0_move_94 : decode cX0_move 94 = .ok (.getfield 141, 3) := by decide +kernel
theorem dX0_move_97 : decode cX0_move 97 = .ok (.iload_n 1, 1) := by decide +kernel
theorem dX0_move_98 : decode cX0_move 98 = .ok (.iload_n 3, 1) := by decide +kernel
theorem dX0_move_99 : decode cX0_move 99 = .ok (.iastore, 1) := by decide +kernel
theorem dX0_move_100 : decode cX0_move 100 = .ok (.aload_n 0, 1) := by decide +kernel
theorem dX0_move_101 : decode cX0_move 101 = .ok (.getfield 22, 3) := by decide +kernel
theorem dX0_move_104 : decode cX0_move 104 = .ok (.getfield 77, 3) := by decide +kernel
theorem dX0_move_107 : decode cX0_move 107 = .ok (.iload_n 1, 1) := by decide +kernel
theorem dX0_move_108 : decode cX0_move 108 = .ok (.iconst 0, 1) := by decide +kernel
theorem dX0_move_109 : decode cX0_move 109 = .ok (.iastore, 1) := by decide +kernel
theorem dX0_move_110 : decode cX0_move 110 = .ok (.aload_n 0, 1) := by decide +kernel
theorem dX0_move_111 : decode cX0_move 111 = .ok (.getfield 22, 3) := by decide +kernel
theorem dX0_move_114 : decode cX0_move 114 = .ok (.getfield 147, 3) := by decide +kernel
theorem dX0_move_117 : decode cX0_move 117 = .ok (.iload_n 1, 1) := by decide +kernel
theorem dX0_move_118 : decode cX0_move 118 = .ok (.dup2, 1) := by decide +kernel
theorem dX0_move_119 : decode cX0_move 119 = .ok (.iaload, 1) := by decide +kernel
theorem dX0_move_120 : decode cX0_move 120 = .ok (.iconst 1, 1) := by decide +kernel
theorem dX0_move_121 : decode cX0_move 121 = .ok (.iadd, 1) := by decide +kernel
theorem dX0_move_122 : decode cX0_move 122 = .ok (.iastore, 1) := by decide +kernel
theorem dX0_move_123 : decode cX0_move 123 = .ok (.aload_n 0, 1) := by decide +kernel
theorem dX0_move_124 : decode cX0_move 124 = .ok (.getfield 22, 3) := by decide +kernel
theorem dX0_move_127 : decode cX0_move 127 = .ok (.getfield 114, 3) := by decide +kernel
theorem dX0_move_130 : decode cX0_move 130 = .ok (.iload_n 1, 1) := by decide +kernel
theorem dX0_move_131 : decode cX0_move 131 = .ok (.iconst 0, 1) := by decide +kernel
theorem dX0_move_132 : decode cX0_move 132 = .ok (.iastore, 1) := by decide +kernel
theorem dX0_move_133 : decode cX0_move 133 = .ok (.aload_n 0, 1) := by decide +kernel
theorem dX0_move_134 : decode cX0_move 134 = .ok (.getfield 22, 3) := by decide +kernel
theorem dX0_move_137 : decode cX0_move 137 = .ok (.iload_n 1, 1) := by decide +kernel
theorem dX0_move_138 : decode cX0_move 138 = .ok (.invokevirtual 150, 3) := by decide +kernel
theorem dX0_move_141 : decode cX0_move 141 = .ok (.aload_n 0, 1) := by decide +kernel
theorem dX0_move_142 : decode cX0_move 142 = .ok (.getfield 22, 3) := by decide +kernel
theorem dX0_move_145 : decode cX0_move 145 = .ok (.iload_n 2, 1) := by decide +kernel
theorem dX0_move_146 : decode cX0_move 146 = .ok (.iconst 4, 1) := by decide +kernel
theorem dX0_move_147 : decode cX0_move 147 = .ok (.invokevirtual 47, 3) := by decide +kernel
theorem dX0_move_150 : decode cX0_move 150 = .ok (.aload_n 0, 1) := by decide +kernel
theorem dX0_move_151 : decode cX0_move 151 = .ok (.getfield 22, 3) := by decide +kernel
theorem dX0_move_154 : decode cX0_move 154 = .ok (.iload_n 3, 1) := by decide +kernel
theorem dX0_move_155 : decode cX0_move 155 = .ok (.iload_n 2, 1) := by decide +kernel
theorem dX0_move_156 : decode cX0_move 156 = .ok (.invokevirtual 153, 3) := by decide +kernel
theorem dX0_move_159 : decode cX0_move 159 = .ok (.aload_n 0, 1) := by decide +kernel
theorem dX0_move_160 : decode cX0_move 160 = .ok (.iload_n 3, 1) := by decide +kernel
theorem dX0_move_161 : decode cX0_move 161 = .ok (.invokevirtual 138, 3) := by decide +kernel
theorem dX0_move_164 : decode cX0_move 164 = .ok (.return_, 1) := by decide +kernel
theorem dX0_noteFreed_0 : decode cX0_noteFreed 0 = .ok (.aload_n 0, 1) := by decide +kernel
theorem dX0_noteFreed_1 : decode cX0_noteFreed 1 = .ok (.getfield 156, 3) := by decide +kernel
theorem dX0_noteFreed_4 : decode cX0_noteFreed 4 = .ok (.aload_n 0, 1) := by decide +kernel
theorem dX0_noteFreed_5 : decode cX0_noteFreed 5 = .ok (.getfield 15, 3) := by decide +kernel
theorem dX0_noteFreed_8 : decode cX0_noteFreed 8 = .ok (.arraylength, 1) := by decide +kernel
theorem dX0_noteFreed_9 : decode cX0_noteFreed 9 = .ok (.if_icmp .ge 23, 3) := by decide +kernel
theorem dX0_noteFreed_12 : decode cX0_noteFreed 12 = .ok (.aload_n 0, 1) := by decide +kernel
theorem dX0_noteFreed_13 : decode cX0_noteFreed 13 = .ok (.getfield 15, 3) := by decide +kernel
theorem dX0_noteFreed_16 : decode cX0_noteFreed 16 = .ok (.aload_n 0, 1) := by decide +kernel
theorem dX0_noteFreed_17 : decode cX0_noteFreed 17 = .ok (.getfield 156, 3) := by decide +kernel
theorem dX0_noteFreed_20 : decode cX0_noteFreed 20 = .ok (.iload_n 1, 1) := by decide +kernel
theorem dX0_noteFreed_21 : decode cX0_noteFreed 21 = .ok (.iastore, 1) := by decide +kernel
theorem dX0_noteFreed_22 : decode cX0_noteFreed 22 = .ok (.aload_n 0, 1) := by decide +kernel
theorem dX0_noteFreed_23 : decode cX0_noteFreed 23 = .ok (.dup, 1) := by decide +kernel
theorem dX0_noteFreed_24 : decode cX0_noteFreed 24 = .ok (.getfield 156, 3) := by decide +kernel
theorem dX0_noteFreed_27 : decode cX0_noteFreed 27 = .ok (.iconst 1, 1) := by decide +kernel
theorem dX0_noteFreed_28 : decode cX0_noteFreed 28 = .ok (.iadd, 1) := by decide +kernel
theorem dX0_noteFreed_29 : decode cX0_noteFreed 29 = .ok (.putfield 156, 3) := by decide +kernel
theorem dX0_noteFreed_32 : decode cX0_noteFreed 32 = .ok (.return_, 1) := by decide +kernel
theorem dX0_serveFreed_0 : decode cX0_serveFreed 0 = .ok (.iconst 0, 1) := by decide +kernel
theorem dX0_serveFreed_1 : decode cX0_serveFreed 1 = .ok (.istore_n 1, 1) := by decide +kernel
theorem dX0_serveFreed_2 : decode cX0_serveFreed 2 = .ok (.iconst 0, 1) := by decide +kernel
theorem dX0_serveFreed_3 : decode cX0_serveFreed 3 = .ok (.istore_n 2, 1) := by decide +kernel
theorem dX0_serveFreed_4 : decode cX0_serveFreed 4 = .ok (.iconst 0, 1) := by decide +kernel
theorem dX0_serveFreed_5 : decode cX0_serveFreed 5 = .ok (.istore_n 3, 1) := by decide +kernel
theorem dX0_serveFreed_6 : decode cX0_serveFreed 6 = .ok (.iload_n 3, 1) := by decide +kernel
theorem dX0_serveFreed_7 : decode cX0_serveFreed 7 = .ok (.bipush 24, 2) := by decide +kernel
theorem dX0_serveFreed_9 : decode cX0_serveFreed 9 = .ok (.if_icmp .gt 81, 3) := by decide +kernel
theorem dX0_serveFreed_12 : decode cX0_serveFreed 12 = .ok (.iload_n 2, 1) := by decide +kernel
theorem dX0_serveFreed_13 : decode cX0_serveFreed 13 = .ok (.aload_n 0, 1) := by decide +kernel
theorem dX0_serveFreed_14 : decode cX0_serveFreed 14 = .ok (.getfield 156, 3) := by decide +kernel
theorem dX0_serveFreed_17 : decode cX0_serveFreed 17 = .ok (.if_icmp .ge 73, 3) := by decide +kernel
theorem dX0_serveFreed_20 : decode cX0_serveFreed 20 = .ok (.iload_n 2, 1) := by decide +kernel
theorem dX0_serveFreed_21 : decode cX0_serveFreed 21 = .ok (.aload_n 0, 1) := by decide +kernel
theorem dX0_serveFreed_22 : decode cX0_serveFreed 22 = .ok (.getfield 15, 3) := by decide +kernel
theorem dX0_serveFreed_25 : decode cX0_serveFreed 25 = .ok (.arraylength, 1) := by decide +kernel
theorem dX0_serveFreed_26 : decode cX0_serveFreed 26 = .ok (.if_icmp .ge 64, 3) := by decide +kernel
theorem dX0_serveFreed_29 : decode cX0_serveFreed 29 = .ok (.aload_n 0, 1) := by decide +kernel
theorem dX0_serveFreed_30 : decode cX0_serveFreed 30 = .ok (.getfield 15, 3) := by decide +kernel
theorem dX0_serveFreed_33 : decode cX0_serveFreed 33 = .ok (.iload_n 2, 1) := by decide +kernel
theorem dX0_serveFreed_34 : decode cX0_serveFreed 34 = .ok (.iaload, 1) := by decide +kernel
theorem dX0_serveFreed_35 : decode cX0_serveFreed 35 = .ok (.istore 4, 2) := by decide +kernel
theorem dX0_serveFreed_37 : decode cX0_serveFreed 37 = .ok (.aload_n 0, 1) := by decide +kernel
theorem dX0_serveFreed_38 : decode cX0_serveFreed 38 = .ok (.iload 4, 2) := by decide +kernel
theorem dX0_serveFreed_40 : decode cX0_serveFreed 40 = .ok (.invokevirtual 37, 3) := by decide +kernel
theorem dX0_serveFreed_43 : decode cX0_serveFreed 43 = .ok (.ifCond .le 13, 3) := by decide +kernel
theorem dX0_serveFreed_46 : decode cX0_serveFreed 46 = .ok (.aload_n 0, 1) := by decide +kernel
theorem dX0_serveFreed_47 : decode cX0_serveFreed 47 = .ok (.iload 4, 2) := by decide +kernel
theorem dX0_serveFreed_49 : decode cX0_serveFreed 49 = .ok (.iconst 0, 1) := by decide +kernel
theorem dX0_serveFreed_50 : decode cX0_serveFreed 50 = .ok (.invokevirtual 159, 3) := by decide +kernel
theorem dX0_serveFreed_53 : decode cX0_serveFreed 53 = .ok (.goto 5, 3) := by decide +kernel
theorem dX0_serveFreed_56 : decode cX0_serveFreed 56 = .ok (.bipush (-9), 2) := by decide +kernel
theorem dX0_serveFreed_58 : decode cX0_serveFreed 58 = .ok (.istore 5, 2) := by decide +kernel
theorem dX0_serveFreed_60 : decode cX0_serveFreed 60 = .ok (.iload 5, 2) := by decide +kernel
theorem dX0_serveFreed_62 : decode cX0_serveFreed 62 = .ok (.bipush (-9), 2) := by decide +kernel
theorem dX0_serveFreed_64 : decode cX0_serveFreed 64 = .ok (.if_icmp .ne 9, 3) := by decide +kernel
theorem dX0_serveFreed_67 : decode cX0_serveFreed 67 = .ok (.iinc 2 1, 3) := by decide +kernel
theorem dX0_serveFreed_70 : decode cX0_serveFreed 70 = .ok (.goto 14, 3) := by decide +kernel
theorem dX0_serveFreed_73 : decode cX0_serveFreed 73 = .ok (.aload_n 0, 1) := by decide +kernel
theorem dX0_serveFreed_74 : decode cX0_serveFreed 74 = .ok (.iload 5, 2) := by decide +kernel
theorem dX0_serveFreed_76 : decode cX0_serveFreed 76 = .ok (.iload 4, 2) := by decide +kernel
theorem dX0_serveFreed_78 : decode cX0_serveFreed 78 = .ok (.invokevirtual 126, 3) := by decide +kernel
theorem dX0_serveFreed_81 : decode cX0_serveFreed 81 = .ok (.iinc 1 1, 3) := by decide +kernel
theorem dX0_serveFreed_84 : decode cX0_serveFreed 84 = .ok (.iinc 3 1, 3) := by decide +kernel
theorem dX0_serveFreed_87 : decode cX0_serveFreed 87 = .ok (.goto (-81), 3) := by decide +kernel
theorem dX0_serveFreed_90 : decode cX0_serveFreed 90 = .ok (.aload_n 0, 1) := by decide +kernel
theorem dX0_serveFreed_91 : decode cX0_serveFreed 91 = .ok (.iconst 0, 1) := by decide +kernel
theorem dX0_serveFreed_92 : decode cX0_serveFreed 92 = .ok (.putfield 156, 3) := by decide +kernel
theorem dX0_serveFreed_95 : decode cX0_serveFreed 95 = .ok (.iload_n 1, 1) := by decide +kernel
theorem dX0_serveFreed_96 : decode cX0_serveFreed 96 = .ok (.ireturn, 1) := by decide +kernel
theorem dX0_waiter_0 : decode cX0_waiter 0 = .ok (.iconst 0, 1) := by decide +kernel
theorem dX0_waiter_1 : decode cX0_waiter 1 = .ok (.istore_n 3, 1) := by decide +kernel
theorem dX0_waiter_2 : decode cX0_waiter 2 = .ok (.iload_n 3, 1) := by decide +kernel
theorem dX0_waiter_3 : decode cX0_waiter 3 = .ok (.bipush 12, 2) := by decide +kernel
theorem dX0_waiter_5 : decode cX0_waiter 5 = .ok (.if_icmp .ge 34, 3) := by decide +kernel
theorem dX0_waiter_8 : decode cX0_waiter 8 = .ok (.aload_n 0, 1) := by decide +kernel
theorem dX0_waiter_9 : decode cX0_waiter 9 = .ok (.getfield 22, 3) := by decide +kernel
theorem dX0_waiter_12 : decode cX0_waiter 12 = .ok (.getfield 120, 3) := by decide +kernel
theorem dX0_waiter_15 : decode cX0_waiter 15 = .ok (.iload_n 3, 1) := by decide +kernel
theorem dX0_waiter_16 : decode cX0_waiter 16 = .ok (.iaload, 1) := by decide +kernel
theorem dX0_waiter_17 : decode cX0_waiter 17 = .ok (.iload_n 1, 1) := by decide +kernel
theorem dX0_waiter_18 : decode cX0_waiter 18 = .ok (.if_icmp .ne 15, 3) := by decide +kernel
theorem dX0_waiter_21 : decode cX0_waiter 21 = .ok (.aload_n 0, 1) := by decide +kernel
theorem dX0_waiter_22 : decode cX0_waiter 22 = .ok (.iload_n 3, 1) := by decide +kernel
theorem dX0_waiter_23 : decode cX0_waiter 23 = .ok (.iload_n 1, 1) := by decide +kernel
theorem dX0_waiter_24 : decode cX0_waiter 24 = .ok (.invokevirtual 162, 3) := by decide +kernel
theorem dX0_waiter_27 : decode cX0_waiter 27 = .ok (.iload_n 2, 1) := by decide +kernel
theorem dX0_waiter_28 : decode cX0_waiter 28 = .ok (.if_icmp .ne 5, 3) := by decide +kernel
theorem dX0_waiter_31 : decode cX0_waiter 31 = .ok (.iload_n 3, 1) := by decide +kernel
theorem dX0_waiter_32 : decode cX0_waiter 32 = .ok (.ireturn, 1) := by decide +kernel
theorem dX0_waiter_33 : decode cX0_waiter 33 = .ok (.iinc 3 1, 3) := by decide +kernel
theorem dX0_waiter_36 : decode cX0_waiter 36 = .ok (.goto (-34), 3) := by decide +kernel
theorem dX0_waiter_39 : decode cX0_waiter 39 = .ok (.bipush (-9), 2) := by decide +kernel
theorem dX0_waiter_41 : decode cX0_waiter 41 = .ok (.ireturn, 1) := by decide +kernel
theorem dX0_aheadOf_0 : decode cX0_aheadOf 0 = .ok (.iconst 0, 1) := by decide +kernel
theorem dX0_aheadOf_1 : decode cX0_aheadOf 1 = .ok (.istore_n 3, 1) := by decide +kernel
theorem dX0_aheadOf_2 : decode cX0_aheadOf 2 = .ok (.iconst 0, 1) := by decide +kernel
theorem dX0_aheadOf_3 : decode cX0_aheadOf 3 = .ok (.istore 4, 2) := by decide +kernel
theorem dX0_aheadOf_5 : decode cX0_aheadOf 5 = .ok (.iload 4, 2) := by decide +kernel
theorem dX0_aheadOf_7 : decode cX0_aheadOf 7 = .ok (.bipush 12, 2) := by decide +kernel
theorem dX0_aheadOf_9 : decode cX0_aheadOf 9 = .ok (.if_icmp .ge 41, 3) := by decide +kernel
theorem dX0_aheadOf_12 : decode cX0_aheadOf 12 = .ok (.iload_n 3, 1) := by decide +kernel
theorem dX0_aheadOf_13 : decode cX0_aheadOf 13 = .ok (.aload_n 0, 1) := by decide +kernel
theorem dX0_aheadOf_14 : decode cX0_aheadOf 14 = .ok (.getfield 22, 3) := by decide +kernel
theorem dX0_aheadOf_17 : decode cX0_aheadOf 17 = .ok (.getfield 120, 3) := by decide +kernel
theorem dX0_aheadOf_20 : decode cX0_aheadOf 20 = .ok (.iload 4, 2) := by decide +kernel
theorem dX0_aheadOf_22 : decode cX0_aheadOf 22 = .ok (.iaload, 1) := by decide +kernel
theorem dX0_aheadOf_23 : decode cX0_aheadOf 23 = .ok (.iload_n 2, 1) := by decide +kernel
theorem dX0_aheadOf_24 : decode cX0_aheadOf 24 = .ok (.if_icmp .ne 17, 3) := by decide +kernel
theorem dX0_aheadOf_27 : decode cX0_aheadOf 27 = .ok (.aload_n 0, 1) := by decide +kernel
theorem dX0_aheadOf_28 : decode cX0_aheadOf 28 = .ok (.iload 4, 2) := by decide +kernel
theorem dX0_aheadOf_30 : decode cX0_aheadOf 30 = .ok (.iload_n 1, 1) := by decide +kernel
theorem dX0_aheadOf_31 : decode cX0_aheadOf 31 = .ok (.invokevirtual 165, 3) := by decide +kernel
theorem dX0_aheadOf_34 : decode cX0_aheadOf 34 = .ok (.ifCond .eq 7, 3) := by decide +kernel
theorem dX0_aheadOf_37 : decode cX0_aheadOf 37 = .ok (.iconst 1, 1) := by decide +kernel
theorem dX0_aheadOf_38 : decode cX0_aheadOf 38 = .ok (.goto 4, 3) := by decide +kernel
theorem dX0_aheadOf_41 : decode cX0_aheadOf 41 = .ok (.iconst 0, 1) := by decide +kernel
theorem dX0_aheadOf_42 : decode cX0_aheadOf 42 = .ok (.iadd, 1) := by decide +kernel
theorem dX0_aheadOf_43 : decode cX0_aheadOf 43 = .ok (.istore_n 3, 1) := by decide +kernel
theorem dX0_aheadOf_44 : decode cX0_aheadOf 44 = .ok (.iinc 4 1, 3) := by decide +kernel
theorem dX0_aheadOf_47 : decode cX0_aheadOf 47 = .ok (.goto (-42), 3) := by decide +kernel
theorem dX0_aheadOf_50 : decode cX0_aheadOf 50 = .ok (.iload_n 3, 1) := by decide +kernel
theorem dX0_aheadOf_51 : decode cX0_aheadOf 51 = .ok (.ireturn, 1) := by decide +kernel
theorem dX0_isBefore_0 : decode cX0_isBefore 0 = .ok (.aload_n 0, 1) := by decide +kernel
theorem dX0_isBefore_1 : decode cX0_isBefore 1 = .ok (.getfield 22, 3) := by decide +kernel
theorem dX0_isBefore_4 : decode cX0_isBefore 4 = .ok (.getfield 114, 3) := by decide +kernel
theorem dX0_isBefore_7 : decode cX0_isBefore 7 = .ok (.iload_n 1, 1) := by decide +kernel
theorem dX0_isBefore_8 : decode cX0_isBefore 8 = .ok (.iaload, 1) := by decide +kernel
theorem dX0_isBefore_9 : decode cX0_isBefore 9 = .ok (.istore_n 3, 1) := by decide +kernel
theorem dX0_isBefore_10 : decode cX0_isBefore 10 = .ok (.aload_n 0, 1) := by decide +kernel
theorem dX0_isBefore_11 : decode cX0_isBefore 11 = .ok (.getfield 22, 3) := by decide +kernel
theorem dX0_isBefore_14 : decode cX0_isBefore 14 = .ok (.getfield 114, 3) := by decide +kernel
theorem dX0_isBefore_17 : decode cX0_isBefore 17 = .ok (.iload_n 2, 1) := by decide +kernel
theorem dX0_isBefore_18 : decode cX0_isBefore 18 = .ok (.iaload, 1) := by decide +kernel
theorem dX0_isBefore_19 : decode cX0_isBefore 19 = .ok (.istore 4, 2) := by decide +kernel
theorem dX0_isBefore_21 : decode cX0_isBefore 21 = .ok (.iload_n 3, 1) := by decide +kernel
theorem dX0_isBefore_22 : decode cX0_isBefore 22 = .ok (.ifCond .le 82, 3) := by decide +kernel
theorem dX0_isBefore_25 : decode cX0_isBefore 25 = .ok (.iload 4, 2) := by decide +kernel
theorem dX0_isBefore_27 : decode cX0_isBefore 27 = .ok (.ifCond .le 77, 3) := by decide +kernel
theorem dX0_isBefore_30 : decode cX0_isBefore 30 = .ok (.bipush 64, 2) := by decide +kernel
theorem dX0_isBefore_32 : decode cX0_isBefore 32 = .ok (.aload_n 0, 1) := by decide +kernel
theorem dX0_isBefore_33 : decode cX0_isBefore 33 = .ok (.getfield 18, 3) := by decide +kernel
theorem dX0_isBefore_36 : decode cX0_isBefore 36 = .ok (.getfield 96, 3) := by decide +kernel
theorem dX0_isBefore_39 : decode cX0_isBefore 39 = .ok (.iconst 3, 1) := by decide +kernel
theorem dX0_isBefore_40 : decode cX0_isBefore 40 = .ok (.iaload, 1) := by decide +kernel
theorem dX0_isBefore_41 : decode cX0_isBefore 41 = .ok (.imul, 1) := by decide +kernel
theorem dX0_isBefore_42 : decode cX0_isBefore 42 = .ok (.istore 5, 2) := by decide +kernel
theorem dX0_isBefore_44 : decode cX0_isBefore 44 = .ok (.aload_n 0, 1) := by decide +kernel
theorem dX0_isBefore_45 : decode cX0_isBefore 45 = .ok (.getfield 22, 3) := by decide +kernel
theorem dX0_isBefore_48 : decode cX0_isBefore 48 = .ok (.iload_n 1, 1) := by decide +kernel
theorem dX0_isBefore_49 : decode cX0_isBefore 49 = .ok (.invokevirtual 93, 3) := by decide +kernel
theorem dX0_isBefore_52 : decode cX0_isBefore 52 = .ok (.iload 5, 2) := by decide +kernel
theorem dX0_isBefore_54 : decode cX0_isBefore 54 = .ok (.isub, 1) := by decide +kernel
theorem dX0_isBefore_55 : decode cX0_isBefore 55 = .ok (.iload 4, 2) := by decide +kernel
theorem dX0_isBefore_57 : decode cX0_isBefore 57 = .ok (.imul, 1) := by decide +kernel
theorem dX0_isBefore_58 : decode cX0_isBefore 58 = .ok (.istore 6, 2) := by decide +kernel
theorem dX0_isBefore_60 : decode cX0_isBefore 60 = .ok (.aload_n 0, 1) := by decide +kernel
theorem dX0_isBefore_61 : decode cX0_isBefore 61 = .ok (.getfield 22, 3) := by decide +kernel
theorem dX0_isBefore_64 : decode cX0_isBefore 64 = .ok (.iload_n 2, 1) := by decide +kernel
theorem dX0_isBefore_65 : decode cX0_isBefore 65 = .ok (.invokevirtual 93, 3) := by decide +kernel
theorem dX0_isBefore_68 : decode cX0_isBefore 68 = .ok (.iload 5, 2) := by decide +kernel
theorem dX0_isBefore_70 : decode cX0_isBefore 70 = .ok (.isub, 1) := by decide +kernel
theorem dX0_isBefore_71 : decode cX0_isBefore 71 = .ok (.iload_n 3, 1) := by decide +kernel
theorem dX0_isBefore_72 : decode cX0_isBefore 72 = .ok (.imul, 1) := by decide +kernel
theorem dX0_isBefore_73 : decode cX0_isBefore 73 = .ok (.istore 7, 2) := by decide +kernel
theorem dX0_isBefore_75 : decode cX0_isBefore 75 = .ok (.iload 6, 2) := by decide +kernel
theorem dX0_isBefore_77 : decode cX0_isBefore 77 = .ok (.iload 7, 2) := by decide +kernel
theorem dX0_isBefore_79 : decode cX0_isBefore 79 = .ok (.if_icmp .eq 18, 3) := by decide +kernel
theorem dX0_isBefore_82 : decode cX0_isBefore 82 = .ok (.iload 6, 2) := by decide +kernel
theorem dX0_isBefore_84 : decode cX0_isBefore 84 = .ok (.iload 7, 2) := by decide +kernel
theorem dX0_isBefore_86 : decode cX0_isBefore 86 = .ok (.if_icmp .ge 7, 3) := by decide +kernel
theorem dX0_isBefore_89 : decode cX0_isBefore 89 = .ok (.iconst 1, 1) := by decide +kernel
theorem dX0_isBefore_90 : decode cX0_isBefore 90 = .ok (.goto 13, 3) := by decide +kernel
theorem dX0_isBefore_93 : decode cX0_isBefore 93 = .ok (.iconst 0, 1) := by decide +kernel
theorem dX0_isBefore_94 : decode cX0_isBefore 94 = .ok (.goto 9, 3) := by decide +kernel
theorem dX0_isBefore_97 : decode cX0_isBefore 97 = .ok (.aload_n 0, 1) := by decide +kernel
theorem dX0_isBefore_98 : decode cX0_isBefore 98 = .ok (.iload_n 1, 1) := by decide +kernel
theorem dX0_isBefore_99 : decode cX0_isBefore 99 = .ok (.iload_n 2, 1) := by decide +kernel
theorem dX0_isBefore_100 : decode cX0_isBefore 100 = .ok (.invokevirtual 169, 3) := by decide +kernel
theorem dX0_isBefore_103 : decode cX0_isBefore 103 = .ok (.ireturn, 1) := by decide +kernel
theorem dX0_isBefore_104 : decode cX0_isBefore 104 = .ok (.iload_n 3, 1) := by decide +kernel
theorem dX0_isBefore_105 : decode cX0_isBefore 105 = .ok (.ifCond .gt 8, 3) := by decide +kernel
theorem dX0_isBefore_108 : decode cX0_isBefore 108 = .ok (.iload 4, 2) := by decide +kernel
theorem dX0_isBefore_110 : decode cX0_isBefore 110 = .ok (.ifCond .le 13, 3) := by decide +kernel
theorem dX0_isBefore_113 : decode cX0_isBefore 113 = .ok (.iload_n 3, 1) := by decide +kernel
theorem dX0_isBefore_114 : decode cX0_isBefore 114 = .ok (.ifCond .le 7, 3) := by decide +kernel
theorem dX0_isBefore_117 : decode cX0_isBefore 117 = .ok (.iconst 1, 1) := by decide +kernel
theorem dX0_isBefore_118 : decode cX0_isBefore 118 = .ok (.goto 4, 3) := by decide +kernel
theorem dX0_isBefore_121 : decode cX0_isBefore 121 = .ok (.iconst 0, 1) := by decide +kernel
theorem dX0_isBefore_122 : decode cX0_isBefore 122 = .ok (.ireturn, 1) := by decide +kernel
theorem dX0_isBefore_123 : decode cX0_isBefore 123 = .ok (.aload_n 0, 1) := by decide +kernel
theorem dX0_isBefore_124 : decode cX0_isBefore 124 = .ok (.iload_n 1, 1) := by decide +kernel
theorem dX0_isBefore_125 : decode cX0_isBefore 125 = .ok (.iload_n 2, 1) := by decide +kernel
theorem dX0_isBefore_126 : decode cX0_isBefore 126 = .ok (.invokevirtual 169, 3) := by decide +kernel
theorem dX0_isBefore_129 : decode cX0_isBefore 129 = .ok (.ireturn, 1) := by decide +kernel
theorem dX0_waitsLonger_0 : decode cX0_waitsLonger 0 = .ok (.aload_n 0, 1) := by decide +kernel
theorem dX0_waitsLonger_1 : decode cX0_waitsLonger 1 = .ok (.getfield 22, 3) := by decide +kernel
theorem dX0_waitsLonger_4 : decode cX0_waitsLonger 4 = .ok (.getfield 172, 3) := by decide +kernel
theorem dX0_waitsLonger_7 : decode cX0_waitsLonger 7 = .ok (.iload_n 1, 1) := by decide +kernel
theorem dX0_waitsLonger_8 : decode cX0_waitsLonger 8 = .ok (.iaload, 1) := by decide +kernel
theorem dX0_waitsLonger_9 : decode cX0_waitsLonger 9 = .ok (.aload_n 0, 1) := by decide +kernel
theorem dX0_waitsLonger_10 : decode cX0_waitsLonger 10 = .ok (.getfield 22, 3) := by decide +kernel
theorem dX0_waitsLonger_13 : decode cX0_waitsLonger 13 = .ok (.getfield 172, 3) := by decide +kernel
theorem dX0_waitsLonger_16 : decode cX0_waitsLonger 16 = .ok (.iload_n 2, 1) := by decide +kernel
theorem dX0_waitsLonger_17 : decode cX0_waitsLonger 17 = .ok (.iaload, 1) := by decide +kernel
theorem dX0_waitsLonger_18 : decode cX0_waitsLonger 18 = .ok (.if_icmp .ge 7, 3) := by decide +kernel
theorem dX0_waitsLonger_21 : decode cX0_waitsLonger 21 = .ok (.iconst 1, 1) := by decide +kernel
theorem dX0_waitsLonger_22 : decode cX0_waitsLonger 22 = .ok (.goto 4, 3) := by decide +kernel
theorem dX0_waitsLonger_25 : decode cX0_waitsLonger 25 = .ok (.iconst 0, 1) := by decide +kernel
theorem dX0_waitsLonger_26 : decode cX0_waitsLonger 26 = .ok (.ireturn, 1) := by decide +kernel
