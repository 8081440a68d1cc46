theorem dX9_queuedAt_0 : decode cX9_queuedAt 0 = .ok (.iconst 0, 1) := by decide +kernel
theorem dX9_queuedAt_1 : decode cX9_queuedAt 1 = .ok (.istore_n 3, 1) := by decide +kernel
theorem dX9_queuedAt_2 : decode cX9_queuedAt 2 = .ok (.iload_n 3, 1) := by decide +kernel
theorem dX9_queuedAt_3 : decode cX9_queuedAt 3 = .ok (.bipush 12, 2) := by decide +kernel
theorem dX9_queuedAt_5 : decode cX9_queuedAt 5 = .ok (.if_icmp .ge 116, 3) := by decide +kernel
theorem dX9_queuedAt_8 : decode cX9_queuedAt 8 = .ok (.aload_n 0, 1) := by decide +kernel
theorem dX9_queuedAt_9 : decode cX9_queuedAt 9 = .ok (.iload_n 3, 1) := by decide +kernel
theorem dX9_queuedAt_10 : decode cX9_queuedAt 10 = .ok (.iconst 0, 1) := by decide +kernel
theorem dX9_queuedAt_11 : decode cX9_queuedAt 11 = .ok (.invokevirtual 141, 3) := by decide +kernel
theorem dX9_queuedAt_14 : decode cX9_queuedAt 14 = .ok (.iconst 1, 1) := by decide +kernel
theorem dX9_queuedAt_15 : decode cX9_queuedAt 15 = .ok (.if_icmp .ne 100, 3) := by decide +kernel
theorem dX9_queuedAt_18 : decode cX9_queuedAt 18 = .ok (.aload_n 0, 1) := by decide +kernel
theorem dX9_queuedAt_19 : decode cX9_queuedAt 19 = .ok (.iload_n 3, 1) := by decide +kernel
theorem dX9_queuedAt_20 : decode cX9_queuedAt 20 = .ok (.iconst 2, 1) := by decide +kernel
theorem dX9_queuedAt_21 : decode cX9_queuedAt 21 = .ok (.invokevirtual 141, 3) := by decide +kernel
theorem dX9_queuedAt_24 : decode cX9_queuedAt 24 = .ok (.iload_n 1, 1) := by decide +kernel
theorem dX9_queuedAt_25 : decode cX9_queuedAt 25 = .ok (.if_icmp .ne 90, 3) := by decide +kernel
theorem dX9_queuedAt_28 : decode cX9_queuedAt 28 = .ok (.iconst 0, 1) := by decide +kernel
theorem dX9_queuedAt_29 : decode cX9_queuedAt 29 = .ok (.istore 4, 2) := by decide +kernel
theorem dX9_queuedAt_31 : decode cX9_queuedAt 31 = .ok (.iconst 0, 1) := by decide +kernel
theorem dX9_queuedAt_32 : decode cX9_queuedAt 32 = .ok (.istore 5, 2) := by decide +kernel
theorem dX9_queuedAt_34 : decode cX9_queuedAt 34 = .ok (.iload 5, 2) := by decide +kernel
theorem dX9_queuedAt_36 : decode cX9_queuedAt 36 = .ok (.bipush 12, 2) := by decide +kernel
theorem dX9_queuedAt_38 : decode cX9_queuedAt 38 = .ok (.if_icmp .ge 69, 3) := by decide +kernel
theorem dX9_queuedAt_41 : decode cX9_queuedAt 41 = .ok (.iload 5, 2) := by decide +kernel
theorem dX9_queuedAt_43 : decode cX9_queuedAt 43 = .ok (.iload_n 3, 1) := by decide +kernel
theorem dX9_queuedAt_44 : decode cX9_queuedAt 44 = .ok (.if_icmp .eq 29, 3) := by decide +kernel
theorem dX9_queuedAt_47 : decode cX9_queuedAt 47 = .ok (.aload_n 0, 1) := by decide +kernel
theorem dX9_queuedAt_48 : decode cX9_queuedAt 48 = .ok (.iload 5, 2) := by decide +kernel
theorem dX9_queuedAt_50 : decode cX9_queuedAt 50 = .ok (.iconst 0, 1) := by decide +kernel
theorem dX9_queuedAt_51 : decode cX9_queuedAt 51 = .ok (.invokevirtual 141, 3) := by decide +kernel
theorem dX9_queuedAt_54 : decode cX9_queuedAt 54 = .ok (.iconst 1, 1) := by decide +kernel
theorem dX9_queuedAt_55 : decode cX9_queuedAt 55 = .ok (.if_icmp .ne 18, 3) := by decide +kernel
theorem dX9_queuedAt_58 : decode cX9_queuedAt 58 = .ok (.aload_n 0, 1) := by decide +kernel
theorem dX9_queuedAt_59 : decode cX9_queuedAt 59 = .ok (.iload 5, 2) := by decide +kernel
theorem dX9_queuedAt_61 : decode cX9_queuedAt 61 = .ok (.iconst 2, 1) := by decide +kernel
theorem dX9_queuedAt_62 : decode cX9_queuedAt 62 = .ok (.invokevirtual 141, 3) := by decide +kernel
theorem dX9_queuedAt_65 : decode cX9_queuedAt 65 = .ok (.iload_n 1, 1) := by decide +kernel
theorem dX9_queuedAt_66 : decode cX9_queuedAt 66 = .ok (.if_icmp .ne 7, 3) := by decide +kernel
theorem dX9_queuedAt_69 : decode cX9_queuedAt 69 = .ok (.iconst 1, 1) := by decide +kernel
theorem dX9_queuedAt_70 : decode cX9_queuedAt 70 = .ok (.goto 4, 3) := by decide +kernel
theorem dX9_queuedAt_73 : decode cX9_queuedAt 73 = .ok (.iconst 0, 1) := by decide +kernel
theorem dX9_queuedAt_74 : decode cX9_queuedAt 74 = .ok (.istore 6, 2) := by decide +kernel
theorem dX9_queuedAt_76 : decode cX9_queuedAt 76 = .ok (.iload 4, 2) := by decide +kernel
theorem dX9_queuedAt_78 : decode cX9_queuedAt 78 = .ok (.iload 6, 2) := by decide +kernel
theorem dX9_queuedAt_80 : decode cX9_queuedAt 80 = .ok (.ifCond .eq 17, 3) := by decide +kernel
theorem dX9_queuedAt_83 : decode cX9_queuedAt 83 = .ok (.aload_n 0, 1) := by decide +kernel
theorem dX9_queuedAt_84 : decode cX9_queuedAt 84 = .ok (.iload 5, 2) := by decide +kernel
theorem dX9_queuedAt_86 : decode cX9_queuedAt 86 = .ok (.iload_n 3, 1) := by decide +kernel
theorem dX9_queuedAt_87 : decode cX9_queuedAt 87 = .ok (.invokevirtual 196, 3) := by decide +kernel
theorem dX9_queuedAt_90 : decode cX9_queuedAt 90 = .ok (.ifCond .eq 7, 3) := by decide +kernel
theorem dX9_queuedAt_93 : decode cX9_queuedAt 93 = .ok (.iconst 1, 1) := by decide +kernel
theorem dX9_queuedAt_94 : decode cX9_queuedAt 94 = .ok (.goto 4, 3) := by decide +kernel
theorem dX9_queuedAt_97 : decode cX9_queuedAt 97 = .ok (.iconst 0, 1) := by decide +kernel
theorem dX9_queuedAt_98 : decode cX9_queuedAt 98 = .ok (.iadd, 1) := by decide +kernel
theorem dX9_queuedAt_99 : decode cX9_queuedAt 99 = .ok (.istore 4, 2) := by decide +kernel
theorem dX9_queuedAt_101 : decode cX9_queuedAt 101 = .ok (.iinc 5 1, 3) := by decide +kernel
theorem dX9_queuedAt_104 : decode cX9_queuedAt 104 = .ok (.goto (-70), 3) := by decide +kernel
theorem dX9_queuedAt_107 : decode cX9_queuedAt 107 = .ok (.iload 4, 2) := by decide +kernel
theorem dX9_queuedAt_109 : decode cX9_queuedAt 109 = .ok (.iload_n 2, 1) := by decide +kernel
theorem dX9_queuedAt_110 : decode cX9_queuedAt 110 = .ok (.if_icmp .ne 5, 3) := by decide +kernel
theorem dX9_queuedAt_113 : decode cX9_queuedAt 113 = .ok (.iload_n 3, 1) := by decide +kernel
theorem dX9_queuedAt_114 : decode cX9_queuedAt 114 = .ok (.ireturn, 1) := by decide +kernel
theorem dX9_queuedAt_115 : decode cX9_queuedAt 115 = .ok (.iinc 3 1, 3) := by decide +kernel
theorem dX9_queuedAt_118 : decode cX9_queuedAt 118 = .ok (.goto (-116), 3) := by decide +kernel
theorem dX9_queuedAt_121 : decode cX9_queuedAt 121 = .ok (.bipush (-9), 2) := by decide +kernel
theorem dX9_queuedAt_123 : decode cX9_queuedAt 123 = .ok (.ireturn, 1) := by decide +kernel
theorem dX9_serves_0 : decode cX9_serves 0 = .ok (.iconst 0, 1) := by decide +kernel
theorem dX9_serves_1 : decode cX9_serves 1 = .ok (.istore_n 1, 1) := by decide +kernel
theorem dX9_serves_2 : decode cX9_serves 2 = .ok (.iload_n 1, 1) := by decide +kernel
theorem dX9_serves_3 : decode cX9_serves 3 = .ok (.aload_n 0, 1) := by decide +kernel
theorem dX9_serves_4 : decode cX9_serves 4 = .ok (.getfield 183, 3) := by decide +kernel
theorem dX9_serves_7 : decode cX9_serves 7 = .ok (.if_icmp .ge 53, 3) := by decide +kernel
theorem dX9_serves_10 : decode cX9_serves 10 = .ok (.aload_n 0, 1) := by decide +kernel
theorem dX9_serves_11 : decode cX9_serves 11 = .ok (.getfield 47, 3) := by decide +kernel
theorem dX9_serves_14 : decode cX9_serves 14 = .ok (.iload_n 1, 1) := by decide +kernel
theorem dX9_serves_15 : decode cX9_serves 15 = .ok (.iaload, 1) := by decide +kernel
theorem dX9_serves_16 : decode cX9_serves 16 = .ok (.istore_n 2, 1) := by decide +kernel
theorem dX9_serves_17 : decode cX9_serves 17 = .ok (.aload_n 0, 1) := by decide +kernel
theorem dX9_serves_18 : decode cX9_serves 18 = .ok (.iload_n 2, 1) := by decide +kernel
theorem dX9_serves_19 : decode cX9_serves 19 = .ok (.iconst 0, 1) := by decide +kernel
theorem dX9_serves_20 : decode cX9_serves 20 = .ok (.invokevirtual 199, 3) := by decide +kernel
theorem dX9_serves_23 : decode cX9_serves 23 = .ok (.istore_n 3, 1) := by decide +kernel
theorem dX9_serves_24 : decode cX9_serves 24 = .ok (.aload_n 0, 1) := by decide +kernel
theorem dX9_serves_25 : decode cX9_serves 25 = .ok (.iload_n 2, 1) := by decide +kernel
theorem dX9_serves_26 : decode cX9_serves 26 = .ok (.invokevirtual 151, 3) := by decide +kernel
theorem dX9_serves_29 : decode cX9_serves 29 = .ok (.ifCond .le 25, 3) := by decide +kernel
theorem dX9_serves_32 : decode cX9_serves 32 = .ok (.iload_n 3, 1) := by decide +kernel
theorem dX9_serves_33 : decode cX9_serves 33 = .ok (.bipush (-9), 2) := by decide +kernel
theorem dX9_serves_35 : decode cX9_serves 35 = .ok (.if_icmp .eq 19, 3) := by decide +kernel
theorem dX9_serves_38 : decode cX9_serves 38 = .ok (.aload_n 0, 1) := by decide +kernel
theorem dX9_serves_39 : decode cX9_serves 39 = .ok (.iload_n 3, 1) := by decide +kernel
theorem dX9_serves_40 : decode cX9_serves 40 = .ok (.iload_n 2, 1) := by decide +kernel
theorem dX9_serves_41 : decode cX9_serves 41 = .ok (.invokevirtual 202, 3) := by decide +kernel
theorem dX9_serves_44 : decode cX9_serves 44 = .ok (.aload_n 0, 1) := by decide +kernel
theorem dX9_serves_45 : decode cX9_serves 45 = .ok (.iload_n 2, 1) := by decide +kernel
theorem dX9_serves_46 : decode cX9_serves 46 = .ok (.iconst 0, 1) := by decide +kernel
theorem dX9_serves_47 : decode cX9_serves 47 = .ok (.invokevirtual 199, 3) := by decide +kernel
theorem dX9_serves_50 : decode cX9_serves 50 = .ok (.istore_n 3, 1) := by decide +kernel
theorem dX9_serves_51 : decode cX9_serves 51 = .ok (.goto (-27), 3) := by decide +kernel
theorem dX9_serves_54 : decode cX9_serves 54 = .ok (.iinc 1 1, 3) := by decide +kernel
theorem dX9_serves_57 : decode cX9_serves 57 = .ok (.goto (-55), 3) := by decide +kernel
theorem dX9_serves_60 : decode cX9_serves 60 = .ok (.aload_n 0, 1) := by decide +kernel
theorem dX9_serves_61 : decode cX9_serves 61 = .ok (.iconst 0, 1) := by decide +kernel
theorem dX9_serves_62 : decode cX9_serves 62 = .ok (.putfield 183, 3) := by decide +kernel
theorem dX9_serves_65 : decode cX9_serves 65 = .ok (.return_, 1) := by decide +kernel
theorem dX9_target_0 : decode cX9_target 0 = .ok (.bipush (-9), 2) := by decide +kernel
theorem dX9_target_2 : decode cX9_target 2 = .ok (.istore_n 2, 1) := by decide +kernel
theorem dX9_target_3 : decode cX9_target 3 = .ok (.iconst 0, 1) := by decide +kernel
theorem dX9_target_4 : decode cX9_target 4 = .ok (.istore_n 3, 1) := by decide +kernel
theorem dX9_target_5 : decode cX9_target 5 = .ok (.iload_n 3, 1) := by decide +kernel
theorem dX9_target_6 : decode cX9_target 6 = .ok (.aload_n 0, 1) := by decide +kernel
theorem dX9_target_7 : decode cX9_target 7 = .ok (.getfield 133, 3) := by decide +kernel
theorem dX9_target_10 : decode cX9_target 10 = .ok (.if_icmp .ge 82, 3) := by decide +kernel
theorem dX9_target_13 : decode cX9_target 13 = .ok (.iload_n 3, 1) := by decide +kernel
theorem dX9_target_14 : decode cX9_target 14 = .ok (.aload_n 0, 1) := by decide +kernel
theorem dX9_target_15 : decode cX9_target 15 = .ok (.iload_n 1, 1) := by decide +kernel
theorem dX9_target_16 : decode cX9_target 16 = .ok (.iconst 1, 1) := by decide +kernel
theorem dX9_target_17 : decode cX9_target 17 = .ok (.invokevirtual 141, 3) := by decide +kernel
theorem dX9_target_20 : decode cX9_target 20 = .ok (.if_icmp .eq 25, 3) := by decide +kernel
theorem dX9_target_23 : decode cX9_target 23 = .ok (.aload_n 0, 1) := by decide +kernel
theorem dX9_target_24 : decode cX9_target 24 = .ok (.iload_n 1, 1) := by decide +kernel
theorem dX9_target_25 : decode cX9_target 25 = .ok (.bipush 14, 2) := by decide +kernel
theorem dX9_target_27 : decode cX9_target 27 = .ok (.iload_n 3, 1) := by decide +kernel
theorem dX9_target_28 : decode cX9_target 28 = .ok (.iadd, 1) := by decide +kernel
theorem dX9_target_29 : decode cX9_target 29 = .ok (.invokevirtual 141, 3) := by decide +kernel
theorem dX9_target_32 : decode cX9_target 32 = .ok (.aload_n 0, 1) := by decide +kernel
theorem dX9_target_33 : decode cX9_target 33 = .ok (.getfield 32, 3) := by decide +kernel
theorem dX9_target_36 : decode cX9_target 36 = .ok (.iconst 2, 1) := by decide +kernel
theorem dX9_target_37 : decode cX9_target 37 = .ok (.iaload, 1) := by decide +kernel
theorem dX9_target_38 : decode cX9_target 38 = .ok (.if_icmp .lt 7, 3) := by decide +kernel
theorem dX9_target_41 : decode cX9_target 41 = .ok (.iconst 1, 1) := by decide +kernel
theorem dX9_target_42 : decode cX9_target 42 = .ok (.goto 4, 3) := by decide +kernel
theorem dX9_target_45 : decode cX9_target 45 = .ok (.iconst 0, 1) := by decide +kernel
theorem dX9_target_46 : decode cX9_target 46 = .ok (.istore 4, 2) := by decide +kernel
theorem dX9_target_48 : decode cX9_target 48 = .ok (.iload 4, 2) := by decide +kernel
theorem dX9_target_50 : decode cX9_target 50 = .ok (.ifCond .eq 34, 3) := by decide +kernel
theorem dX9_target_53 : decode cX9_target 53 = .ok (.iload_n 2, 1) := by decide +kernel
theorem dX9_target_54 : decode cX9_target 54 = .ok (.bipush (-9), 2) := by decide +kernel
theorem dX9_target_56 : decode cX9_target 56 = .ok (.if_icmp .eq 24, 3) := by decide +kernel
theorem dX9_target_59 : decode cX9_target 59 = .ok (.aload_n 0, 1) := by decide +kernel
theorem dX9_target_60 : decode cX9_target 60 = .ok (.iload_n 1, 1) := by decide +kernel
theorem dX9_target_61 : decode cX9_target 61 = .ok (.bipush 10, 2) := by decide +kernel
theorem dX9_target_63 : decode cX9_target 63 = .ok (.iload_n 3, 1) := by decide +kernel
theorem dX9_target_64 : decode cX9_target 64 = .ok (.iadd, 1) := by decide +kernel
theorem dX9_target_65 : decode cX9_target 65 = .ok (.invokevirtual 141, 3) := by decide +kernel
theorem dX9_target_68 : decode cX9_target 68 = .ok (.aload_n 0, 1) := by decide +kernel
theorem dX9_target_69 : decode cX9_target 69 = .ok (.iload_n 1, 1) := by decide +kernel
theorem dX9_target_70 : decode cX9_target 70 = .ok (.bipush 10, 2) := by decide +kernel
theorem dX9_target_72 : decode cX9_target 72 = .ok (.iload_n 2, 1) := by decide +kernel
theorem dX9_target_73 : decode cX9_target 73 = .ok (.iadd, 1) := by decide +kernel
theorem dX9_target_74 : decode cX9_target 74 = .ok (.invokevirtual 141, 3) := by decide +kernel
theorem dX9_target_77 : decode cX9_target 77 = .ok (.if_icmp .le 7, 3) := by decide +kernel
theorem dX9_target_80 : decode cX9_target 80 = .ok (.iload_n 3, 1) := by decide +kernel
theorem dX9_target_81 : decode cX9_target 81 = .ok (.goto 4, 3) := by decide +kernel
theorem dX9_target_84 : decode cX9_target 84 = .ok (.iload_n 2, 1) := by decide +kernel
theorem dX9_target_85 : decode cX9_target 85 = .ok (.istore_n 2, 1) := by decide +kernel
theorem dX9_target_86 : decode cX9_target 86 = .ok (.iinc 3 1, 3) := by decide +kernel
theorem dX9_target_89 : decode cX9_target 89 = .ok (.goto (-84), 3) := by decide +kernel
theorem dX9_target_92 : decode cX9_target 92 = .ok (.iload_n 2, 1) := by decide +kernel
theorem dX9_target_93 : decode cX9_target 93 = .ok (.ireturn, 1) := by decide +kernel
theorem dX9_listens_0 : decode cX9_listens 0 = .ok (.iconst 1, 1) := by decide +kernel
theorem dX9_listens_1 : decode cX9_listens 1 = .ok (.aload_n 0, 1) := by decide +kernel
theorem dX9_listens_2 : decode cX9_listens 2 = .ok (.getfield 32, 3) := by decide +kernel
theorem dX9_listens_5 : decode cX9_listens 5 = .ok (.iconst 3, 1) := by decide +kernel
theorem dX9_listens_6 : decode cX9_listens 6 = .ok (.iaload, 1) := by decide +kernel
theorem dX9_listens_7 : decode cX9_listens 7 = .ok (.ishl, 1) := by decide +kernel
theorem dX9_listens_8 : decode cX9_listens 8 = .ok (.istore 4, 2) := by decide +kernel
theorem dX9_listens_10 : decode cX9_listens 10 = .ok (.aload_n 0, 1) := by decide +kernel
theorem dX9_listens_11 : decode cX9_listens 11 = .ok (.iload_n 1, 1) := by decide +kernel
theorem dX9_listens_12 : decode cX9_listens 12 = .ok (.bipush 10, 2) := by decide +kernel
theorem dX9_listens_14 : decode cX9_listens 14 = .ok (.iload_n 2, 1) := by decide +kernel
theorem dX9_listens_15 : decode cX9_listens 15 = .ok (.iadd, 1) := by decide +kernel
theorem dX9_listens_16 : decode cX9_listens 16 = .ok (.aload_n 0, 1) := by decide +kernel
theorem dX9_listens_17 : decode cX9_listens 17 = .ok (.iload_n 1, 1) := by decide +kernel
theorem dX9_listens_18 : decode cX9_listens 18 = .ok (.bipush 10, 2) := by decide +kernel
theorem dX9_listens_20 : decode cX9_listens 20 = .ok (.iload_n 2, 1) := by decide +kernel
theorem dX9_listens_21 : decode cX9_listens 21 = .ok (.iadd, 1) := by decide +kernel
theorem dX9_listens_22 : decode cX9_listens 22 = .ok (.invokevirtual 141, 3) := by decide +kernel
theorem dX9_listens_25 : decode cX9_listens 25 = .ok (.iload 4, 2) := by decide +kernel
theorem dX9_listens_27 : decode cX9_listens 27 = .ok (.iconst 1, 1) := by decide +kernel
theorem dX9_listens_28 : decode cX9_listens 28 = .ok (.isub, 1) := by decide +kernel
theorem dX9_listens_29 : decode cX9_listens 29 = .ok (.imul, 1) := by decide +kernel
theorem dX9_listens_30 : decode cX9_listens 30 = .ok (.bipush 64, 2) := by decide +kernel
theorem dX9_listens_32 : decode cX9_listens 32 = .ok (.iload_n 3, 1) := by decide +kernel
theorem dX9_listens_33 : decode cX9_listens 33 = .ok (.imul, 1) := by decide +kernel
theorem dX9_listens_34 : decode cX9_listens 34 = .ok (.iadd, 1) := by decide +kernel
theorem dX9_listens_35 : decode cX9_listens 35 = .ok (.iload 4, 2) := by decide +kernel
theorem dX9_listens_37 : decode cX9_listens 37 = .ok (.idiv, 1) := by decide +kernel
theorem dX9_listens_38 : decode cX9_listens 38 = .ok (.invokevirtual 179, 3) := by decide +kernel
theorem dX9_listens_41 : decode cX9_listens 41 = .ok (.return_, 1) := by decide +kernel
theorem dX9_isValue_0 : decode cX9_isValue 0 = .ok (.iload_n 2, 1) := by decide +kernel
theorem dX9_isValue_1 : decode cX9_isValue 1 = .ok (.i2l, 1) := by decide +kernel
theorem dX9_isValue_2 : decode cX9_isValue 2 = .ok (.lconst 0, 1) := by decide +kernel
theorem dX9_isValue_3 : decode cX9_isValue 3 = .ok (.iload_n 1, 1) := by decide +kernel
theorem dX9_isValue_4 : decode cX9_isValue 4 = .ok (.aload_n 0, 1) := by decide +kernel
theorem dX9_isValue_5 : decode cX9_isValue 5 = .ok (.getfield 133, 3) := by decide +kernel
theorem dX9_isValue_8 : decode cX9_isValue 8 = .ok (.if_icmp .ge 9, 3) := by decide +kernel
theorem dX9_isValue_11 : decode cX9_isValue 11 = .ok (.ldc2_w 161, 3) := by decide +kernel
theorem dX9_isValue_14 : decode cX9_isValue 14 = .ok (.goto 4, 3) := by decide +kernel
theorem dX9_isValue_17 : decode cX9_isValue 17 = .ok (.lconst 0, 1) := by decide +kernel
theorem dX9_isValue_18 : decode cX9_isValue 18 = .ok (.invokestatic 66, 3) := by decide +kernel
theorem dX9_isValue_21 : decode cX9_isValue 21 = .ok (.ireturn, 1) := by decide +kernel
theorem dX9_streaks_0 : decode cX9_streaks 0 = .ok (.aload_n 0, 1) := by decide +kernel
theorem dX9_streaks_1 : decode cX9_streaks 1 = .ok (.iload_n 1, 1) := by decide +kernel
theorem dX9_streaks_2 : decode cX9_streaks 2 = .ok (.bipush 10, 2) := by decide +kernel
theorem dX9_streaks_4 : decode cX9_streaks 4 = .ok (.aload_n 0, 1) := by decide +kernel
theorem dX9_streaks_5 : decode cX9_streaks 5 = .ok (.iload_n 1, 1) := by decide +kernel
theorem dX9_streaks_6 : decode cX9_streaks 6 = .ok (.iconst 1, 1) := by decide +kernel
theorem dX9_streaks_7 : decode cX9_streaks 7 = .ok (.invokevirtual 141, 3) := by decide +kernel
theorem dX9_streaks_10 : decode cX9_streaks 10 = .ok (.iadd, 1) := by decide +kernel
theorem dX9_streaks_11 : decode cX9_streaks 11 = .ok (.invokevirtual 141, 3) := by decide +kernel
theorem dX9_streaks_14 : decode cX9_streaks 14 = .ok (.istore_n 2, 1) := by decide +kernel
theorem dX9_streaks_15 : decode cX9_streaks 15 = .ok (.iconst 0, 1) := by decide +kernel
theorem dX9_streaks_16 : decode cX9_streaks 16 = .ok (.istore_n 3, 1) := by decide +kernel
theorem dX9_streaks_17 : decode cX9_streaks 17 = .ok (.iload_n 3, 1) := by decide +kernel
theorem dX9_streaks_18 : decode cX9_streaks 18 = .ok (.aload_n 0, 1) := by decide +kernel
theorem dX9_streaks_19 : decode cX9_streaks 19 = .ok (.getfield 133, 3) := by decide +kernel
theorem dX9_streaks_22 : decode cX9_streaks 22 = .ok (.if_icmp .ge 78, 3) := by decide +kernel
theorem dX9_streaks_25 : decode cX9_streaks 25 = .ok (.iload_n 3, 1) := by decide +kernel
theorem dX9_streaks_26 : decode cX9_streaks 26 = .ok (.aload_n 0, 1) := by decide +kernel
theorem dX9_streaks_27 : decode cX9_streaks 27 = .ok (.iload_n 1, 1) := by decide +kernel
theorem dX9_streaks_28 : decode cX9_streaks 28 = .ok (.iconst 1, 1) := by decide +kernel
theorem dX9_streaks_29 : decode cX9_streaks 29 = .ok (.invokevirtual 141, 3) := by decide +kernel
theorem dX9_streaks_32 : decode cX9_streaks 32 = .ok (.if_icmp .eq 30, 3) := by decide +kernel
theorem dX9_streaks_35 : decode cX9_streaks 35 = .ok (.aload_n 0, 1) := by decide +kernel
theorem dX9_streaks_36 : decode cX9_streaks 36 = .ok (.iload_n 1, 1) := by decide +kernel
theorem dX9_streaks_37 : decode cX9_streaks 37 = .ok (.bipush 10, 2) := by decide +kernel
theorem dX9_streaks_39 : decode cX9_streaks 39 = .ok (.iload_n 3, 1) := by decide +kernel
theorem dX9_streaks_40 : decode cX9_streaks 40 = .ok (.iadd, 1) := by decide +kernel
theorem dX9_streaks_41 : decode cX9_streaks 41 = .ok (.invokevirtual 141, 3) := by decide +kernel
theorem dX9_streaks_44 : decode cX9_streaks 44 = .ok (.iload_n 2, 1) := by decide +kernel
theorem dX9_streaks_45 : decode cX9_streaks 45 = .ok (.bipush 64, 2) := by decide +kernel
theorem dX9_streaks_47 : decode cX9_streaks 47 = .ok (.aload_n 0, 1) := by decide +kernel
theorem dX9_streaks_48 : decode cX9_streaks 48 = .ok (.getfield 32, 3) := by decide +kernel
theorem dX9_streaks_51 : decode cX9_streaks 51 = .ok (.iconst 1, 1) := by decide +kernel
theorem dX9_streaks_52 : decode cX9_streaks 52 = .ok (.iaload, 1) := by decide +kernel
theorem dX9_streaks_53 : decode cX9_streaks 53 = .ok (.imul, 1) := by decide +kernel
theorem dX9_streaks_54 : decode cX9_streaks 54 = .ok (.iadd, 1) := by decide +kernel
theorem dX9_streaks_55 : decode cX9_streaks 55 = .ok (.if_icmp .lt 7, 3) := by decide +kernel
theorem dX9_streaks_58 : decode cX9_streaks 58 = .ok (.iconst 1, 1) := by decide +kernel
theorem dX9_streaks_59 : decode cX9_streaks 59 = .ok (.goto 4, 3) := by decide +kernel
theorem dX9_streaks_62 : decode cX9_streaks 62 = .ok (.iconst 0, 1) := by decide +kernel
theorem dX9_streaks_63 : decode cX9_streaks 63 = .ok (.istore 4, 2) := by decide +kernel
theorem dX9_streaks_65 : decode cX9_streaks 65 = .ok (.aload_n 0, 1) := by decide +kernel
theorem dX9_streaks_66 : decode cX9_streaks 66 = .ok (.iload_n 1, 1) := by decide +kernel
theorem dX9_streaks_67 : decode cX9_streaks 67 = .ok (.bipush 14, 2) := by decide +kernel
theorem dX9_streaks_69 : decode cX9_streaks 69 = .ok (.iload_n 3, 1) := by decide +kernel
theorem dX9_streaks_70 : decode cX9_streaks 70 = .ok (.iadd, 1) := by decide +kernel
theorem dX9_streaks_71 : decode cX9_streaks 71 = .ok (.iload 4, 2) := by decide +kernel
theorem dX9_streaks_73 : decode cX9_streaks 73 = .ok (.ifCond .eq 17, 3) := by decide +kernel
theorem dX9_streaks_76 : decode cX9_streaks 76 = .ok (.aload_n 0, 1) := by decide +kernel
theorem dX9_streaks_77 : decode cX9_streaks 77 = .ok (.iload_n 1, 1) := by decide +kernel
theorem dX9_streaks_78 : decode cX9_streaks 78 = .ok (.bipush 14, 2) := by decide +kernel
theorem dX9_streaks_80 : decode cX9_streaks 80 = .ok (.iload_n 3, 1) := by decide +kernel
theorem dX9_streaks_81 : decode cX9_streaks 81 = .ok (.iadd, 1) := by decide +kernel
theorem dX9_streaks_82 : decode cX9_streaks 82 = .ok (.invokevirtual 141, 3) := by decide +kernel
theorem dX9_streaks_85 : decode cX9_streaks 85 = .ok (.iconst 1, 1) := by decide +kernel
theorem dX9_streaks_86 : decode cX9_streaks 86 = .ok (.iadd, 1) := by decide +kernel
theorem dX9_streaks_87 : decode cX9_streaks 87 = .ok (.goto 4, 3) := by decide +kernel
theorem dX9_streaks_90 : decode cX9_streaks 90 = .ok (.iconst 0, 1) := by decide +kernel
theorem dX9_streaks_91 : decode cX9_streaks 91 = .ok (.invokevirtual 179, 3) := by decide +kernel
theorem dX9_streaks_94 : decode cX9_streaks 94 = .ok (.iinc 3 1, 3) := by decide +kernel
theorem dX9_streaks_97 : decode cX9_streaks 97 = .ok (.goto (-80), 3) := by decide +kernel
theorem dX9_streaks_100 : decode cX9_streaks 100 = .ok (.return_, 1) := by decide +kernel
theorem dX9_asks_0 : decode cX9_asks 0 = .ok (.aload_n 0, 1) := by decide +kernel
theorem dX9_asks_1 : decode cX9_asks 1 = .ok (.iload_n 2, 1) := by decide +kernel
theorem dX9_asks_2 : decode cX9_asks 2 = .ok (.bipush 8, 2) := by decide +kernel
theorem dX9_asks_4 : decode cX9_asks 4 = .ok (.invokevirtual 170, 3) := by decide +kernel
theorem dX9_asks_7 : decode cX9_asks 7 = .ok (.aload_n 0, 1) := by decide +kernel
theorem dX9_asks_8 : decode cX9_asks 8 = .ok (.iload_n 2, 1) := by decide +kernel
theorem dX9_asks_9 : decode cX9_asks 9 = .ok (.invokevirtual 151, 3) := by decide +kernel
theorem dX9_asks_12 : decode cX9_asks 12 = .ok (.ifCond .le 11, 3) := by decide +kernel
theorem dX9_asks_15 : decode cX9_asks 15 = .ok (.aload_n 0, 1) := by decide +kernel
theorem dX9_asks_16 : decode cX9_asks 16 = .ok (.iload_n 1, 1) := by decide +kernel
theorem dX9_asks_17 : decode cX9_asks 17 = .ok (.iload_n 2, 1) := by decide +kernel
theorem dX9_asks_18 : decode cX9_asks 18 = .ok (.invokevirtual 202, 3) := by decide +kernel
theorem dX9_asks_21 : decode cX9_asks 21 = .ok (.iconst 1, 1) := by decide +kernel
theorem dX9_asks_22 : decode cX9_asks 22 = .ok (.ireturn, 1) := by decide +kernel
theorem dX9_asks_23 : decode cX9_asks 23 = .ok (.aload_n 0, 1) := by decide +kernel
theorem dX9_asks_24 : decode cX9_asks 24 = .ok (.iload_n 2, 1) := by decide +kernel
theorem dX9_asks_25 : decode cX9_asks 25 = .ok (.invokevirtual 205, 3) := by decide +kernel
theorem dX9_asks_28 : decode cX9_asks 28 = .ok (.aload_n 0, 1) := by decide +kernel
theorem dX9_asks_29 : decode cX9_asks 29 = .ok (.getfield 29, 3) := by decide +kernel
theorem dX9_asks_32 : decode cX9_asks 32 = .ok (.iload_n 2, 1) := by decide +kernel
theorem dX9_asks_33 : decode cX9_asks 33 = .ok (.iaload, 1) := by decide +kernel
theorem dX9_asks_34 : decode cX9_asks 34 = .ok (.if_icmp .ge 38, 3) := by decide +kernel
theorem dX9_asks_37 : decode cX9_asks 37 = .ok (.aload_n 0, 1) := by decide +kernel
theorem dX9_asks_38 : decode cX9_asks 38 = .ok (.iload_n 1, 1) := by decide +kernel
theorem dX9_asks_39 : decode cX9_asks 39 = .ok (.iconst 2, 1) := by decide +kernel
theorem dX9_asks_40 : decode cX9_asks 40 = .ok (.iload_n 2, 1) := by decide +kernel
theorem dX9_asks_41 : decode cX9_asks 41 = .ok (.invokevirtual 179, 3) := by decide +kernel
theorem dX9_asks_44 : decode cX9_asks 44 = .ok (.aload_n 0, 1) := by decide +kernel
theorem dX9_asks_45 : decode cX9_asks 45 = .ok (.iload_n 1, 1) := by decide +kernel
theorem dX9_asks_46 : decode cX9_asks 46 = .ok (.iconst 3, 1) := by decide +kernel
theorem dX9_asks_47 : decode cX9_asks 47 = .ok (.aload_n 0, 1) := by decide +kernel
theorem dX9_asks_48 : decode cX9_asks 48 = .ok (.getfield 7, 3) := by decide +kernel
theorem dX9_asks_51 : decode cX9_asks 51 = .ok (.sipush 282, 3) := by decide +kernel
theorem dX9_asks_54 : decode cX9_asks 54 = .ok (.iaload, 1) := by decide +kernel
theorem dX9_asks_55 : decode cX9_asks 55 = .ok (.invokevirtual 179, 3) := by decide +kernel
theorem dX9_asks_58 : decode cX9_asks 58 = .ok (.aload_n 0, 1) := by decide +kernel
theorem dX9_asks_59 : decode cX9_asks 59 = .ok (.getfield 7, 3) := by decide +kernel
theorem dX9_asks_62 : decode cX9_asks 62 = .ok (.sipush 282, 3) := by decide +kernel
theorem dX9_asks_65 : decode cX9_asks 65 = .ok (.dup2, 1) := by decide +kernel
theorem dX9_asks_66 : decode cX9_asks 66 = .ok (.iaload, 1) := by decide +kernel
theorem dX9_asks_67 : decode cX9_asks 67 = .ok (.iconst 1, 1) := by decide +kernel
theorem dX9_asks_68 : decode cX9_asks 68 = .ok (.iadd, 1) := by decide +kernel
theorem dX9_asks_69 : decode cX9_asks 69 = .ok (.iastore, 1) := by decide +kernel
theorem dX9_asks_70 : decode cX9_asks 70 = .ok (.iconst 2, 1) := by decide +kernel
theorem dX9_asks_71 : decode cX9_asks 71 = .ok (.ireturn, 1) := by decide +kernel
theorem dX9_asks_72 : decode cX9_asks 72 = .ok (.aload_n 0, 1) := by decide +kernel
theorem dX9_asks_73 : decode cX9_asks 73 = .ok (.iload_n 2, 1) := by decide +kernel
theorem dX9_asks_74 : decode cX9_asks 74 = .ok (.bipush 9, 2) := by decide +kernel
theorem dX9_asks_76 : decode cX9_asks 76 = .ok (.invokevirtual 170, 3) := by decide +kernel
theorem dX9_asks_79 : decode cX9_asks 79 = .ok (.iconst 3, 1) := by decide +kernel
theorem dX9_asks_80 : decode cX9_asks 80 = .ok (.ireturn, 1) := by decide +kernel
theorem dX9_hears_0 : decode cX9_hears 0 = .ok (.aload_n 0, 1) := by decide +kernel
theorem dX9_hears_1 : decode cX9_hears 1 = .ok (.iload_n 1, 1) := by decide +kernel
theorem dX9_hears_2 : decode cX9_hears 2 = .ok (.invokevirtual 208, 3) := by decide +kernel
theorem dX9_hears_5 : decode cX9_hears 5 = .ok (.ifCond .eq 41, 3) := by decide +kernel
theorem dX9_hears_8 : decode cX9_hears 8 = .ok (.aload_n 0, 1) := by decide +kernel
theorem dX9_hears_9 : decode cX9_hears 9 = .ok (.iconst 0, 1) := by decide +kernel
theorem dX9_hears_10 : decode cX9_hears 10 = .ok (.iload_n 2, 1) := by decide +kernel
theorem dX9_hears_11 : decode cX9_hears 11 = .ok (.invokevirtual 211, 3) := by decide +kernel
theorem dX9_hears_14 : decode cX9_hears 14 = .ok (.ifCond .eq 32, 3) := by decide +kernel
theorem dX9_hears_17 : decode cX9_hears 17 = .ok (.aload_n 0, 1) := by decide +kernel
theorem dX9_hears_18 : decode cX9_hears 18 = .ok (.iconst 1, 1) := by decide +kernel
theorem dX9_hears_19 : decode cX9_hears 19 = .ok (.iload_n 3, 1) := by decide +kernel
theorem dX9_hears_20 : decode cX9_hears 20 = .ok (.invokevirtual 211, 3) := by decide +kernel
theorem dX9_hears_23 : decode cX9_hears 23 = .ok (.ifCond .eq 23, 3) := by decide +kernel
theorem dX9_hears_26 : decode cX9_hears 26 = .ok (.aload_n 0, 1) := by decide +kernel
theorem dX9_hears_27 : decode cX9_hears 27 = .ok (.iconst 2, 1) := by decide +kernel
theorem dX9_hears_28 : decode cX9_hears 28 = .ok (.iload 4, 2) := by decide +kernel
theorem dX9_hears_30 : decode cX9_hears 30 = .ok (.invokevirtual 211, 3) := by decide +kernel
theorem dX9_hears_33 : decode cX9_hears 33 = .ok (.ifCond .eq 13, 3) := by decide +kernel
theorem dX9_hears_36 : decode cX9_hears 36 = .ok (.aload_n 0, 1) := by decide +kernel
theorem dX9_hears_37 : decode cX9_hears 37 = .ok (.iconst 3, 1) := by decide +kernel
theorem dX9_hears_38 : decode cX9_hears 38 = .ok (.iload 5, 2) := by decide +kernel
theorem dX9_hears_40 : decode cX9_hears 40 = .ok (.invokevirtual 211, 3) := by decide +kernel
theorem dX9_hears_43 : decode cX9_hears 43 = .ok (.ifCond .ne 5, 3) := by decide +kernel
theorem dX9_hears_46 : decode cX9_hears 46 = .ok (.iconst (-1), 1) := by decide +kernel
theorem dX9_hears_47 : decode cX9_hears 47 = .ok (.ireturn, 1) := by decide +kernel
theorem dX9_hears_48 : decode cX9_hears 48 = .ok (.aload_n 0, 1) := by decide +kernel
theorem dX9_hears_49 : decode cX9_hears 49 = .ok (.invokevirtual 167, 3) := by decide +kernel
theorem dX9_hears_52 : decode cX9_hears 52 = .ok (.aload_n 0, 1) := by decide +kernel
theorem dX9_hears_53 : decode cX9_hears 53 = .ok (.iload_n 1, 1) := by decide +kernel
theorem dX9_hears_54 : decode cX9_hears 54 = .ok (.iconst 1, 1) := by decide +kernel
theorem dX9_hears_55 : decode cX9_hears 55 = .ok (.invokevirtual 141, 3) := by decide +kernel
theorem dX9_hears_58 : decode cX9_hears 58 = .ok (.istore 6, 2) := by decide +kernel
theorem dX9_hears_60 : decode cX9_hears 60 = .ok (.aload_n 0, 1) := by decide +kernel
theorem dX9_hears_61 : decode cX9_hears 61 = .ok (.iload_n 1, 1) := by decide +kernel
theorem dX9_hears_62 : decode cX9_hears 62 = .ok (.bipush 10, 2) := by decide +kernel
theorem dX9_hears_64 : decode cX9_hears 64 = .ok (.iload 6, 2) := by decide +kernel
theorem dX9_hears_66 : decode cX9_hears 66 = .ok (.iadd, 1) := by decide +kernel
theorem dX9_hears_67 : decode cX9_hears 67 = .ok (.invokevirtual 141, 3) := by decide +kernel
theorem dX9_hears_70 : decode cX9_hears 70 = .ok (.istore 7, 2) := by decide +kernel
theorem dX9_hears_72 : decode cX9_hears 72 = .ok (.aload_n 0, 1) := by decide +kernel
theorem dX9_hears_73 : decode cX9_hears 73 = .ok (.iload_n 1, 1) := by decide +kernel
theorem dX9_hears_74 : decode cX9_hears 74 = .ok (.iconst 0, 1) := by decide +kernel
theorem dX9_hears_75 : decode cX9_hears 75 = .ok (.iload_n 2, 1) := by decide +kernel
theorem dX9_hears_76 : decode cX9_hears 76 = .ok (.invokevirtual 214, 3) := by decide +kernel
theorem dX9_hears_79 : decode cX9_hears 79 = .ok (.aload_n 0, 1) := by decide +kernel
theorem dX9_hears_80 : decode cX9_hears 80 = .ok (.iload_n 1, 1) := by decide +kernel
theorem dX9_hears_81 : decode cX9_hears 81 = .ok (.iconst 1, 1) := by decide +kernel
theorem dX9_hears_82 : decode cX9_hears 82 = .ok (.iload_n 3, 1) := by decide +kernel
theorem dX9_hears_83 : decode cX9_hears 83 = .ok (.invokevirtual 214, 3) := by decide +kernel
theorem dX9_hears_86 : decode cX9_hears 86 = .ok (.aload_n 0, 1) := by decide +kernel
theorem dX9_hears_87 : decode cX9_hears 87 = .ok (.iload_n 1, 1) := by decide +kernel
theorem dX9_hears_88 : decode cX9_hears 88 = .ok (.iconst 2, 1) := by decide +kernel
theorem dX9_hears_89 : decode cX9_hears 89 = .ok (.iload 4, 2) := by decide +kernel
theorem dX9_hears_91 : decode cX9_hears 91 = .ok (.invokevirtual 214, 3) := by decide +kernel
theorem dX9_hears_94 : decode cX9_hears 94 = .ok (.aload_n 0, 1) := by decide +kernel
theorem dX9_hears_95 : decode cX9_hears 95 = .ok (.iload_n 1, 1) := by decide +kernel
theorem dX9_hears_96 : decode cX9_hears 96 = .ok (.iconst 3, 1) := by decide +kernel
theorem dX9_hears_97 : decode cX9_hears 97 = .ok (.iload 5, 2) := by decide +kernel
theorem dX9_hears_99 : decode cX9_hears 99 = .ok (.invokevirtual 214, 3) := by decide +kernel
theorem dX9_hears_102 : decode cX9_hears 102 = .ok (.aload_n 0, 1) := by decide +kernel
theorem dX9_hears_103 : decode cX9_hears 103 = .ok (.iload_n 1, 1) := by decide +kernel
theorem dX9_hears_104 : decode cX9_hears 104 = .ok (.iconst 4, 1) := by decide +kernel
theorem dX9_hears_105 : decode cX9_hears 105 = .ok (.aload_n 0, 1) := by decide +kernel
theorem dX9_hears_106 : decode cX9_hears 106 = .ok (.iload_n 1, 1) := by decide +kernel
theorem dX9_hears_107 : decode cX9_hears 107 = .ok (.iconst 4, 1) := by decide +kernel
theorem dX9_hears_108 : decode cX9_hears 108 = .ok (.invokevirtual 141, 3) := by decide +kernel
theorem dX9_hears_111 : decode cX9_hears 111 = .ok (.iconst 1, 1) := by decide +kernel
theorem dX9_hears_112 : decode cX9_hears 112 = .ok (.iadd, 1) := by decide +kernel
theorem dX9_hears_113 : decode cX9_hears 113 = .ok (.invokevirtual 179, 3) := by decide +kernel
theorem dX9_hears_116 : decode cX9_hears 116 = .ok (.aload_n 0, 1) := by decide +kernel
theorem dX9_hears_117 : decode cX9_hears 117 = .ok (.iload_n 1, 1) := by decide +kernel
theorem dX9_hears_118 : decode cX9_hears 118 = .ok (.bipush 9, 2) := by decide +kernel
theorem dX9_hears_120 : decode cX9_hears 120 = .ok (.aload_n 0, 1) := by decide +kernel
theorem dX9_hears_121 : decode cX9_hears 121 = .ok (.iload_n 1, 1) := by decide +kernel
theorem dX9_hears_122 : decode cX9_hears 122 = .ok (.bipush 9, 2) := by decide +kernel
theorem dX9_hears_124 : decode cX9_hears 124 = .ok (.invokevirtual 141, 3) := by decide +kernel
theorem dX9_hears_127 : decode cX9_hears 127 = .ok (.iconst 1, 1) := by decide +kernel
theorem dX9_hears_128 : decode cX9_hears 128 = .ok (.iadd, 1) := by decide +kernel
theorem dX9_hears_129 : decode cX9_hears 129 = .ok (.invokevirtual 179, 3) := by decide +kernel
theorem dX9_hears_132 : decode cX9_hears 132 = .ok (.aload_n 0, 1) := by decide +kernel
theorem dX9_hears_133 : decode cX9_hears 133 = .ok (.iload_n 1, 1) := by decide +kernel
theorem dX9_hears_134 : decode cX9_hears 134 = .ok (.bipush 7, 2) := by decide +kernel
theorem dX9_hears_136 : decode cX9_hears 136 = .ok (.iload 7, 2) := by decide +kernel
theorem dX9_hears_138 : decode cX9_hears 138 = .ok (.aload_n 0, 1) := by decide +kernel
theorem dX9_hears_139 : decode cX9_hears 139 = .ok (.iload_n 1, 1) := by decide +kernel
theorem dX9_hears_140 : decode cX9_hears 140 = .ok (.bipush 10, 2) := by decide +kernel
theorem dX9_hears_142 : decode cX9_hears 142 = .ok (.iload 6, 2) := by decide +kernel
theorem dX9_hears_144 : decode cX9_hears 144 = .ok (.iadd, 1) := by decide +kernel
theorem dX9_hears_145 : decode cX9_hears 145 = .ok (.invokevirtual 141, 3) := by decide +kernel
theorem dX9_hears_148 : decode cX9_hears 148 = .ok (.isub, 1) := by decide +kernel
theorem dX9_hears_149 : decode cX9_hears 149 = .ok (.invokevirtual 179, 3) := by decide +kernel
theorem dX9_hears_152 : decode cX9_hears 152 = .ok (.aload_n 0, 1) := by decide +kernel
theorem dX9_hears_153 : decode cX9_hears 153 = .ok (.iload_n 1, 1) := by decide +kernel
theorem dX9_hears_154 : decode cX9_hears 154 = .ok (.invokevirtual 217, 3) := by decide +kernel
theorem dX9_hears_157 : decode cX9_hears 157 = .ok (.aload_n 0, 1) := by decide +kernel
theorem dX9_hears_158 : decode cX9_hears 158 = .ok (.iload_n 1, 1) := by decide +kernel
theorem dX9_hears_159 : decode cX9_hears 159 = .ok (.invokevirtual 220, 3) := by decide +kernel
theorem dX9_hears_162 : decode cX9_hears 162 = .ok (.istore 8, 2) := by decide +kernel
theorem dX9_hears_164 : decode cX9_hears 164 = .ok (.aload_n 0, 1) := by decide +kernel
theorem dX9_hears_165 : decode cX9_hears 165 = .ok (.iload_n 1, 1) := by decide +kernel
theorem dX9_hears_166 : decode cX9_hears 166 = .ok (.iconst 2, 1) := by decide +kernel
theorem dX9_hears_167 : decode cX9_hears 167 = .ok (.invokevirtual 141, 3) := by decide +kernel
theorem dX9_hears_170 : decode cX9_hears 170 = .ok (.iload 8, 2) := by decide +kernel
theorem dX9_hears_172 : decode cX9_hears 172 = .ok (.if_icmp .eq 11, 3) := by decide +kernel
theorem dX9_hears_175 : decode cX9_hears 175 = .ok (.aload_n 0, 1) := by decide +kernel
theorem dX9_hears_176 : decode cX9_hears 176 = .ok (.iload_n 1, 1) := by decide +kernel
theorem dX9_hears_177 : decode cX9_hears 177 = .ok (.iconst 2, 1) := by decide +kernel
theorem dX9_hears_178 : decode cX9_hears 178 = .ok (.bipush (-9), 2) := by decide +kernel
theorem dX9_hears_180 : decode cX9_hears 180 = .ok (.invokevirtual 179, 3) := by decide +kernel
theorem dX9_hears_183 : decode cX9_hears 183 = .ok (.aload_n 0, 1) := by decide +kernel
theorem dX9_hears_184 : decode cX9_hears 184 = .ok (.iconst 0, 1) := by decide +kernel
theorem dX9_hears_185 : decode cX9_hears 185 = .ok (.putfield 189, 3) := by decide +kernel
theorem dX9_hears_188 : decode cX9_hears 188 = .ok (.iload 8, 2) := by decide +kernel
theorem dX9_hears_190 : decode cX9_hears 190 = .ok (.bipush (-9), 2) := by decide +kernel
theorem dX9_hears_192 : decode cX9_hears 192 = .ok (.if_icmp .ne 7, 3) := by decide +kernel
theorem dX9_hears_195 : decode cX9_hears 195 = .ok (.iconst 0, 1) := by decide +kernel
theorem dX9_hears_196 : decode cX9_hears 196 = .ok (.goto 25, 3) := by decide +kernel
theorem dX9_hears_199 : decode cX9_hears 199 = .ok (.aload_n 0, 1) := by decide +kernel
theorem dX9_hears_200 : decode cX9_hears 200 = .ok (.iload_n 1, 1) := by decide +kernel
theorem dX9_hears_201 : decode cX9_hears 201 = .ok (.iconst 2, 1) := by decide +kernel
theorem dX9_hears_202 : decode cX9_hears 202 = .ok (.invokevirtual 141, 3) := by decide +kernel
theorem dX9_hears_205 : decode cX9_hears 205 = .ok (.iload 8, 2) := by decide +kernel
theorem dX9_hears_207 : decode cX9_hears 207 = .ok (.if_icmp .ne 7, 3) := by decide +kernel
theorem dX9_hears_210 : decode cX9_hears 210 = .ok (.iconst 2, 1) := by decide +kernel
theorem dX9_hears_211 : decode cX9_hears 211 = .ok (.goto 10, 3) := by decide +kernel
theorem dX9_hears_214 : decode cX9_hears 214 = .ok (.aload_n 0, 1) := by decide +kernel
theorem dX9_hears_215 : decode cX9_hears 215 = .ok (.iload_n 1, 1) := by decide +kernel
theorem dX9_hears_216 : decode cX9_hears 216 = .ok (.iload 8, 2) := by decide +kernel
theorem dX9_hears_218 : decode cX9_hears 218 = .ok (.invokevirtual 223, 3) := by decide +kernel
theorem dX9_hears_221 : decode cX9_hears 221 = .ok (.istore 9, 2) := by decide +kernel
theorem dX9_hears_223 : decode cX9_hears 223 = .ok (.iload 9, 2) := by decide +kernel
theorem dX9_hears_225 : decode cX9_hears 225 = .ok (.iconst 1, 1) := by decide +kernel
theorem dX9_hears_226 : decode cX9_hears 226 = .ok (.if_icmp .eq 41, 3) := by decide +kernel
theorem dX9_hears_229 : decode cX9_hears 229 = .ok (.aload_n 0, 1) := by decide +kernel
theorem dX9_hears_230 : decode cX9_hears 230 = .ok (.iload_n 1, 1) := by decide +kernel
theorem dX9_hears_231 : decode cX9_hears 231 = .ok (.bipush 10, 2) := by decide +kernel
theorem dX9_hears_233 : decode cX9_hears 233 = .ok (.iload 6, 2) := by decide +kernel
theorem dX9_hears_235 : decode cX9_hears 235 = .ok (.iadd, 1) := by decide +kernel
theorem dX9_hears_236 : decode cX9_hears 236 = .ok (.invokevirtual 141, 3) := by decide +kernel
theorem dX9_hears_239 : decode cX9_hears 239 = .ok (.bipush 64, 2) := by decide +kernel
theorem dX9_hears_241 : decode cX9_hears 241 = .ok (.aload_n 0, 1) := by decide +kernel
theorem dX9_hears_242 : decode cX9_hears 242 = .ok (.getfield 32, 3) := by decide +kernel
theorem dX9_hears_245 : decode cX9_hears 245 = .ok (.iconst 4, 1) := by decide +kernel
theorem dX9_hears_246 : decode cX9_hears 246 = .ok (.iaload, 1) := by decide +kernel
theorem dX9_hears_247 : decode cX9_hears 247 = .ok (.imul, 1) := by decide +kernel
theorem dX9_hears_248 : decode cX9_hears 248 = .ok (.if_icmp .ge 19, 3) := by decide +kernel
theorem dX9_hears_251 : decode cX9_hears 251 = .ok (.aload_n 0, 1) := by decide +kernel
theorem dX9_hears_252 : decode cX9_hears 252 = .ok (.iload 6, 2) := by decide +kernel
theorem dX9_hears_254 : decode cX9_hears 254 = .ok (.bipush 11, 2) := by decide +kernel
theorem dX9_hears_256 : decode cX9_hears 256 = .ok (.invokevirtual 170, 3) := by decide +kernel
theorem dX9_hears_259 : decode cX9_hears 259 = .ok (.aload_n 0, 1) := by decide +kernel
theorem dX9_hears_260 : decode cX9_hears 260 = .ok (.iload_n 1, 1) := by decide +kernel
theorem dX9_hears_261 : decode cX9_hears 261 = .ok (.invokevirtual 226, 3) := by decide +kernel
theorem dX9_hears_264 : decode cX9_hears 264 = .ok (.iconst 4, 1) := by decide +kernel
theorem dX9_hears_265 : decode cX9_hears 265 = .ok (.istore 9, 2) := by decide +kernel
theorem dX9_hears_267 : decode cX9_hears 267 = .ok (.aload_n 0, 1) := by decide +kernel
theorem dX9_hears_268 : decode cX9_hears 268 = .ok (.invokevirtual 229, 3) := by decide +kernel
theorem dX9_hears_271 : decode cX9_hears 271 = .ok (.iload 9, 2) := by decide +kernel
theorem dX9_hears_273 : decode cX9_hears 273 = .ok (.ireturn, 1) := by decide +kernel
theorem dX9_leaves_0 : decode cX9_leaves 0 = .ok (.aload_n 0, 1) := by decide +kernel
theorem dX9_leaves_1 : decode cX9_leaves 1 = .ok (.iload_n 1, 1) := by decide +kernel
theorem dX9_leaves_2 : decode cX9_leaves 2 = .ok (.iconst 0, 1) := by decide +kernel
theorem dX9_leaves_3 : decode cX9_leaves 3 = .ok (.iconst 0, 1) := by decide +kernel
theorem dX9_leaves_4 : decode cX9_leaves 4 = .ok (.invokevirtual 179, 3) := by decide +kernel
theorem dX9_leaves_7 : decode cX9_leaves 7 = .ok (.aload_n 0, 1) := by decide +kernel
theorem dX9_leaves_8 : decode cX9_leaves 8 = .ok (.aload_n 0, 1) := by decide +kernel
theorem dX9_leaves_9 : decode cX9_leaves 9 = .ok (.iload_n 1, 1) := by decide +kernel
theorem dX9_leaves_10 : decode cX9_leaves 10 = .ok (.iconst 1, 1) := by decide +kernel
theorem dX9_leaves_11 : decode cX9_leaves 11 = .ok (.invokevirtual 141, 3) := by decide +kernel
theorem dX9_leaves_14 : decode cX9_leaves 14 = .ok (.invokevirtual 192, 3) := by decide +kernel
theorem dX9_leaves_17 : decode cX9_leaves 17 = .ok (.return_, 1) := by decide +kernel
theorem dX9_ends_0 : decode cX9_ends 0 = .ok (.aload_n 0, 1) := by decide +kernel
theorem dX9_ends_1 : decode cX9_ends 1 = .ok (.iload_n 1, 1) := by decide +kernel
theorem dX9_ends_2 : decode cX9_ends 2 = .ok (.invokevirtual 208, 3) := by decide +kernel
theorem dX9_ends_5 : decode cX9_ends 5 = .ok (.ifCond .ne 5, 3) := by decide +kernel
theorem dX9_ends_8 : decode cX9_ends 8 = .ok (.iconst (-1), 1) := by decide +kernel
theorem dX9_ends_9 : decode cX9_ends 9 = .ok (.ireturn, 1) := by decide +kernel
theorem dX9_ends_10 : decode cX9_ends 10 = .ok (.aload_n 0, 1) := by decide +kernel
theorem dX9_ends_11 : decode cX9_ends 11 = .ok (.invokevirtual 167, 3) := by decide +kernel
theorem dX9_ends_14 : decode cX9_ends 14 = .ok (.aload_n 0, 1) := by decide +kernel
theorem dX9_ends_15 : decode cX9_ends 15 = .ok (.iconst 0, 1) := by decide +kernel
theorem dX9_ends_16 : decode cX9_ends 16 = .ok (.putfield 189, 3) := by decide +kernel
theorem dX9_ends_19 : decode cX9_ends 19 = .ok (.aload_n 0, 1) := by decide +kernel
theorem dX9_ends_20 : decode cX9_ends 20 = .ok (.iload_n 1, 1) := by decide +kernel
theorem dX9_ends_21 : decode cX9_ends 21 = .ok (.invokevirtual 226, 3) := by decide +kernel
theorem dX9_ends_24 : decode cX9_ends 24 = .ok (.aload_n 0, 1) := by decide +kernel
theorem dX9_ends_25 : decode cX9_ends 25 = .ok (.invokevirtual 229, 3) := by decide +kernel
theorem dX9_ends_28 : decode cX9_ends 28 = .ok (.aload_n 0, 1) := by decide +kernel
theorem dX9_ends_29 : decode cX9_ends 29 = .ok (.getfield 189, 3) := by decide +kernel
theorem dX9_ends_32 : decode cX9_ends 32 = .ok (.ireturn, 1) := by decide +kernel
theorem dX9_guards_0 : decode cX9_guards 0 = .ok (.aload_n 0, 1) := by decide +kernel
theorem dX9_guards_1 : decode cX9_guards 1 = .ok (.iload_n 1, 1) := by decide +kernel
theorem dX9_guards_2 : decode cX9_guards 2 = .ok (.invokevirtual 158, 3) := by decide +kernel
theorem dX9_guards_5 : decode cX9_guards 5 = .ok (.ifCond .eq 22, 3) := by decide +kernel
theorem dX9_guards_8 : decode cX9_guards 8 = .ok (.iload_n 2, 1) := by decide +kernel
theorem dX9_guards_9 : decode cX9_guards 9 = .ok (.i2l, 1) := by decide +kernel
theorem dX9_guards_10 : decode cX9_guards 10 = .ok (.lconst 0, 1) := by decide +kernel
theorem dX9_guards_11 : decode cX9_guards 11 = .ok (.bipush 10, 2) := by decide +kernel
theorem dX9_guards_13 : decode cX9_guards 13 = .ok (.aload_n 0, 1) := by decide +kernel
theorem dX9_guards_14 : decode cX9_guards 14 = .ok (.getfield 26, 3) := by decide +kernel
theorem dX9_guards_17 : decode cX9_guards 17 = .ok (.iload_n 1, 1) := by decide +kernel
theorem dX9_guards_18 : decode cX9_guards 18 = .ok (.iaload, 1) := by decide +kernel
theorem dX9_guards_19 : decode cX9_guards 19 = .ok (.imul, 1) := by decide +kernel
theorem dX9_guards_20 : decode cX9_guards 20 = .ok (.i2l, 1) := by decide +kernel
theorem dX9_guards_21 : decode cX9_guards 21 = .ok (.invokestatic 66, 3) := by decide +kernel
theorem dX9_guards_24 : decode cX9_guards 24 = .ok (.ifCond .ne 5, 3) := by decide +kernel
theorem dX9_guards_27 : decode cX9_guards 27 = .ok (.iconst (-1), 1) := by decide +kernel
theorem dX9_guards_28 : decode cX9_guards 28 = .ok (.ireturn, 1) := by decide +kernel
theorem dX9_guards_29 : decode cX9_guards 29 = .ok (.aload_n 0, 1) := by decide +kernel
theorem dX9_guards_30 : decode cX9_guards 30 = .ok (.getfield 7, 3) := by decide +kernel
theorem dX9_guards_33 : decode cX9_guards 33 = .ok (.sipush 216, 3) := by decide +kernel
theorem dX9_guards_36 : decode cX9_guards 36 = .ok (.iload_n 1, 1) := by decide +kernel
theorem dX9_guards_37 : decode cX9_guards 37 = .ok (.iadd, 1) := by decide +kernel
theorem dX9_guards_38 : decode cX9_guards 38 = .ok (.iaload, 1) := by decide +kernel
theorem dX9_guards_39 : decode cX9_guards 39 = .ok (.istore_n 3, 1) := by decide +kernel
theorem dX9_guards_40 : decode cX9_guards 40 = .ok (.iload_n 3, 1) := by decide +kernel
theorem dX9_guards_41 : decode cX9_guards 41 = .ok (.iload_n 2, 1) := by decide +kernel
theorem dX9_guards_42 : decode cX9_guards 42 = .ok (.if_icmp .ne 6, 3) := by decide +kernel
theorem dX9_guards_45 : decode cX9_guards 45 = .ok (.bipush (-2), 2) := by decide +kernel
theorem dX9_guards_47 : decode cX9_guards 47 = .ok (.ireturn, 1) := by decide +kernel
theorem dX9_guards_48 : decode cX9_guards 48 = .ok (.aload_n 0, 1) := by decide +kernel
theorem dX9_guards_49 : decode cX9_guards 49 = .ok (.invokevirtual 167, 3) := by decide +kernel
theorem dX9_guards_52 : decode cX9_guards 52 = .ok (.aload_n 0, 1) := by decide +kernel
theorem dX9_guards_53 : decode cX9_guards 53 = .ok (.getfield 7, 3) := by decide +kernel
theorem dX9_guards_56 : decode cX9_guards 56 = .ok (.sipush 216, 3) := by decide +kernel
theorem dX9_guards_59 : decode cX9_guards 59 = .ok (.iload_n 1, 1) := by decide +kernel
theorem dX9_guards_60 : decode cX9_guards 60 = .ok (.iadd, 1) := by decide +kernel
theorem dX9_guards_61 : decode cX9_guards 61 = .ok (.iload_n 2, 1) := by decide +kernel
theorem dX9_guards_62 : decode cX9_guards 62 = .ok (.iastore, 1) := by decide +kernel
theorem dX9_guards_63 : decode cX9_guards 63 = .ok (.iload_n 3, 1) := by decide +kernel
theorem dX9_guards_64 : decode cX9_guards 64 = .ok (.ireturn, 1) := by decide +kernel
theorem dX9_seeds_0 : decode cX9_seeds 0 = .ok (.aload_n 0, 1) := by decide +kernel
theorem dX9_seeds_1 : decode cX9_seeds 1 = .ok (.getfield 7, 3) := by decide +kernel
theorem dX9_seeds_4 : decode cX9_seeds 4 = .ok (.sipush 281, 3) := by decide +kernel
theorem dX9_seeds_7 : decode cX9_seeds 7 = .ok (.iaload, 1) := by decide +kernel
theorem dX9_seeds_8 : decode cX9_seeds 8 = .ok (.istore_n 2, 1) := by decide +kernel
theorem dX9_seeds_9 : decode cX9_seeds 9 = .ok (.aload_n 0, 1) := by decide +kernel
theorem dX9_seeds_10 : decode cX9_seeds 10 = .ok (.getfield 7, 3) := by decide +kernel
theorem dX9_seeds_13 : decode cX9_seeds 13 = .ok (.sipush 281, 3) := by decide +kernel
theorem dX9_seeds_16 : decode cX9_seeds 16 = .ok (.iload_n 1, 1) := by decide +kernel
theorem dX9_seeds_17 : decode cX9_seeds 17 = .ok (.iastore, 1) := by decide +kernel
theorem dX9_seeds_18 : decode cX9_seeds 18 = .ok (.iload_n 2, 1) := by decide +kernel
theorem dX9_seeds_19 : decode cX9_seeds 19 = .ok (.ireturn, 1) := by decide +kernel
theorem dX9_undo_0 : decode cX9_undo 0 = .ok (.aload_n 0, 1) := by decide +kernel
theorem dX9_undo_1 : decode cX9_undo 1 = .ok (.getfield 54, 3) := by decide +kernel
theorem dX9_undo_4 : decode cX9_undo 4 = .ok (.ifCond .ne 6, 3) := by decide +kernel
theorem dX9_undo_7 : decode cX9_undo 7 = .ok (.bipush (-2), 2) := by decide +kernel
theorem dX9_undo_9 : decode cX9_undo 9 = .ok (.ireturn, 1) := by decide +kernel
theorem dX9_undo_10 : decode cX9_undo 10 = .ok (.aload_n 0, 1) := by decide +kernel
theorem dX9_undo_11 : decode cX9_undo 11 = .ok (.dup, 1) := by decide +kernel
theorem dX9_undo_12 : decode cX9_undo 12 = .ok (.getfield 54, 3) := by decide +kernel
theorem dX9_undo_15 : decode cX9_undo 15 = .ok (.iconst 1, 1) := by decide +kernel
theorem dX9_undo_16 : decode cX9_undo 16 = .ok (.isub, 1) := by decide +kernel
theorem dX9_undo_17 : decode cX9_undo 17 = .ok (.putfield 54, 3) := by decide +kernel
theorem dX9_undo_20 : decode cX9_undo 20 = .ok (.aload_n 0, 1) := by decide +kernel
theorem dX9_undo_21 : decode cX9_undo 21 = .ok (.sipush 849, 3) := by decide +kernel
theorem dX9_undo_24 : decode cX9_undo 24 = .ok (.sipush 283, 3) := by decide +kernel
theorem dX9_undo_27 : decode cX9_undo 27 = .ok (.aload_n 0, 1) := by decide +kernel
theorem dX9_undo_28 : decode cX9_undo 28 = .ok (.getfield 54, 3) := by decide +kernel
theorem dX9_undo_31 : decode cX9_undo 31 = .ok (.imul, 1) := by decide +kernel
theorem dX9_undo_32 : decode cX9_undo 32 = .ok (.iadd, 1) := by decide +kernel
theorem dX9_undo_33 : decode cX9_undo 33 = .ok (.iconst 0, 1) := by decide +kernel
theorem dX9_undo_34 : decode cX9_undo 34 = .ok (.invokevirtual 58, 3) := by decide +kernel
theorem dX9_undo_37 : decode cX9_undo 37 = .ok (.aload_n 0, 1) := by decide +kernel
theorem dX9_undo_38 : decode cX9_undo 38 = .ok (.getfield 54, 3) := by decide +kernel
theorem dX9_undo_41 : decode cX9_undo 41 = .ok (.ireturn, 1) := by decide +kernel
theorem dX9_cell_0 : decode cX9_cell 0 = .ok (.aload_n 0, 1) := by decide +kernel
theorem dX9_cell_1 : decode cX9_cell 1 = .ok (.iload_n 1, 1) := by decide +kernel
theorem dX9_cell_2 : decode cX9_cell 2 = .ok (.invokevirtual 158, 3) := by decide +kernel
theorem dX9_cell_5 : decode cX9_cell 5 = .ok (.ifCond .eq 15, 3) := by decide +kernel
theorem dX9_cell_8 : decode cX9_cell 8 = .ok (.iload_n 2, 1) := by decide +kernel
theorem dX9_cell_9 : decode cX9_cell 9 = .ok (.i2l, 1) := by decide +kernel
theorem dX9_cell_10 : decode cX9_cell 10 = .ok (.lconst 0, 1) := by decide +kernel
theorem dX9_cell_11 : decode cX9_cell 11 = .ok (.ldc2_w 139, 3) := by decide +kernel
theorem dX9_cell_14 : decode cX9_cell 14 = .ok (.invokestatic 66, 3) := by decide +kernel
theorem dX9_cell_17 : decode cX9_cell 17 = .ok (.ifCond .ne 5, 3) := by decide +kernel
theorem dX9_cell_20 : decode cX9_cell 20 = .ok (.iconst (-1), 1) := by decide +kernel
theorem dX9_cell_21 : decode cX9_cell 21 = .ok (.ireturn, 1) := by decide +kernel
theorem dX9_cell_22 : decode cX9_cell 22 = .ok (.iload_n 2, 1) := by decide +kernel
theorem dX9_cell_23 : decode cX9_cell 23 = .ok (.tableswitch 80 0 5 #[37, 44, 55, 62, 68, 74], 37) := by decide +kernel
theorem dX9_cell_60 : decode cX9_cell 60 = .ok (.aload_n 0, 1) := by decide +kernel
theorem dX9_cell_61 : decode cX9_cell 61 = .ok (.getfield 26, 3) := by decide +kernel
theorem dX9_cell_64 : decode cX9_cell 64 = .ok (.iload_n 1, 1) := by decide +kernel
theorem dX9_cell_65 : decode cX9_cell 65 = .ok (.iaload, 1) := by decide +kernel
theorem dX9_cell_66 : decode cX9_cell 66 = .ok (.ireturn, 1) := by decide +kernel
theorem dX9_cell_67 : decode cX9_cell 67 = .ok (.aload_n 0, 1) := by decide +kernel
theorem dX9_cell_68 : decode cX9_cell 68 = .ok (.getfield 7, 3) := by decide +kernel
theorem dX9_cell_71 : decode cX9_cell 71 = .ok (.sipush 216, 3) := by decide +kernel
theorem dX9_cell_74 : decode cX9_cell 74 = .ok (.iload_n 1, 1) := by decide +kernel
theorem dX9_cell_75 : decode cX9_cell 75 = .ok (.iadd, 1) := by decide +kernel
theorem dX9_cell_76 : decode cX9_cell 76 = .ok (.iaload, 1) := by decide +kernel
theorem dX9_cell_77 : decode cX9_cell 77 = .ok (.ireturn, 1) := by decide +kernel
theorem dX9_cell_78 : decode cX9_cell 78 = .ok (.aload_n 0, 1) := by decide +kernel
theorem dX9_cell_79 : decode cX9_cell 79 = .ok (.getfield 29, 3) := by decide +kernel
theorem dX9_cell_82 : decode cX9_cell 82 = .ok (.iload_n 1, 1) := by decide +kernel
theorem dX9_cell_83 : decode cX9_cell 83 = .ok (.iaload, 1) := by decide +kernel
theorem dX9_cell_84 : decode cX9_cell 84 = .ok (.ireturn, 1) := by decide +kernel
theorem dX9_cell_85 : decode cX9_cell 85 = .ok (.aload_n 0, 1) := by decide +kernel
theorem dX9_cell_86 : decode cX9_cell 86 = .ok (.iload_n 1, 1) := by decide +kernel
theorem dX9_cell_87 : decode cX9_cell 87 = .ok (.invokevirtual 145, 3) := by decide +kernel
theorem dX9_cell_90 : decode cX9_cell 90 = .ok (.ireturn, 1) := by decide +kernel
theorem dX9_cell_91 : decode cX9_cell 91 = .ok (.aload_n 0, 1) := by decide +kernel
theorem dX9_cell_92 : decode cX9_cell 92 = .ok (.iload_n 1, 1) := by decide +kernel
theorem dX9_cell_93 : decode cX9_cell 93 = .ok (.invokevirtual 205, 3) := by decide +kernel
theorem dX9_cell_96 : decode cX9_cell 96 = .ok (.ireturn, 1) := by decide +kernel
theorem dX9_cell_97 : decode cX9_cell 97 = .ok (.aload_n 0, 1) := by decide +kernel
theorem dX9_cell_98 : decode cX9_cell 98 = .ok (.iload_n 1, 1) := by decide +kernel
theorem dX9_cell_99 : decode cX9_cell 99 = .ok (.invokevirtual 173, 3) := by decide +kernel
theorem dX9_cell_102 : decode cX9_cell 102 = .ok (.ireturn, 1) := by decide +kernel
theorem dX9_cell_103 : decode cX9_cell 103 = .ok (.aload_n 0, 1) := by decide +kernel
theorem dX9_cell_104 : decode cX9_cell 104 = .ok (.getfield 7, 3) := by decide +kernel
theorem dX9_cell_107 : decode cX9_cell 107 = .ok (.sipush 220, 3) := by decide +kernel
theorem dX9_cell_110 : decode cX9_cell 110 = .ok (.bipush 6, 2) := by decide +kernel
theorem dX9_cell_112 : decode cX9_cell 112 = .ok (.iload_n 1, 1) := by decide +kernel
theorem dX9_cell_113 : decode cX9_cell 113 = .ok (.imul, 1) := by decide +kernel
theorem dX9_cell_114 : decode cX9_cell 114 = .ok (.iadd, 1) := by decide +kernel
theorem dX9_cell_115 : decode cX9_cell 115 = .ok (.iload_n 2, 1) := by decide +kernel
theorem dX9_cell_116 : decode cX9_cell 116 = .ok (.iadd, 1) := by decide +kernel
theorem dX9_cell_117 : decode cX9_cell 117 = .ok (.bipush 6, 2) := by decide +kernel
theorem dX9_cell_119 : decode cX9_cell 119 = .ok (.isub, 1) := by decide +kernel
theorem dX9_cell_120 : decode cX9_cell 120 = .ok (.iaload, 1) := by decide +kernel
theorem dX9_cell_121 : decode cX9_cell 121 = .ok (.ireturn, 1) := by decide +kernel
theorem dX9_call_0 : decode cX9_call 0 = .ok (.aload_n 0, 1) := by decide +kernel
theorem dX9_call_1 : decode cX9_call 1 = .ok (.iload_n 1, 1) := by decide +kernel
theorem dX9_call_2 : decode cX9_call 2 = .ok (.invokevirtual 208, 3) := by decide +kernel
theorem dX9_call_5 : decode cX9_call 5 = .ok (.ifCond .eq 15, 3) := by decide +kernel
theorem dX9_call_8 : decode cX9_call 8 = .ok (.iload_n 2, 1) := by decide +kernel
theorem dX9_call_9 : decode cX9_call 9 = .ok (.i2l, 1) := by decide +kernel
theorem dX9_call_10 : decode cX9_call 10 = .ok (.lconst 0, 1) := by decide +kernel
theorem dX9_call_11 : decode cX9_call 11 = .ok (.ldc2_w 232, 3) := by decide +kernel
theorem dX9_call_14 : decode cX9_call 14 = .ok (.invokestatic 66, 3) := by decide +kernel
theorem dX9_call_17 : decode cX9_call 17 = .ok (.ifCond .ne 6, 3) := by decide +kernel
theorem dX9_call_20 : decode cX9_call 20 = .ok (.ldc 234, 2) := by decide +kernel
theorem dX9_call_22 : decode cX9_call 22 = .ok (.ireturn, 1) := by decide +kernel
theorem dX9_call_23 : decode cX9_call 23 = .ok (.iload_n 2, 1) := by decide +kernel
theorem dX9_call_24 : decode cX9_call 24 = .ok (.tableswitch 84 0 5 #[40, 47, 54, 61, 68, 76], 40) := by decide +kernel
theorem dX9_call_64 : decode cX9_call 64 = .ok (.aload_n 0, 1) := by decide +kernel
theorem dX9_call_65 : decode cX9_call 65 = .ok (.iload_n 1, 1) := by decide +kernel
theorem dX9_call_66 : decode cX9_call 66 = .ok (.iconst 1, 1) := by decide +kernel
theorem dX9_call_67 : decode cX9_call 67 = .ok (.invokevirtual 141, 3) := by decide +kernel
theorem dX9_call_70 : decode cX9_call 70 = .ok (.ireturn, 1) := by decide +kernel
theorem dX9_call_71 : decode cX9_call 71 = .ok (.aload_n 0, 1) := by decide +kernel
theorem dX9_call_72 : decode cX9_call 72 = .ok (.iload_n 1, 1) := by decide +kernel
theorem dX9_call_73 : decode cX9_call 73 = .ok (.iconst 2, 1) := by decide +kernel
theorem dX9_call_74 : decode cX9_call 74 = .ok (.invokevirtual 141, 3) := by decide +kernel
theorem dX9_call_77 : decode cX9_call 77 = .ok (.ireturn, 1) := by decide +kernel
theorem dX9_call_78 : decode cX9_call 78 = .ok (.aload_n 0, 1) := by decide +kernel
theorem dX9_call_79 : decode cX9_call 79 = .ok (.iload_n 1, 1) := by decide +kernel
theorem dX9_call_80 : decode cX9_call 80 = .ok (.iconst 4, 1) := by decide +kernel
theorem dX9_call_81 : decode cX9_call 81 = .ok (.invokevirtual 141, 3) := by decide +kernel
theorem dX9_call_84 : decode cX9_call 84 = .ok (.ireturn, 1) := by decide +kernel
theorem dX9_call_85 : decode cX9_call 85 = .ok (.aload_n 0, 1) := by decide +kernel
theorem dX9_call_86 : decode cX9_call 86 = .ok (.iload_n 1, 1) := by decide +kernel
theorem dX9_call_87 : decode cX9_call 87 = .ok (.iconst 5, 1) := by decide +kernel
theorem dX9_call_88 : decode cX9_call 88 = .ok (.invokevirtual 141, 3) := by decide +kernel
theorem dX9_call_91 : decode cX9_call 91 = .ok (.ireturn, 1) := by decide +kernel
theorem dX9_call_92 : decode cX9_call 92 = .ok (.aload_n 0, 1) := by decide +kernel
theorem dX9_call_93 : decode cX9_call 93 = .ok (.iload_n 1, 1) := by decide +kernel
theorem dX9_call_94 : decode cX9_call 94 = .ok (.bipush 6, 2) := by decide +kernel
theorem dX9_call_96 : decode cX9_call 96 = .ok (.invokevirtual 141, 3) := by decide +kernel
theorem dX9_call_99 : decode cX9_call 99 = .ok (.ireturn, 1) := by decide +kernel
theorem dX9_call_100 : decode cX9_call 100 = .ok (.aload_n 0, 1) := by decide +kernel
theorem dX9_call_101 : decode cX9_call 101 = .ok (.iload_n 1, 1) := by decide +kernel
theorem dX9_call_102 : decode cX9_call 102 = .ok (.bipush 7, 2) := by decide +kernel
theorem dX9_call_104 : decode cX9_call 104 = .ok (.invokevirtual 141, 3) := by decide +kernel
theorem dX9_call_107 : decode cX9_call 107 = .ok (.ireturn, 1) := by decide +kernel
theorem dX9_call_108 : decode cX9_call 108 = .ok (.aload_n 0, 1) := by decide +kernel
theorem dX9_call_109 : decode cX9_call 109 = .ok (.iload_n 1, 1) := by decide +kernel
theorem dX9_call_110 : decode cX9_call 110 = .ok (.bipush 8, 2) := by decide +kernel
theorem dX9_call_112 : decode cX9_call 112 = .ok (.invokevirtual 141, 3) := by decide +kernel
theorem dX9_call_115 : decode cX9_call 115 = .ok (.ireturn, 1) := by decide +kernel
theorem dX9_level_0 : decode cX9_level 0 = .ok (.aload_n 0, 1) := by decide +kernel
theorem dX9_level_1 : decode cX9_level 1 = .ok (.iload_n 1, 1) := by decide +kernel
theorem dX9_level_2 : decode cX9_level 2 = .ok (.invokevirtual 208, 3) := by decide +kernel
theorem dX9_level_5 : decode cX9_level 5 = .ok (.ifCond .eq 21, 3) := by decide +kernel
theorem dX9_level_8 : decode cX9_level 8 = .ok (.aload_n 0, 1) := by decide +kernel
theorem dX9_level_9 : decode cX9_level 9 = .ok (.iload_n 2, 1) := by decide +kernel
theorem dX9_level_10 : decode cX9_level 10 = .ok (.invokevirtual 158, 3) := by decide +kernel
theorem dX9_level_13 : decode cX9_level 13 = .ok (.ifCond .eq 13, 3) := by decide +kernel
theorem dX9_level_16 : decode cX9_level 16 = .ok (.iload_n 3, 1) := by decide +kernel
theorem dX9_level_17 : decode cX9_level 17 = .ok (.i2l, 1) := by decide +kernel
theorem dX9_level_18 : decode cX9_level 18 = .ok (.lconst 0, 1) := by decide +kernel
theorem dX9_level_19 : decode cX9_level 19 = .ok (.lconst 1, 1) := by decide +kernel
theorem dX9_level_20 : decode cX9_level 20 = .ok (.invokestatic 66, 3) := by decide +kernel
theorem dX9_level_23 : decode cX9_level 23 = .ok (.ifCond .ne 5, 3) := by decide +kernel
theorem dX9_level_26 : decode cX9_level 26 = .ok (.iconst (-1), 1) := by decide +kernel
theorem dX9_level_27 : decode cX9_level 27 = .ok (.ireturn, 1) := by decide +kernel
theorem dX9_level_28 : decode cX9_level 28 = .ok (.aload_n 0, 1) := by decide +kernel
theorem dX9_level_29 : decode cX9_level 29 = .ok (.iload_n 1, 1) := by decide +kernel
theorem dX9_level_30 : decode cX9_level 30 = .ok (.iload_n 3, 1) := by decide +kernel
theorem dX9_level_31 : decode cX9_level 31 = .ok (.ifCond .ne 8, 3) := by decide +kernel
theorem dX9_level_34 : decode cX9_level 34 = .ok (.bipush 10, 2) := by decide +kernel
theorem dX9_level_36 : decode cX9_level 36 = .ok (.goto 5, 3) := by decide +kernel
theorem dX9_level_39 : decode cX9_level 39 = .ok (.bipush 14, 2) := by decide +kernel
theorem dX9_level_41 : decode cX9_level 41 = .ok (.iload_n 2, 1) := by decide +kernel
theorem dX9_level_42 : decode cX9_level 42 = .ok (.iadd, 1) := by decide +kernel
theorem dX9_level_43 : decode cX9_level 43 = .ok (.invokevirtual 141, 3) := by decide +kernel
theorem dX9_level_46 : decode cX9_level 46 = .ok (.ireturn, 1) := by decide +kernel
theorem dX9_queued_0 : decode cX9_queued 0 = .ok (.aload_n 0, 1) := by decide +kernel
theorem dX9_queued_1 : decode cX9_queued 1 = .ok (.iload_n 1, 1) := by decide +kernel
theorem dX9_queued_2 : decode cX9_queued 2 = .ok (.invokevirtual 158, 3) := by decide +kernel
theorem dX9_queued_5 : decode cX9_queued 5 = .ok (.ifCond .eq 16, 3) := by decide +kernel
theorem dX9_queued_8 : decode cX9_queued 8 = .ok (.iload_n 2, 1) := by decide +kernel
theorem dX9_queued_9 : decode cX9_queued 9 = .ok (.ifCond .lt 12, 3) := by decide +kernel
theorem dX9_queued_12 : decode cX9_queued 12 = .ok (.aload_n 0, 1) := by decide +kernel
theorem dX9_queued_13 : decode cX9_queued 13 = .ok (.iload_n 1, 1) := by decide +kernel
theorem dX9_queued_14 : decode cX9_queued 14 = .ok (.iload_n 2, 1) := by decide +kernel
theorem dX9_queued_15 : decode cX9_queued 15 = .ok (.invokevirtual 199, 3) := by decide +kernel
theorem dX9_queued_18 : decode cX9_queued 18 = .ok (.goto 4, 3) := by decide +kernel
theorem dX9_queued_21 : decode cX9_queued 21 = .ok (.iconst (-1), 1) := by decide +kernel
theorem dX9_queued_22 : decode cX9_queued 22 = .ok (.ireturn, 1) := by decide +kernel
theorem dX9_pair_0 : decode cX9_pair 0 = .ok (.iload_n 1, 1) := by decide +kernel
theorem dX9_pair_1 : decode cX9_pair 1 = .ok (.ifCond .lt 15, 3) := by decide +kernel
theorem dX9_pair_4 : decode cX9_pair 4 = .ok (.iload_n 2, 1) := by decide +kernel
theorem dX9_pair_5 : decode cX9_pair 5 = .ok (.i2l, 1) := by decide +kernel
theorem dX9_pair_6 : decode cX9_pair 6 = .ok (.lconst 0, 1) := by decide +kernel
theorem dX9_pair_7 : decode cX9_pair 7 = .ok (.ldc2_w 235, 3) := by decide +kernel
theorem dX9_pair_10 : decode cX9_pair 10 = .ok (.invokestatic 66, 3) := by decide +kernel
theorem dX9_pair_13 : decode cX9_pair 13 = .ok (.ifCond .ne 5, 3) := by decide +kernel
theorem dX9_pair_16 : decode cX9_pair 16 = .ok (.iconst (-1), 1) := by decide +kernel
theorem dX9_pair_17 : decode cX9_pair 17 = .ok (.ireturn, 1) := by decide +kernel
theorem dX9_pair_18 : decode cX9_pair 18 = .ok (.iload_n 1, 1) := by decide +kernel
theorem dX9_pair_19 : decode cX9_pair 19 = .ok (.aload_n 0, 1) := by decide +kernel
theorem dX9_pair_20 : decode cX9_pair 20 = .ok (.getfield 7, 3) := by decide +kernel
theorem dX9_pair_23 : decode cX9_pair 23 = .ok (.sipush 244, 3) := by decide +kernel
theorem dX9_pair_26 : decode cX9_pair 26 = .ok (.iaload, 1) := by decide +kernel
theorem dX9_pair_27 : decode cX9_pair 27 = .ok (.if_icmp .ge 20, 3) := by decide +kernel
theorem dX9_pair_30 : decode cX9_pair 30 = .ok (.aload_n 0, 1) := by decide +kernel
theorem dX9_pair_31 : decode cX9_pair 31 = .ok (.getfield 7, 3) := by decide +kernel
theorem dX9_pair_34 : decode cX9_pair 34 = .ok (.sipush 245, 3) := by decide +kernel
theorem dX9_pair_37 : decode cX9_pair 37 = .ok (.iconst 3, 1) := by decide +kernel
theorem dX9_pair_38 : decode cX9_pair 38 = .ok (.iload_n 1, 1) := by decide +kernel
theorem dX9_pair_39 : decode cX9_pair 39 = .ok (.imul, 1) := by decide +kernel
theorem dX9_pair_40 : decode cX9_pair 40 = .ok (.iadd, 1) := by decide +kernel
theorem dX9_pair_41 : decode cX9_pair 41 = .ok (.iload_n 2, 1) := by decide +kernel
theorem dX9_pair_42 : decode cX9_pair 42 = .ok (.iadd, 1) := by decide +kernel
theorem dX9_pair_43 : decode cX9_pair 43 = .ok (.iaload, 1) := by decide +kernel
theorem dX9_pair_44 : decode cX9_pair 44 = .ok (.goto 5, 3) := by decide +kernel
theorem dX9_pair_47 : decode cX9_pair 47 = .ok (.bipush (-9), 2) := by decide +kernel
theorem dX9_pair_49 : decode cX9_pair 49 = .ok (.ireturn, 1) := by decide +kernel
theorem dX9_shares_0 : decode cX9_shares 0 = .ok (.aload_n 0, 1) := by decide +kernel
theorem dX9_shares_1 : decode cX9_shares 1 = .ok (.getfield 26, 3) := by decide +kernel
theorem dX9_shares_4 : decode cX9_shares 4 = .ok (.iload_n 1, 1) := by decide +kernel
theorem dX9_shares_5 : decode cX9_shares 5 = .ok (.iaload, 1) := by decide +kernel
theorem dX9_shares_6 : decode cX9_shares 6 = .ok (.istore 6, 2) := by decide +kernel
theorem dX9_shares_8 : decode cX9_shares 8 = .ok (.lconst 0, 1) := by decide +kernel
theorem dX9_shares_9 : decode cX9_shares 9 = .ok (.lstore 7, 2) := by decide +kernel
theorem dX9_shares_11 : decode cX9_shares 11 = .ok (.iconst 0, 1) := by decide +kernel
theorem dX9_shares_12 : decode cX9_shares 12 = .ok (.istore 9, 2) := by decide +kernel
theorem dX9_shares_14 : decode cX9_shares 14 = .ok (.iload 9, 2) := by decide +kernel
theorem dX9_shares_16 : decode cX9_shares 16 = .ok (.iload 6, 2) := by decide +kernel
theorem dX9_shares_18 : decode cX9_shares 18 = .ok (.if_icmp .gt 111, 3) := by decide +kernel
theorem dX9_shares_21 : decode cX9_shares 21 = .ok (.aload_n 0, 1) := by decide +kernel
theorem dX9_shares_22 : decode cX9_shares 22 = .ok (.getfield 50, 3) := by decide +kernel
theorem dX9_shares_25 : decode cX9_shares 25 = .ok (.iload 9, 2) := by decide +kernel
theorem dX9_shares_27 : decode cX9_shares 27 = .ok (.lconst 1, 1) := by decide +kernel
theorem dX9_shares_28 : decode cX9_shares 28 = .ok (.lastore, 1) := by decide +kernel
theorem dX9_shares_29 : decode cX9_shares 29 = .ok (.iconst 0, 1) := by decide +kernel
theorem dX9_shares_30 : decode cX9_shares 30 = .ok (.istore 10, 2) := by decide +kernel
theorem dX9_shares_32 : decode cX9_shares 32 = .ok (.iload 10, 2) := by decide +kernel
theorem dX9_shares_34 : decode cX9_shares 34 = .ok (.iload 9, 2) := by decide +kernel
theorem dX9_shares_36 : decode cX9_shares 36 = .ok (.if_icmp .ge 37, 3) := by decide +kernel
theorem dX9_shares_39 : decode cX9_shares 39 = .ok (.aload_n 0, 1) := by decide +kernel
theorem dX9_shares_40 : decode cX9_shares 40 = .ok (.getfield 50, 3) := by decide +kernel
theorem dX9_shares_43 : decode cX9_shares 43 = .ok (.iload 9, 2) := by decide +kernel
theorem dX9_shares_45 : decode cX9_shares 45 = .ok (.dup2, 1) := by decide +kernel
theorem dX9_shares_46 : decode cX9_shares 46 = .ok (.laload, 1) := by decide +kernel
theorem dX9_shares_47 : decode cX9_shares 47 = .ok (.iload_n 3, 1) := by decide +kernel
theorem dX9_shares_48 : decode cX9_shares 48 = .ok (.iload 6, 2) := by decide +kernel
theorem dX9_shares_50 : decode cX9_shares 50 = .ok (.iload 10, 2) := by decide +kernel
theorem dX9_shares_52 : decode cX9_shares 52 = .ok (.isub, 1) := by decide +kernel
theorem dX9_shares_53 : decode cX9_shares 53 = .ok (.iload_n 2, 1) := by decide +kernel
theorem dX9_shares_54 : decode cX9_shares 54 = .ok (.invokestatic 154, 3) := by decide +kernel
theorem dX9_shares_57 : decode cX9_shares 57 = .ok (.imul, 1) := by decide +kernel
theorem dX9_shares_58 : decode cX9_shares 58 = .ok (.bipush 10, 2) := by decide +kernel
theorem dX9_shares_60 : decode cX9_shares 60 = .ok (.iload 4, 2) := by decide +kernel
theorem dX9_shares_62 : decode cX9_shares 62 = .ok (.imul, 1) := by decide +kernel
theorem dX9_shares_63 : decode cX9_shares 63 = .ok (.iadd, 1) := by decide +kernel
theorem dX9_shares_64 : decode cX9_shares 64 = .ok (.i2l, 1) := by decide +kernel
theorem dX9_shares_65 : decode cX9_shares 65 = .ok (.lmul, 1) := by decide +kernel
theorem dX9_shares_66 : decode cX9_shares 66 = .ok (.lastore, 1) := by decide +kernel
theorem dX9_shares_67 : decode cX9_shares 67 = .ok (.iinc 10 1, 3) := by decide +kernel
theorem dX9_shares_70 : decode cX9_shares 70 = .ok (.goto (-38), 3) := by decide +kernel
theorem dX9_shares_73 : decode cX9_shares 73 = .ok (.iload 9, 2) := by decide +kernel
theorem dX9_shares_75 : decode cX9_shares 75 = .ok (.iconst 1, 1) := by decide +kernel
theorem dX9_shares_76 : decode cX9_shares 76 = .ok (.iadd, 1) := by decide +kernel
theorem dX9_shares_77 : decode cX9_shares 77 = .ok (.istore 10, 2) := by decide +kernel
theorem dX9_shares_79 : decode cX9_shares 79 = .ok (.iload 10, 2) := by decide +kernel
theorem dX9_shares_81 : decode cX9_shares 81 = .ok (.iload 6, 2) := by decide +kernel
theorem dX9_shares_83 : decode cX9_shares 83 = .ok (.if_icmp .gt 28, 3) := by decide +kernel
theorem dX9_shares_86 : decode cX9_shares 86 = .ok (.aload_n 0, 1) := by decide +kernel
theorem dX9_shares_87 : decode cX9_shares 87 = .ok (.getfield 50, 3) := by decide +kernel
theorem dX9_shares_90 : decode cX9_shares 90 = .ok (.iload 9, 2) := by decide +kernel
theorem dX9_shares_92 : decode cX9_shares 92 = .ok (.dup2, 1) := by decide +kernel
theorem dX9_shares_93 : decode cX9_shares 93 = .ok (.laload, 1) := by decide +kernel
theorem dX9_shares_94 : decode cX9_shares 94 = .ok (.bipush 10, 2) := by decide +kernel
theorem dX9_shares_96 : decode cX9_shares 96 = .ok (.iload 5, 2) := by decide +kernel
theorem dX9_shares_98 : decode cX9_shares 98 = .ok (.imul, 1) := by decide +kernel
theorem dX9_shares_99 : decode cX9_shares 99 = .ok (.iload 10, 2) := by decide +kernel
theorem dX9_shares_101 : decode cX9_shares 101 = .ok (.imul, 1) := by decide +kernel
theorem dX9_shares_102 : decode cX9_shares 102 = .ok (.i2l, 1) := by decide +kernel
theorem dX9_shares_103 : decode cX9_shares 103 = .ok (.lmul, 1) := by decide +kernel
theorem dX9_shares_104 : decode cX9_shares 104 = .ok (.lastore, 1) := by decide +kernel
theorem dX9_shares_105 : decode cX9_shares 105 = .ok (.iinc 10 1, 3) := by decide +kernel
theorem dX9_shares_108 : decode cX9_shares 108 = .ok (.goto (-29), 3) := by decide +kernel
theorem dX9_shares_111 : decode cX9_shares 111 = .ok (.lload 7, 2) := by decide +kernel
theorem dX9_shares_113 : decode cX9_shares 113 = .ok (.aload_n 0, 1) := by decide +kernel
theorem dX9_shares_114 : decode cX9_shares 114 = .ok (.getfield 50, 3) := by decide +kernel
theorem dX9_shares_117 : decode cX9_shares 117 = .ok (.iload 9, 2) := by decide +kernel
theorem dX9_shares_119 : decode cX9_shares 119 = .ok (.laload, 1) := by decide +kernel
theorem dX9_shares_120 : decode cX9_shares 120 = .ok (.ladd, 1) := by decide +kernel
theorem dX9_shares_121 : decode cX9_shares 121 = .ok (.lstore 7, 2) := by decide +kernel
theorem dX9_shares_123 : decode cX9_shares 123 = .ok (.iinc 9 1, 3) := by decide +kernel
theorem dX9_shares_126 : decode cX9_shares 126 = .ok (.goto (-112), 3) := by decide +kernel
theorem dX9_shares_129 : decode cX9_shares 129 = .ok (.lload 7, 2) := by decide +kernel
theorem dX9_shares_131 : decode cX9_shares 131 = .ok (.lreturn, 1) := by decide +kernel
theorem dX9_areRates_0 : decode cX9_areRates 0 = .ok (.iload_n 0, 1) := by decide +kernel
theorem dX9_areRates_1 : decode cX9_areRates 1 = .ok (.i2l, 1) := by decide +kernel
theorem dX9_areRates_2 : decode cX9_areRates 2 = .ok (.lconst 0, 1) := by decide +kernel
theorem dX9_areRates_3 : decode cX9_areRates 3 = .ok (.ldc2_w 237, 3) := by decide +kernel
theorem dX9_areRates_6 : decode cX9_areRates 6 = .ok (.invokestatic 66, 3) := by decide +kernel
theorem dX9_areRates_9 : decode cX9_areRates 9 = .ok (.ifCond .eq 31, 3) := by decide +kernel
theorem dX9_areRates_12 : decode cX9_areRates 12 = .ok (.iload_n 1, 1) := by decide +kernel
theorem dX9_areRates_13 : decode cX9_areRates 13 = .ok (.i2l, 1) := by decide +kernel
theorem dX9_areRates_14 : decode cX9_areRates 14 = .ok (.lconst 0, 1) := by decide +kernel
theorem dX9_areRates_15 : decode cX9_areRates 15 = .ok (.ldc2_w 237, 3) := by decide +kernel
theorem dX9_areRates_18 : decode cX9_areRates 18 = .ok (.invokestatic 66, 3) := by decide +kernel
theorem dX9_areRates_21 : decode cX9_areRates 21 = .ok (.ifCond .eq 19, 3) := by decide +kernel
theorem dX9_areRates_24 : decode cX9_areRates 24 = .ok (.iload_n 2, 1) := by decide +kernel
theorem dX9_areRates_25 : decode cX9_areRates 25 = .ok (.i2l, 1) := by decide +kernel
theorem dX9_areRates_26 : decode cX9_areRates 26 = .ok (.lconst 1, 1) := by decide +kernel
theorem dX9_areRates_27 : decode cX9_areRates 27 = .ok (.ldc2_w 237, 3) := by decide +kernel
theorem dX9_areRates_30 : decode cX9_areRates 30 = .ok (.invokestatic 66, 3) := by decide +kernel
theorem dX9_areRates_33 : decode cX9_areRates 33 = .ok (.ifCond .eq 7, 3) := by decide +kernel
theorem dX9_areRates_36 : decode cX9_areRates 36 = .ok (.iconst 1, 1) := by decide +kernel
theorem dX9_areRates_37 : decode cX9_areRates 37 = .ok (.goto 4, 3) := by decide +kernel
theorem dX9_areRates_40 : decode cX9_areRates 40 = .ok (.iconst 0, 1) := by decide +kernel
theorem dX9_areRates_41 : decode cX9_areRates 41 = .ok (.ireturn, 1) := by decide +kernel
theorem dX9_divisor_0 : decode cX9_divisor 0 = .ok (.lload_n 0, 1) := by decide +kernel
theorem dX9_divisor_1 : decode cX9_divisor 1 = .ok (.lstore 4, 2) := by decide +kernel
theorem dX9_divisor_3 : decode cX9_divisor 3 = .ok (.lload_n 2, 1) := by decide +kernel
theorem dX9_divisor_4 : decode cX9_divisor 4 = .ok (.lstore 6, 2) := by decide +kernel
theorem dX9_divisor_6 : decode cX9_divisor 6 = .ok (.lload 6, 2) := by decide +kernel
theorem dX9_divisor_8 : decode cX9_divisor 8 = .ok (.lconst 0, 1) := by decide +kernel
theorem dX9_divisor_9 : decode cX9_divisor 9 = .ok (.lcmp, 1) := by decide +kernel
theorem dX9_divisor_10 : decode cX9_divisor 10 = .ok (.ifCond .eq 21, 3) := by decide +kernel
theorem dX9_divisor_13 : decode cX9_divisor 13 = .ok (.lload 4, 2) := by decide +kernel
theorem dX9_divisor_15 : decode cX9_divisor 15 = .ok (.lload 6, 2) := by decide +kernel
theorem dX9_divisor_17 : decode cX9_divisor 17 = .ok (.lrem, 1) := by decide +kernel
theorem dX9_divisor_18 : decode cX9_divisor 18 = .ok (.lstore 8, 2) := by decide +kernel
theorem dX9_divisor_20 : decode cX9_divisor 20 = .ok (.lload 6, 2) := by decide +kernel
theorem dX9_divisor_22 : decode cX9_divisor 22 = .ok (.lstore 4, 2) := by decide +kernel
theorem dX9_divisor_24 : decode cX9_divisor 24 = .ok (.lload 8, 2) := by decide +kernel
theorem dX9_divisor_26 : decode cX9_divisor 26 = .ok (.lstore 6, 2) := by decide +kernel
theorem dX9_divisor_28 : decode cX9_divisor 28 = .ok (.goto (-22), 3) := by decide +kernel
theorem dX9_divisor_31 : decode cX9_divisor 31 = .ok (.lload 4, 2) := by decide +kernel
theorem dX9_divisor_33 : decode cX9_divisor 33 = .ok (.lreturn, 1) := by decide +kernel
theorem dX9_lost_0 : decode cX9_lost 0 = .ok (.aload_n 0, 1) := by decide +kernel
theorem dX9_lost_1 : decode cX9_lost 1 = .ok (.iload_n 1, 1) := by decide +kernel
theorem dX9_lost_2 : decode cX9_lost 2 = .ok (.invokevirtual 158, 3) := by decide +kernel
theorem dX9_lost_5 : decode cX9_lost 5 = .ok (.ifCond .eq 37, 3) := by decide +kernel
theorem dX9_lost_8 : decode cX9_lost 8 = .ok (.iload_n 2, 1) := by decide +kernel
theorem dX9_lost_9 : decode cX9_lost 9 = .ok (.iload_n 3, 1) := by decide +kernel
theorem dX9_lost_10 : decode cX9_lost 10 = .ok (.iload 4, 2) := by decide +kernel
theorem dX9_lost_12 : decode cX9_lost 12 = .ok (.invokestatic 239, 3) := by decide +kernel
theorem dX9_lost_15 : decode cX9_lost 15 = .ok (.ifCond .eq 27, 3) := by decide +kernel
theorem dX9_lost_18 : decode cX9_lost 18 = .ok (.iload 5, 2) := by decide +kernel
theorem dX9_lost_20 : decode cX9_lost 20 = .ok (.i2l, 1) := by decide +kernel
theorem dX9_lost_21 : decode cX9_lost 21 = .ok (.lconst 0, 1) := by decide +kernel
theorem dX9_lost_22 : decode cX9_lost 22 = .ok (.ldc2_w 235, 3) := by decide +kernel
theorem dX9_lost_25 : decode cX9_lost 25 = .ok (.invokestatic 66, 3) := by decide +kernel
theorem dX9_lost_28 : decode cX9_lost 28 = .ok (.ifCond .eq 14, 3) := by decide +kernel
theorem dX9_lost_31 : decode cX9_lost 31 = .ok (.iload 6, 2) := by decide +kernel
theorem dX9_lost_33 : decode cX9_lost 33 = .ok (.i2l, 1) := by decide +kernel
theorem dX9_lost_34 : decode cX9_lost 34 = .ok (.lconst 0, 1) := by decide +kernel
theorem dX9_lost_35 : decode cX9_lost 35 = .ok (.lconst 1, 1) := by decide +kernel
theorem dX9_lost_36 : decode cX9_lost 36 = .ok (.invokestatic 66, 3) := by decide +kernel
theorem dX9_lost_39 : decode cX9_lost 39 = .ok (.ifCond .ne 7, 3) := by decide +kernel
theorem dX9_lost_42 : decode cX9_lost 42 = .ok (.ldc2_w 243, 3) := by decide +kernel
theorem dX9_lost_45 : decode cX9_lost 45 = .ok (.lreturn, 1) := by decide +kernel
theorem dX9_lost_46 : decode cX9_lost 46 = .ok (.aload_n 0, 1) := by decide +kernel
theorem dX9_lost_47 : decode cX9_lost 47 = .ok (.getfield 26, 3) := by decide +kernel
theorem dX9_lost_50 : decode cX9_lost 50 = .ok (.iload_n 1, 1) := by decide +kernel
theorem dX9_lost_51 : decode cX9_lost 51 = .ok (.iaload, 1) := by decide +kernel
theorem dX9_lost_52 : decode cX9_lost 52 = .ok (.istore 7, 2) := by decide +kernel
theorem dX9_lost_54 : decode cX9_lost 54 = .ok (.ldc2_w 245, 3) := by decide +kernel
theorem dX9_lost_57 : decode cX9_lost 57 = .ok (.aload_n 0, 1) := by decide +kernel
theorem dX9_lost_58 : decode cX9_lost 58 = .ok (.iload_n 1, 1) := by decide +kernel
theorem dX9_lost_59 : decode cX9_lost 59 = .ok (.aload_n 0, 1) := by decide +kernel
theorem dX9_lost_60 : decode cX9_lost 60 = .ok (.getfield 7, 3) := by decide +kernel
theorem dX9_lost_63 : decode cX9_lost 63 = .ok (.sipush 216, 3) := by decide +kernel
theorem dX9_lost_66 : decode cX9_lost 66 = .ok (.iload_n 1, 1) := by decide +kernel
theorem dX9_lost_67 : decode cX9_lost 67 = .ok (.iadd, 1) := by decide +kernel
theorem dX9_lost_68 : decode cX9_lost 68 = .ok (.iaload, 1) := by decide +kernel
theorem dX9_lost_69 : decode cX9_lost 69 = .ok (.iload_n 2, 1) := by decide +kernel
theorem dX9_lost_70 : decode cX9_lost 70 = .ok (.iload_n 3, 1) := by decide +kernel
theorem dX9_lost_71 : decode cX9_lost 71 = .ok (.iload 4, 2) := by decide +kernel
theorem dX9_lost_73 : decode cX9_lost 73 = .ok (.invokevirtual 247, 3) := by decide +kernel
theorem dX9_lost_76 : decode cX9_lost 76 = .ok (.lmul, 1) := by decide +kernel
theorem dX9_lost_77 : decode cX9_lost 77 = .ok (.lstore 8, 2) := by decide +kernel
theorem dX9_lost_79 : decode cX9_lost 79 = .ok (.lconst 0, 1) := by decide +kernel
theorem dX9_lost_80 : decode cX9_lost 80 = .ok (.lstore 10, 2) := by decide +kernel
theorem dX9_lost_82 : decode cX9_lost 82 = .ok (.iconst 0, 1) := by decide +kernel
theorem dX9_lost_83 : decode cX9_lost 83 = .ok (.istore 12, 2) := by decide +kernel
theorem dX9_lost_85 : decode cX9_lost 85 = .ok (.iload 12, 2) := by decide +kernel
theorem dX9_lost_87 : decode cX9_lost 87 = .ok (.iload 7, 2) := by decide +kernel
theorem dX9_lost_89 : decode cX9_lost 89 = .ok (.if_icmp .gt 83, 3) := by decide +kernel
theorem dX9_lost_92 : decode cX9_lost 92 = .ok (.iload 5, 2) := by decide +kernel
theorem dX9_lost_94 : decode cX9_lost 94 = .ok (.ifCond .ne 27, 3) := by decide +kernel
theorem dX9_lost_97 : decode cX9_lost 97 = .ok (.bipush 10, 2) := by decide +kernel
theorem dX9_lost_99 : decode cX9_lost 99 = .ok (.iload 7, 2) := by decide +kernel
theorem dX9_lost_101 : decode cX9_lost 101 = .ok (.iload 12, 2) := by decide +kernel
theorem dX9_lost_103 : decode cX9_lost 103 = .ok (.isub, 1) := by decide +kernel
theorem dX9_lost_104 : decode cX9_lost 104 = .ok (.aload_n 0, 1) := by decide +kernel
theorem dX9_lost_105 : decode cX9_lost 105 = .ok (.getfield 7, 3) := by decide +kernel
theorem dX9_lost_108 : decode cX9_lost 108 = .ok (.sipush 216, 3) := by decide +kernel
theorem dX9_lost_111 : decode cX9_lost 111 = .ok (.iload_n 1, 1) := by decide +kernel
theorem dX9_lost_112 : decode cX9_lost 112 = .ok (.iadd, 1) := by decide +kernel
theorem dX9_lost_113 : decode cX9_lost 113 = .ok (.iaload, 1) := by decide +kernel
theorem dX9_lost_114 : decode cX9_lost 114 = .ok (.invokestatic 154, 3) := by decide +kernel
theorem dX9_lost_117 : decode cX9_lost 117 = .ok (.isub, 1) := by decide +kernel
theorem dX9_lost_118 : decode cX9_lost 118 = .ok (.goto 30, 3) := by decide +kernel
theorem dX9_lost_121 : decode cX9_lost 121 = .ok (.iload 5, 2) := by decide +kernel
theorem dX9_lost_123 : decode cX9_lost 123 = .ok (.iconst 1, 1) := by decide +kernel
theorem dX9_lost_124 : decode cX9_lost 124 = .ok (.if_icmp .ne 19, 3) := by decide +kernel
theorem dX9_lost_127 : decode cX9_lost 127 = .ok (.iload 12, 2) := by decide +kernel
theorem dX9_lost_129 : decode cX9_lost 129 = .ok (.iload 7, 2) := by decide +kernel
theorem dX9_lost_131 : decode cX9_lost 131 = .ok (.if_icmp .ne 8, 3) := by decide +kernel
theorem dX9_lost_134 : decode cX9_lost 134 = .ok (.bipush 10, 2) := by decide +kernel
theorem dX9_lost_136 : decode cX9_lost 136 = .ok (.goto 12, 3) := by decide +kernel
theorem dX9_lost_139 : decode cX9_lost 139 = .ok (.iconst 0, 1) := by decide +kernel
theorem dX9_lost_140 : decode cX9_lost 140 = .ok (.goto 8, 3) := by decide +kernel
theorem dX9_lost_143 : decode cX9_lost 143 = .ok (.bipush 10, 2) := by decide +kernel
theorem dX9_lost_145 : decode cX9_lost 145 = .ok (.iload 12, 2) := by decide +kernel
theorem dX9_lost_147 : decode cX9_lost 147 = .ok (.imul, 1) := by decide +kernel
theorem dX9_lost_148 : decode cX9_lost 148 = .ok (.istore 13, 2) := by decide +kernel
theorem dX9_lost_150 : decode cX9_lost 150 = .ok (.lload 10, 2) := by decide +kernel
theorem dX9_lost_152 : decode cX9_lost 152 = .ok (.iload 13, 2) := by decide +kernel
theorem dX9_lost_154 : decode cX9_lost 154 = .ok (.i2l, 1) := by decide +kernel
theorem dX9_lost_155 : decode cX9_lost 155 = .ok (.aload_n 0, 1) := by decide +kernel
theorem dX9_lost_156 : decode cX9_lost 156 = .ok (.getfield 50, 3) := by decide +kernel
theorem dX9_lost_159 : decode cX9_lost 159 = .ok (.iload 12, 2) := by decide +kernel
theorem dX9_lost_161 : decode cX9_lost 161 = .ok (.laload, 1) := by decide +kernel
theorem dX9_lost_162 : decode cX9_lost 162 = .ok (.lmul, 1) := by decide +kernel
theorem dX9_lost_163 : decode cX9_lost 163 = .ok (.ladd, 1) := by decide +kernel
theorem dX9_lost_164 : decode cX9_lost 164 = .ok (.lstore 10, 2) := by decide +kernel
theorem dX9_lost_166 : decode cX9_lost 166 = .ok (.iinc 12 1, 3) := by decide +kernel
theorem dX9_lost_169 : decode cX9_lost 169 = .ok (.goto (-84), 3) := by decide +kernel
theorem dX9_lost_172 : decode cX9_lost 172 = .ok (.lload 10, 2) := by decide +kernel
theorem dX9_lost_174 : decode cX9_lost 174 = .ok (.lload 8, 2) := by decide +kernel
theorem dX9_lost_176 : decode cX9_lost 176 = .ok (.invokestatic 251, 3) := by decide +kernel
theorem dX9_lost_179 : decode cX9_lost 179 = .ok (.lstore 12, 2) := by decide +kernel
theorem dX9_lost_181 : decode cX9_lost 181 = .ok (.iload 6, 2) := by decide +kernel
theorem dX9_lost_183 : decode cX9_lost 183 = .ok (.ifCond .ne 11, 3) := by decide +kernel
theorem dX9_lost_186 : decode cX9_lost 186 = .ok (.lload 10, 2) := by decide +kernel
theorem dX9_lost_188 : decode cX9_lost 188 = .ok (.lload 12, 2) := by decide +kernel
theorem dX9_lost_190 : decode cX9_lost 190 = .ok (.ldiv, 1) := by decide +kernel
theorem dX9_lost_191 : decode cX9_lost 191 = .ok (.goto 8, 3) := by decide +kernel
theorem dX9_lost_194 : decode cX9_lost 194 = .ok (.lload 8, 2) := by decide +kernel
theorem dX9_lost_196 : decode cX9_lost 196 = .ok (.lload 12, 2) := by decide +kernel
theorem dX9_lost_198 : decode cX9_lost 198 = .ok (.ldiv, 1) := by decide +kernel
theorem dX9_lost_199 : decode cX9_lost 199 = .ok (.lreturn, 1) := by decide +kernel
theorem dX9_best_0 : decode cX9_best 0 = .ok (.aload_n 0, 1) := by decide +kernel
theorem dX9_best_1 : decode cX9_best 1 = .ok (.iload_n 1, 1) := by decide +kernel
theorem dX9_best_2 : decode cX9_best 2 = .ok (.invokevirtual 158, 3) := by decide +kernel
theorem dX9_best_5 : decode cX9_best 5 = .ok (.ifCond .eq 26, 3) := by decide +kernel
theorem dX9_best_8 : decode cX9_best 8 = .ok (.iload_n 2, 1) := by decide +kernel
theorem dX9_best_9 : decode cX9_best 9 = .ok (.iload_n 3, 1) := by decide +kernel
theorem dX9_best_10 : decode cX9_best 10 = .ok (.iload 4, 2) := by decide +kernel
theorem dX9_best_12 : decode cX9_best 12 = .ok (.invokestatic 239, 3) := by decide +kernel
theorem dX9_best_15 : decode cX9_best 15 = .ok (.ifCond .eq 16, 3) := by decide +kernel
theorem dX9_best_18 : decode cX9_best 18 = .ok (.iload 5, 2) := by decide +kernel
theorem dX9_best_20 : decode cX9_best 20 = .ok (.i2l, 1) := by decide +kernel
theorem dX9_best_21 : decode cX9_best 21 = .ok (.lconst 1, 1) := by decide +kernel
theorem dX9_best_22 : decode cX9_best 22 = .ok (.ldc2_w 255, 3) := by decide +kernel
theorem dX9_best_25 : decode cX9_best 25 = .ok (.invokestatic 66, 3) := by decide +kernel
theorem dX9_best_28 : decode cX9_best 28 = .ok (.ifCond .ne 5, 3) := by decide +kernel
theorem dX9_best_31 : decode cX9_best 31 = .ok (.iconst (-1), 1) := by decide +kernel
theorem dX9_best_32 : decode cX9_best 32 = .ok (.ireturn, 1) := by decide +kernel
theorem dX9_best_33 : decode cX9_best 33 = .ok (.iconst 0, 1) := by decide +kernel
theorem dX9_best_34 : decode cX9_best 34 = .ok (.istore 6, 2) := by decide +kernel
theorem dX9_best_36 : decode cX9_best 36 = .ok (.iload 6, 2) := by decide +kernel
theorem dX9_best_38 : decode cX9_best 38 = .ok (.bipush 10, 2) := by decide +kernel
theorem dX9_best_40 : decode cX9_best 40 = .ok (.aload_n 0, 1) := by decide +kernel
theorem dX9_best_41 : decode cX9_best 41 = .ok (.getfield 26, 3) := by decide +kernel
theorem dX9_best_44 : decode cX9_best 44 = .ok (.iload_n 1, 1) := by decide +kernel
theorem dX9_best_45 : decode cX9_best 45 = .ok (.iaload, 1) := by decide +kernel
theorem dX9_best_46 : decode cX9_best 46 = .ok (.imul, 1) := by decide +kernel
theorem dX9_best_47 : decode cX9_best 47 = .ok (.if_icmp .gt 46, 3) := by decide +kernel
theorem dX9_best_50 : decode cX9_best 50 = .ok (.aload_n 0, 1) := by decide +kernel
theorem dX9_best_51 : decode cX9_best 51 = .ok (.iload_n 1, 1) := by decide +kernel
theorem dX9_best_52 : decode cX9_best 52 = .ok (.iload 6, 2) := by decide +kernel
theorem dX9_best_54 : decode cX9_best 54 = .ok (.iload_n 2, 1) := by decide +kernel
theorem dX9_best_55 : decode cX9_best 55 = .ok (.iload_n 3, 1) := by decide +kernel
theorem dX9_best_56 : decode cX9_best 56 = .ok (.iload 4, 2) := by decide +kernel
theorem dX9_best_58 : decode cX9_best 58 = .ok (.invokevirtual 247, 3) := by decide +kernel
theorem dX9_best_61 : decode cX9_best 61 = .ok (.lstore 7, 2) := by decide +kernel
theorem dX9_best_63 : decode cX9_best 63 = .ok (.iload 5, 2) := by decide +kernel
theorem dX9_best_65 : decode cX9_best 65 = .ok (.i2l, 1) := by decide +kernel
theorem dX9_best_66 : decode cX9_best 66 = .ok (.aload_n 0, 1) := by decide +kernel
theorem dX9_best_67 : decode cX9_best 67 = .ok (.getfield 50, 3) := by decide +kernel
theorem dX9_best_70 : decode cX9_best 70 = .ok (.aload_n 0, 1) := by decide +kernel
theorem dX9_best_71 : decode cX9_best 71 = .ok (.getfield 26, 3) := by decide +kernel
theorem dX9_best_74 : decode cX9_best 74 = .ok (.iload_n 1, 1) := by decide +kernel
theorem dX9_best_75 : decode cX9_best 75 = .ok (.iaload, 1) := by decide +kernel
theorem dX9_best_76 : decode cX9_best 76 = .ok (.laload, 1) := by decide +kernel
theorem dX9_best_77 : decode cX9_best 77 = .ok (.lmul, 1) := by decide +kernel
theorem dX9_best_78 : decode cX9_best 78 = .ok (.lload 7, 2) := by decide +kernel
theorem dX9_best_80 : decode cX9_best 80 = .ok (.lcmp, 1) := by decide +kernel
theorem dX9_best_81 : decode cX9_best 81 = .ok (.ifCond .gt 6, 3) := by decide +kernel
theorem dX9_best_84 : decode cX9_best 84 = .ok (.iload 6, 2) := by decide +kernel
theorem dX9_best_86 : decode cX9_best 86 = .ok (.ireturn, 1) := by decide +kernel
theorem dX9_best_87 : decode cX9_best 87 = .ok (.iinc 6 1, 3) := by decide +kernel
theorem dX9_best_90 : decode cX9_best 90 = .ok (.goto (-54), 3) := by decide +kernel
theorem dX9_best_93 : decode cX9_best 93 = .ok (.bipush (-9), 2) := by decide +kernel
theorem dX9_best_95 : decode cX9_best 95 = .ok (.ireturn, 1) := by decide +kernel
theorem dX9_sees_0 : decode cX9_sees 0 = .ok (.iload_n 1, 1) := by decide +kernel
theorem dX9_sees_1 : decode cX9_sees 1 = .ok (.i2l, 1) := by decide +kernel
theorem dX9_sees_2 : decode cX9_sees 2 = .ok (.lconst 0, 1) := by decide +kernel
theorem dX9_sees_3 : decode cX9_sees 3 = .ok (.ldc2_w 232, 3) := by decide +kernel
theorem dX9_sees_6 : decode cX9_sees 6 = .ok (.invokestatic 66, 3) := by decide +kernel
theorem dX9_sees_9 : decode cX9_sees 9 = .ok (.ifCond .eq 13, 3) := by decide +kernel
theorem dX9_sees_12 : decode cX9_sees 12 = .ok (.iload_n 2, 1) := by decide +kernel
theorem dX9_sees_13 : decode cX9_sees 13 = .ok (.i2l, 1) := by decide +kernel
theorem dX9_sees_14 : decode cX9_sees 14 = .ok (.lconst 0, 1) := by decide +kernel
theorem dX9_sees_15 : decode cX9_sees 15 = .ok (.lconst 1, 1) := by decide +kernel
theorem dX9_sees_16 : decode cX9_sees 16 = .ok (.invokestatic 66, 3) := by decide +kernel
theorem dX9_sees_19 : decode cX9_sees 19 = .ok (.ifCond .ne 5, 3) := by decide +kernel
theorem dX9_sees_22 : decode cX9_sees 22 = .ok (.iconst (-1), 1) := by decide +kernel
theorem dX9_sees_23 : decode cX9_sees 23 = .ok (.ireturn, 1) := by decide +kernel
theorem dX9_sees_24 : decode cX9_sees 24 = .ok (.aload_n 0, 1) := by decide +kernel
theorem dX9_sees_25 : decode cX9_sees 25 = .ok (.getfield 136, 3) := by decide +kernel
theorem dX9_sees_28 : decode cX9_sees 28 = .ok (.bipush 6, 2) := by decide +kernel
theorem dX9_sees_30 : decode cX9_sees 30 = .ok (.if_icmp .ne 6, 3) := by decide +kernel
theorem dX9_sees_33 : decode cX9_sees 33 = .ok (.bipush (-3), 2) := by decide +kernel
theorem dX9_sees_35 : decode cX9_sees 35 = .ok (.ireturn, 1) := by decide +kernel
theorem dX9_sees_36 : decode cX9_sees 36 = .ok (.aload_n 0, 1) := by decide +kernel
theorem dX9_sees_37 : decode cX9_sees 37 = .ok (.getfield 17, 3) := by decide +kernel
theorem dX9_sees_40 : decode cX9_sees 40 = .ok (.aload_n 0, 1) := by decide +kernel
theorem dX9_sees_41 : decode cX9_sees 41 = .ok (.getfield 136, 3) := by decide +kernel
theorem dX9_sees_44 : decode cX9_sees 44 = .ok (.iload_n 1, 1) := by decide +kernel
theorem dX9_sees_45 : decode cX9_sees 45 = .ok (.iastore, 1) := by decide +kernel
theorem dX9_sees_46 : decode cX9_sees 46 = .ok (.aload_n 0, 1) := by decide +kernel
theorem dX9_sees_47 : decode cX9_sees 47 = .ok (.getfield 20, 3) := by decide +kernel
theorem dX9_sees_50 : decode cX9_sees 50 = .ok (.aload_n 0, 1) := by decide +kernel
theorem dX9_sees_51 : decode cX9_sees 51 = .ok (.getfield 136, 3) := by decide +kernel
theorem dX9_sees_54 : decode cX9_sees 54 = .ok (.iload_n 2, 1) := by decide +kernel
theorem dX9_sees_55 : decode cX9_sees 55 = .ok (.iastore, 1) := by decide +kernel
theorem dX9_sees_56 : decode cX9_sees 56 = .ok (.aload_n 0, 1) := by decide +kernel
theorem dX9_sees_57 : decode cX9_sees 57 = .ok (.dup, 1) := by decide +kernel
theorem dX9_sees_58 : decode cX9_sees 58 = .ok (.getfield 136, 3) := by decide +kernel
theorem dX9_sees_61 : decode cX9_sees 61 = .ok (.iconst 1, 1) := by decide +kernel
theorem dX9_sees_62 : decode cX9_sees 62 = .ok (.iadd, 1) := by decide +kernel
theorem dX9_sees_63 : decode cX9_sees 63 = .ok (.putfield 136, 3) := by decide +kernel
theorem dX9_sees_66 : decode cX9_sees 66 = .ok (.aload_n 0, 1) := by decide +kernel
theorem dX9_sees_67 : decode cX9_sees 67 = .ok (.getfield 136, 3) := by decide +kernel
theorem dX9_sees_70 : decode cX9_sees 70 = .ok (.ireturn, 1) := by decide +kernel
theorem dX9_forget_0 : decode cX9_forget 0 = .ok (.aload_n 0, 1) := by decide +kernel
theorem dX9_forget_1 : decode cX9_forget 1 = .ok (.getfield 136, 3) := by decide +kernel
theorem dX9_forget_4 : decode cX9_forget 4 = .ok (.istore_n 1, 1) := by decide +kernel
theorem dX9_forget_5 : decode cX9_forget 5 = .ok (.aload_n 0, 1) := by decide +kernel
theorem dX9_forget_6 : decode cX9_forget 6 = .ok (.iconst 0, 1) := by decide +kernel
theorem dX9_forget_7 : decode cX9_forget 7 = .ok (.putfield 136, 3) := by decide +kernel
theorem dX9_forget_10 : decode cX9_forget 10 = .ok (.iload_n 1, 1) := by decide +kernel
theorem dX9_forget_11 : decode cX9_forget 11 = .ok (.ireturn, 1) := by decide +kernel
theorem dX9_couldBe_0 : decode cX9_couldBe 0 = .ok (.iconst 1, 1) := by decide +kernel
theorem dX9_couldBe_1 : decode cX9_couldBe 1 = .ok (.istore_n 2, 1) := by decide +kernel
theorem dX9_couldBe_2 : decode cX9_couldBe 2 = .ok (.iconst 0, 1) := by decide +kernel
theorem dX9_couldBe_3 : decode cX9_couldBe 3 = .ok (.istore_n 3, 1) := by decide +kernel
theorem dX9_couldBe_4 : decode cX9_couldBe 4 = .ok (.iload_n 3, 1) := by decide +kernel
theorem dX9_couldBe_5 : decode cX9_couldBe 5 = .ok (.aload_n 0, 1) := by decide +kernel
theorem dX9_couldBe_6 : decode cX9_couldBe 6 = .ok (.getfield 136, 3) := by decide +kernel
theorem dX9_couldBe_9 : decode cX9_couldBe 9 = .ok (.if_icmp .ge 56, 3) := by decide +kernel
theorem dX9_couldBe_12 : decode cX9_couldBe 12 = .ok (.aload_n 0, 1) := by decide +kernel
theorem dX9_couldBe_13 : decode cX9_couldBe 13 = .ok (.getfield 17, 3) := by decide +kernel
theorem dX9_couldBe_16 : decode cX9_couldBe 16 = .ok (.iload_n 3, 1) := by decide +kernel
theorem dX9_couldBe_17 : decode cX9_couldBe 17 = .ok (.iaload, 1) := by decide +kernel
theorem dX9_couldBe_18 : decode cX9_couldBe 18 = .ok (.iload_n 1, 1) := by decide +kernel
theorem dX9_couldBe_19 : decode cX9_couldBe 19 = .ok (.invokestatic 154, 3) := by decide +kernel
theorem dX9_couldBe_22 : decode cX9_couldBe 22 = .ok (.istore 4, 2) := by decide +kernel
theorem dX9_couldBe_24 : decode cX9_couldBe 24 = .ok (.iload_n 2, 1) := by decide +kernel
theorem dX9_couldBe_25 : decode cX9_couldBe 25 = .ok (.ifCond .eq 32, 3) := by decide +kernel
theorem dX9_couldBe_28 : decode cX9_couldBe 28 = .ok (.aload_n 0, 1) := by decide +kernel
theorem dX9_couldBe_29 : decode cX9_couldBe 29 = .ok (.getfield 20, 3) := by decide +kernel
theorem dX9_couldBe_32 : decode cX9_couldBe 32 = .ok (.iload_n 3, 1) := by decide +kernel
theorem dX9_couldBe_33 : decode cX9_couldBe 33 = .ok (.iaload, 1) := by decide +kernel
theorem dX9_couldBe_34 : decode cX9_couldBe 34 = .ok (.iconst 1, 1) := by decide +kernel
theorem dX9_couldBe_35 : decode cX9_couldBe 35 = .ok (.if_icmp .ne 11, 3) := by decide +kernel
theorem dX9_couldBe_38 : decode cX9_couldBe 38 = .ok (.iload 4, 2) := by decide +kernel
theorem dX9_couldBe_40 : decode cX9_couldBe 40 = .ok (.ifCond .le 17, 3) := by decide +kernel
theorem dX9_couldBe_43 : decode cX9_couldBe 43 = .ok (.goto 10, 3) := by decide +kernel
theorem dX9_couldBe_46 : decode cX9_couldBe 46 = .ok (.iload 4, 2) := by decide +kernel
theorem dX9_couldBe_48 : decode cX9_couldBe 48 = .ok (.bipush 10, 2) := by decide +kernel
theorem dX9_couldBe_50 : decode cX9_couldBe 50 = .ok (.if_icmp .ge 7, 3) := by decide +kernel
theorem dX9_couldBe_53 : decode cX9_couldBe 53 = .ok (.iconst 1, 1) := by decide +kernel
theorem dX9_couldBe_54 : decode cX9_couldBe 54 = .ok (.goto 4, 3) := by decide +kernel
theorem dX9_couldBe_57 : decode cX9_couldBe 57 = .ok (.iconst 0, 1) := by decide +kernel
theorem dX9_couldBe_58 : decode cX9_couldBe 58 = .ok (.istore_n 2, 1) := by decide +kernel
theorem dX9_couldBe_59 : decode cX9_couldBe 59 = .ok (.iinc 3 1, 3) := by decide +kernel
theorem dX9_couldBe_62 : decode cX9_couldBe 62 = .ok (.goto (-58), 3) := by decide +kernel
theorem dX9_couldBe_65 : decode cX9_couldBe 65 = .ok (.iload_n 2, 1) := by decide +kernel
theorem dX9_couldBe_66 : decode cX9_couldBe 66 = .ok (.ireturn, 1) := by decide +kernel
theorem dX9_unseen_0 : decode cX9_unseen 0 = .ok (.aload_n 0, 1) := by decide +kernel
theorem dX9_unseen_1 : decode cX9_unseen 1 = .ok (.iload_n 1, 1) := by decide +kernel
theorem dX9_unseen_2 : decode cX9_unseen 2 = .ok (.invokevirtual 158, 3) := by decide +kernel
theorem dX9_unseen_5 : decode cX9_unseen 5 = .ok (.ifCond .eq 15, 3) := by decide +kernel
theorem dX9_unseen_8 : decode cX9_unseen 8 = .ok (.iload_n 2, 1) := by decide +kernel
theorem dX9_unseen_9 : decode cX9_unseen 9 = .ok (.i2l, 1) := by decide +kernel
theorem dX9_unseen_10 : decode cX9_unseen 10 = .ok (.lconst 0, 1) := by decide +kernel
theorem dX9_unseen_11 : decode cX9_unseen 11 = .ok (.ldc2_w 235, 3) := by decide +kernel
theorem dX9_unseen_14 : decode cX9_unseen 14 = .ok (.invokestatic 66, 3) := by decide +kernel
theorem dX9_unseen_17 : decode cX9_unseen 17 = .ok (.ifCond .ne 5, 3) := by decide +kernel
theorem dX9_unseen_20 : decode cX9_unseen 20 = .ok (.iconst (-1), 1) := by decide +kernel
theorem dX9_unseen_21 : decode cX9_unseen 21 = .ok (.ireturn, 1) := by decide +kernel
theorem dX9_unseen_22 : decode cX9_unseen 22 = .ok (.iconst 0, 1) := by decide +kernel
theorem dX9_unseen_23 : decode cX9_unseen 23 = .ok (.istore_n 3, 1) := by decide +kernel
theorem dX9_unseen_24 : decode cX9_unseen 24 = .ok (.bipush (-9), 2) := by decide +kernel
theorem dX9_unseen_26 : decode cX9_unseen 26 = .ok (.istore 4, 2) := by decide +kernel
theorem dX9_unseen_28 : decode cX9_unseen 28 = .ok (.bipush (-9), 2) := by decide +kernel
theorem dX9_unseen_30 : decode cX9_unseen 30 = .ok (.istore 5, 2) := by decide +kernel
theorem dX9_unseen_32 : decode cX9_unseen 32 = .ok (.iconst 0, 1) := by decide +kernel
theorem dX9_unseen_33 : decode cX9_unseen 33 = .ok (.istore 6, 2) := by decide +kernel
theorem dX9_unseen_35 : decode cX9_unseen 35 = .ok (.iload 6, 2) := by decide +kernel
theorem dX9_unseen_37 : decode cX9_unseen 37 = .ok (.bipush 10, 2) := by decide +kernel
theorem dX9_unseen_39 : decode cX9_unseen 39 = .ok (.aload_n 0, 1) := by decide +kernel
theorem dX9_unseen_40 : decode cX9_unseen 40 = .ok (.getfield 26, 3) := by decide +kernel
theorem dX9_unseen_43 : decode cX9_unseen 43 = .ok (.iload_n 1, 1) := by decide +kernel
theorem dX9_unseen_44 : decode cX9_unseen 44 = .ok (.iaload, 1) := by decide +kernel
theorem dX9_unseen_45 : decode cX9_unseen 45 = .ok (.imul, 1) := by decide +kernel
theorem dX9_unseen_46 : decode cX9_unseen 46 = .ok (.if_icmp .gt 38, 3) := by decide +kernel
theorem dX9_unseen_49 : decode cX9_unseen 49 = .ok (.aload_n 0, 1) := by decide +kernel
theorem dX9_unseen_50 : decode cX9_unseen 50 = .ok (.iload 6, 2) := by decide +kernel
theorem dX9_unseen_52 : decode cX9_unseen 52 = .ok (.invokevirtual 257, 3) := by decide +kernel
theorem dX9_unseen_55 : decode cX9_unseen 55 = .ok (.ifCond .eq 23, 3) := by decide +kernel
theorem dX9_unseen_58 : decode cX9_unseen 58 = .ok (.iload_n 3, 1) := by decide +kernel
theorem dX9_unseen_59 : decode cX9_unseen 59 = .ok (.ifCond .ne 8, 3) := by decide +kernel
theorem dX9_unseen_62 : decode cX9_unseen 62 = .ok (.iload 6, 2) := by decide +kernel
theorem dX9_unseen_64 : decode cX9_unseen 64 = .ok (.goto 5, 3) := by decide +kernel
theorem dX9_unseen_67 : decode cX9_unseen 67 = .ok (.iload 4, 2) := by decide +kernel
theorem dX9_unseen_69 : decode cX9_unseen 69 = .ok (.istore 4, 2) := by decide +kernel
theorem dX9_unseen_71 : decode cX9_unseen 71 = .ok (.iload 6, 2) := by decide +kernel
theorem dX9_unseen_73 : decode cX9_unseen 73 = .ok (.istore 5, 2) := by decide +kernel
theorem dX9_unseen_75 : decode cX9_unseen 75 = .ok (.iinc 3 1, 3) := by decide +kernel
theorem dX9_unseen_78 : decode cX9_unseen 78 = .ok (.iinc 6 1, 3) := by decide +kernel
theorem dX9_unseen_81 : decode cX9_unseen 81 = .ok (.goto (-46), 3) := by decide +kernel
theorem dX9_unseen_84 : decode cX9_unseen 84 = .ok (.iload_n 2, 1) := by decide +kernel
theorem dX9_unseen_85 : decode cX9_unseen 85 = .ok (.ifCond .ne 7, 3) := by decide +kernel
theorem dX9_unseen_88 : decode cX9_unseen 88 = .ok (.iload_n 3, 1) := by decide +kernel
theorem dX9_unseen_89 : decode cX9_unseen 89 = .ok (.goto 15, 3) := by decide +kernel
theorem dX9_unseen_92 : decode cX9_unseen 92 = .ok (.iload_n 2, 1) := by decide +kernel
theorem dX9_unseen_93 : decode cX9_unseen 93 = .ok (.iconst 1, 1) := by decide +kernel
theorem dX9_unseen_94 : decode cX9_unseen 94 = .ok (.if_icmp .ne 8, 3) := by decide +kernel
theorem dX9_unseen_97 : decode cX9_unseen 97 = .ok (.iload 4, 2) := by decide +kernel
theorem dX9_unseen_99 : decode cX9_unseen 99 = .ok (.goto 5, 3) := by decide +kernel
theorem dX9_unseen_102 : decode cX9_unseen 102 = .ok (.iload 5, 2) := by decide +kernel
theorem dX9_unseen_104 : decode cX9_unseen 104 = .ok (.ireturn, 1) := by decide +kernel
theorem dX9_keep_0 : decode cX9_keep 0 = .ok (.iload_n 1, 1) := by decide +kernel
theorem dX9_keep_1 : decode cX9_keep 1 = .ok (.i2l, 1) := by decide +kernel
theorem dX9_keep_2 : decode cX9_keep 2 = .ok (.lconst 0, 1) := by decide +kernel
theorem dX9_keep_3 : decode cX9_keep 3 = .ok (.lconst 1, 1) := by decide +kernel
theorem dX9_keep_4 : decode cX9_keep 4 = .ok (.invokestatic 66, 3) := by decide +kernel
theorem dX9_keep_7 : decode cX9_keep 7 = .ok (.ifCond .ne 5, 3) := by decide +kernel
theorem dX9_keep_10 : decode cX9_keep 10 = .ok (.iconst (-1), 1) := by decide +kernel
theorem dX9_keep_11 : decode cX9_keep 11 = .ok (.ireturn, 1) := by decide +kernel
theorem dX9_keep_12 : decode cX9_keep 12 = .ok (.aload_n 0, 1) := by decide +kernel
theorem dX9_keep_13 : decode cX9_keep 13 = .ok (.iconst 0, 1) := by decide +kernel
theorem dX9_keep_14 : decode cX9_keep 14 = .ok (.sipush 283, 3) := by decide +kernel
theorem dX9_keep_17 : decode cX9_keep 17 = .ok (.sipush 283, 3) := by decide +kernel
theorem dX9_keep_20 : decode cX9_keep 20 = .ok (.iload_n 1, 1) := by decide +kernel
theorem dX9_keep_21 : decode cX9_keep 21 = .ok (.imul, 1) := by decide +kernel
theorem dX9_keep_22 : decode cX9_keep 22 = .ok (.iadd, 1) := by decide +kernel
theorem dX9_keep_23 : decode cX9_keep 23 = .ok (.invokevirtual 58, 3) := by decide +kernel
theorem dX9_keep_26 : decode cX9_keep 26 = .ok (.aload_n 0, 1) := by decide +kernel
theorem dX9_keep_27 : decode cX9_keep 27 = .ok (.getfield 13, 3) := by decide +kernel
theorem dX9_keep_30 : decode cX9_keep 30 = .ok (.iload_n 1, 1) := by decide +kernel
theorem dX9_keep_31 : decode cX9_keep 31 = .ok (.iconst 1, 1) := by decide +kernel
theorem dX9_keep_32 : decode cX9_keep 32 = .ok (.bastore, 1) := by decide +kernel
theorem dX9_keep_33 : decode cX9_keep 33 = .ok (.aload_n 0, 1) := by decide +kernel
theorem dX9_keep_34 : decode cX9_keep 34 = .ok (.invokevirtual 163, 3) := by decide +kernel
theorem dX9_keep_37 : decode cX9_keep 37 = .ok (.ireturn, 1) := by decide +kernel
theorem dX9_back_0 : decode cX9_back 0 = .ok (.iload_n 1, 1) := by decide +kernel
theorem dX9_back_1 : decode cX9_back 1 = .ok (.i2l, 1) := by decide +kernel
theorem dX9_back_2 : decode cX9_back 2 = .ok (.lconst 0, 1) := by decide +kernel
theorem dX9_back_3 : decode cX9_back 3 = .ok (.lconst 1, 1) := by decide +kernel
theorem dX9_back_4 : decode cX9_back 4 = .ok (.invokestatic 66, 3) := by decide +kernel
theorem dX9_back_7 : decode cX9_back 7 = .ok (.ifCond .ne 5, 3) := by decide +kernel
theorem dX9_back_10 : decode cX9_back 10 = .ok (.iconst (-1), 1) := by decide +kernel
theorem dX9_back_11 : decode cX9_back 11 = .ok (.ireturn, 1) := by decide +kernel
theorem dX9_back_12 : decode cX9_back 12 = .ok (.aload_n 0, 1) := by decide +kernel
theorem dX9_back_13 : decode cX9_back 13 = .ok (.getfield 13, 3) := by decide +kernel
theorem dX9_back_16 : decode cX9_back 16 = .ok (.iload_n 1, 1) := by decide +kernel
theorem dX9_back_17 : decode cX9_back 17 = .ok (.baload, 1) := by decide +kernel
theorem dX9_back_18 : decode cX9_back 18 = .ok (.ifCond .ne 6, 3) := by decide +kernel
theorem dX9_back_21 : decode cX9_back 21 = .ok (.bipush (-2), 2) := by decide +kernel
theorem dX9_back_23 : decode cX9_back 23 = .ok (.ireturn, 1) := by decide +kernel
theorem dX9_back_24 : decode cX9_back 24 = .ok (.aload_n 0, 1) := by decide +kernel
theorem dX9_back_25 : decode cX9_back 25 = .ok (.sipush 283, 3) := by decide +kernel
theorem dX9_back_28 : decode cX9_back 28 = .ok (.sipush 283, 3) := by decide +kernel
theorem dX9_back_31 : decode cX9_back 31 = .ok (.iload_n 1, 1) := by decide +kernel
theorem dX9_back_32 : decode cX9_back 32 = .ok (.imul, 1) := by decide +kernel
theorem dX9_back_33 : decode cX9_back 33 = .ok (.iadd, 1) := by decide +kernel
theorem dX9_back_34 : decode cX9_back 34 = .ok (.iconst 0, 1) := by decide +kernel
theorem dX9_back_35 : decode cX9_back 35 = .ok (.invokevirtual 58, 3) := by decide +kernel
theorem dX9_back_38 : decode cX9_back 38 = .ok (.aload_n 0, 1) := by decide +kernel
theorem dX9_back_39 : decode cX9_back 39 = .ok (.iconst 0, 1) := by decide +kernel
theorem dX9_back_40 : decode cX9_back 40 = .ok (.putfield 54, 3) := by decide +kernel
theorem dX9_back_43 : decode cX9_back 43 = .ok (.aload_n 0, 1) := by decide +kernel
theorem dX9_back_44 : decode cX9_back 44 = .ok (.invokevirtual 163, 3) := by decide +kernel
theorem dX9_back_47 : decode cX9_back 47 = .ok (.ireturn, 1) := by decide +kernel
theorem dX9_count_0 : decode cX9_count 0 = .ok (.iload_n 1, 1) := by decide +kernel
theorem dX9_count_1 : decode cX9_count 1 = .ok (.tableswitch 115 0 11 #[63, 68, 73, 73, 73, 73, 73, 82, 91, 96, 101, 106], 63) := by decide +kernel
theorem dX9_count_64 : decode cX9_count 64 = .ok (.aload_n 0, 1) := by decide +kernel
theorem dX9_count_65 : decode cX9_count 65 = .ok (.getfield 133, 3) := by decide +kernel
theorem dX9_count_68 : decode cX9_count 68 = .ok (.ireturn, 1) := by decide +kernel
theorem dX9_count_69 : decode cX9_count 69 = .ok (.aload_n 0, 1) := by decide +kernel
theorem dX9_count_70 : decode cX9_count 70 = .ok (.invokevirtual 163, 3) := by decide +kernel
theorem dX9_count_73 : decode cX9_count 73 = .ok (.ireturn, 1) := by decide +kernel
theorem dX9_count_74 : decode cX9_count 74 = .ok (.aload_n 0, 1) := by decide +kernel
theorem dX9_count_75 : decode cX9_count 75 = .ok (.getfield 32, 3) := by decide +kernel
theorem dX9_count_78 : decode cX9_count 78 = .ok (.iload_n 1, 1) := by decide +kernel
theorem dX9_count_79 : decode cX9_count 79 = .ok (.iconst 1, 1) := by decide +kernel
theorem dX9_count_80 : decode cX9_count 80 = .ok (.isub, 1) := by decide +kernel
theorem dX9_count_81 : decode cX9_count 81 = .ok (.iaload, 1) := by decide +kernel
theorem dX9_count_82 : decode cX9_count 82 = .ok (.ireturn, 1) := by decide +kernel
theorem dX9_count_83 : decode cX9_count 83 = .ok (.aload_n 0, 1) := by decide +kernel
theorem dX9_count_84 : decode cX9_count 84 = .ok (.getfield 7, 3) := by decide +kernel
theorem dX9_count_87 : decode cX9_count 87 = .ok (.sipush 281, 3) := by decide +kernel
theorem dX9_count_90 : decode cX9_count 90 = .ok (.iaload, 1) := by decide +kernel
theorem dX9_count_91 : decode cX9_count 91 = .ok (.ireturn, 1) := by decide +kernel
theorem dX9_count_92 : decode cX9_count 92 = .ok (.aload_n 0, 1) := by decide +kernel
theorem dX9_count_93 : decode cX9_count 93 = .ok (.getfield 136, 3) := by decide +kernel
theorem dX9_count_96 : decode cX9_count 96 = .ok (.ireturn, 1) := by decide +kernel
theorem dX9_count_97 : decode cX9_count 97 = .ok (.aload_n 0, 1) := by decide +kernel
theorem dX9_count_98 : decode cX9_count 98 = .ok (.getfield 73, 3) := by decide +kernel
theorem dX9_count_101 : decode cX9_count 101 = .ok (.ireturn, 1) := by decide +kernel
theorem dX9_count_102 : decode cX9_count 102 = .ok (.aload_n 0, 1) := by decide +kernel
theorem dX9_count_103 : decode cX9_count 103 = .ok (.getfield 54, 3) := by decide +kernel
theorem dX9_count_106 : decode cX9_count 106 = .ok (.ireturn, 1) := by decide +kernel
theorem dX9_count_107 : decode cX9_count 107 = .ok (.aload_n 0, 1) := by decide +kernel
theorem dX9_count_108 : decode cX9_count 108 = .ok (.getfield 7, 3) := by decide +kernel
theorem dX9_count_111 : decode cX9_count 111 = .ok (.sipush 244, 3) := by decide +kernel
theorem dX9_count_114 : decode cX9_count 114 = .ok (.iaload, 1) := by decide +kernel
theorem dX9_count_115 : decode cX9_count 115 = .ok (.ireturn, 1) := by decide +kernel
theorem dX9_count_116 : decode cX9_count 116 = .ok (.ldc 234, 2) := by decide +kernel
theorem dX9_count_118 : decode cX9_count 118 = .ok (.ireturn, 1) := by decide +kernel
