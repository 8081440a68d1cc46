theorem dX5_init_0 : decode cX5_init 0 = .ok (.aload_n 0, 1) := by decide +kernel
theorem dX5_init_1 : decode cX5_init 1 = .ok (.invokespecial 3, 3) := by decide +kernel
theorem dX5_init_4 : decode cX5_init 4 = .ok (.aload_n 0, 1) := by decide +kernel
theorem dX5_init_5 : decode cX5_init 5 = .ok (.bipush 6, 2) := by decide +kernel
theorem dX5_init_7 : decode cX5_init 7 = .ok (.newarray .int, 2) := by decide +kernel
theorem dX5_init_9 : decode cX5_init 9 = .ok (.putfield 9, 3) := by decide +kernel
theorem dX5_init_12 : decode cX5_init 12 = .ok (.aload_n 0, 1) := by decide +kernel
theorem dX5_init_13 : decode cX5_init 13 = .ok (.bipush 6, 2) := by decide +kernel
theorem dX5_init_15 : decode cX5_init 15 = .ok (.newarray .int, 2) := by decide +kernel
theorem dX5_init_17 : decode cX5_init 17 = .ok (.putfield 15, 3) := by decide +kernel
theorem dX5_init_20 : decode cX5_init 20 = .ok (.return_, 1) := by decide +kernel
theorem dX5_add_0 : decode cX5_add 0 = .ok (.aload_n 0, 1) := by decide +kernel
theorem dX5_add_1 : decode cX5_add 1 = .ok (.getfield 18, 3) := by decide +kernel
theorem dX5_add_4 : decode cX5_add 4 = .ok (.bipush 6, 2) := by decide +kernel
theorem dX5_add_6 : decode cX5_add 6 = .ok (.if_icmp .lt 5, 3) := by decide +kernel
theorem dX5_add_9 : decode cX5_add 9 = .ok (.iconst 0, 1) := by decide +kernel
theorem dX5_add_10 : decode cX5_add 10 = .ok (.ireturn, 1) := by decide +kernel
theorem dX5_add_11 : decode cX5_add 11 = .ok (.aload_n 0, 1) := by decide +kernel
theorem dX5_add_12 : decode cX5_add 12 = .ok (.getfield 9, 3) := by decide +kernel
theorem dX5_add_15 : decode cX5_add 15 = .ok (.aload_n 0, 1) := by decide +kernel
theorem dX5_add_16 : decode cX5_add 16 = .ok (.getfield 18, 3) := by decide +kernel
theorem dX5_add_19 : decode cX5_add 19 = .ok (.iload_n 1, 1) := by decide +kernel
theorem dX5_add_20 : decode cX5_add 20 = .ok (.iastore, 1) := by decide +kernel
theorem dX5_add_21 : decode cX5_add 21 = .ok (.aload_n 0, 1) := by decide +kernel
theorem dX5_add_22 : decode cX5_add 22 = .ok (.getfield 15, 3) := by decide +kernel
theorem dX5_add_25 : decode cX5_add 25 = .ok (.aload_n 0, 1) := by decide +kernel
theorem dX5_add_26 : decode cX5_add 26 = .ok (.getfield 18, 3) := by decide +kernel
theorem dX5_add_29 : decode cX5_add 29 = .ok (.iload_n 2, 1) := by decide +kernel
theorem dX5_add_30 : decode cX5_add 30 = .ok (.iastore, 1) := by decide +kernel
theorem dX5_add_31 : decode cX5_add 31 = .ok (.aload_n 0, 1) := by decide +kernel
theorem dX5_add_32 : decode cX5_add 32 = .ok (.dup, 1) := by decide +kernel
theorem dX5_add_33 : decode cX5_add 33 = .ok (.getfield 18, 3) := by decide +kernel
theorem dX5_add_36 : decode cX5_add 36 = .ok (.iconst 1, 1) := by decide +kernel
theorem dX5_add_37 : decode cX5_add 37 = .ok (.iadd, 1) := by decide +kernel
theorem dX5_add_38 : decode cX5_add 38 = .ok (.putfield 18, 3) := by decide +kernel
theorem dX5_add_41 : decode cX5_add 41 = .ok (.iconst 1, 1) := by decide +kernel
theorem dX5_add_42 : decode cX5_add 42 = .ok (.ireturn, 1) := by decide +kernel
theorem dX5_allow_0 : decode cX5_allow 0 = .ok (.iconst 0, 1) := by decide +kernel
theorem dX5_allow_1 : decode cX5_allow 1 = .ok (.istore_n 2, 1) := by decide +kernel
theorem dX5_allow_2 : decode cX5_allow 2 = .ok (.iload_n 2, 1) := by decide +kernel
theorem dX5_allow_3 : decode cX5_allow 3 = .ok (.aload_n 0, 1) := by decide +kernel
theorem dX5_allow_4 : decode cX5_allow 4 = .ok (.getfield 18, 3) := by decide +kernel
theorem dX5_allow_7 : decode cX5_allow 7 = .ok (.if_icmp .ge 51, 3) := by decide +kernel
theorem dX5_allow_10 : decode cX5_allow 10 = .ok (.iload_n 2, 1) := by decide +kernel
theorem dX5_allow_11 : decode cX5_allow 11 = .ok (.bipush 6, 2) := by decide +kernel
theorem dX5_allow_13 : decode cX5_allow 13 = .ok (.if_icmp .ge 45, 3) := by decide +kernel
theorem dX5_allow_16 : decode cX5_allow 16 = .ok (.aload_n 0, 1) := by decide +kernel
theorem dX5_allow_17 : decode cX5_allow 17 = .ok (.getfield 9, 3) := by decide +kernel
theorem dX5_allow_20 : decode cX5_allow 20 = .ok (.iload_n 2, 1) := by decide +kernel
theorem dX5_allow_21 : decode cX5_allow 21 = .ok (.iaload, 1) := by decide +kernel
theorem dX5_allow_22 : decode cX5_allow 22 = .ok (.iload_n 1, 1) := by decide +kernel
theorem dX5_allow_23 : decode cX5_allow 23 = .ok (.invokestatic 22, 3) := by decide +kernel
theorem dX5_allow_26 : decode cX5_allow 26 = .ok (.istore_n 3, 1) := by decide +kernel
theorem dX5_allow_27 : decode cX5_allow 27 = .ok (.aload_n 0, 1) := by decide +kernel
theorem dX5_allow_28 : decode cX5_allow 28 = .ok (.getfield 15, 3) := by decide +kernel
theorem dX5_allow_31 : decode cX5_allow 31 = .ok (.iload_n 2, 1) := by decide +kernel
theorem dX5_allow_32 : decode cX5_allow 32 = .ok (.iaload, 1) := by decide +kernel
theorem dX5_allow_33 : decode cX5_allow 33 = .ok (.iconst 1, 1) := by decide +kernel
theorem dX5_allow_34 : decode cX5_allow 34 = .ok (.if_icmp .ne 10, 3) := by decide +kernel
theorem dX5_allow_37 : decode cX5_allow 37 = .ok (.iload_n 3, 1) := by decide +kernel
theorem dX5_allow_38 : decode cX5_allow 38 = .ok (.ifCond .ne 14, 3) := by decide +kernel
theorem dX5_allow_41 : decode cX5_allow 41 = .ok (.goto 9, 3) := by decide +kernel
theorem dX5_allow_44 : decode cX5_allow 44 = .ok (.iload_n 3, 1) := by decide +kernel
theorem dX5_allow_45 : decode cX5_allow 45 = .ok (.bipush 10, 2) := by decide +kernel
theorem dX5_allow_47 : decode cX5_allow 47 = .ok (.if_icmp .ne 5, 3) := by decide +kernel
theorem dX5_allow_50 : decode cX5_allow 50 = .ok (.iconst 0, 1) := by decide +kernel
theorem dX5_allow_51 : decode cX5_allow 51 = .ok (.ireturn, 1) := by decide +kernel
theorem dX5_allow_52 : decode cX5_allow 52 = .ok (.iinc 2 1, 3) := by decide +kernel
theorem dX5_allow_55 : decode cX5_allow 55 = .ok (.goto (-53), 3) := by decide +kernel
theorem dX5_allow_58 : decode cX5_allow 58 = .ok (.iconst 1, 1) := by decide +kernel
theorem dX5_allow_59 : decode cX5_allow 59 = .ok (.ireturn, 1) := by decide +kernel
theorem dX6_init_0 : decode cX6_init 0 = .ok (.aload_n 0, 1) := by decide +kernel
theorem dX6_init_1 : decode cX6_init 1 = .ok (.invokespecial 3, 3) := by decide +kernel
theorem dX6_init_4 : decode cX6_init 4 = .ok (.aload_n 0, 1) := by decide +kernel
theorem dX6_init_5 : decode cX6_init 5 = .ok (.iconst 4, 1) := by decide +kernel
theorem dX6_init_6 : decode cX6_init 6 = .ok (.newarray .int, 2) := by decide +kernel
theorem dX6_init_8 : decode cX6_init 8 = .ok (.putfield 9, 3) := by decide +kernel
theorem dX6_init_11 : decode cX6_init 11 = .ok (.aload_n 0, 1) := by decide +kernel
theorem dX6_init_12 : decode cX6_init 12 = .ok (.iconst 4, 1) := by decide +kernel
theorem dX6_init_13 : decode cX6_init 13 = .ok (.newarray .int, 2) := by decide +kernel
theorem dX6_init_15 : decode cX6_init 15 = .ok (.putfield 15, 3) := by decide +kernel
theorem dX6_init_18 : decode cX6_init 18 = .ok (.aload_n 0, 1) := by decide +kernel
theorem dX6_init_19 : decode cX6_init 19 = .ok (.iconst 4, 1) := by decide +kernel
theorem dX6_init_20 : decode cX6_init 20 = .ok (.newarray .int, 2) := by decide +kernel
theorem dX6_init_22 : decode cX6_init 22 = .ok (.putfield 18, 3) := by decide +kernel
theorem dX6_init_25 : decode cX6_init 25 = .ok (.aload_n 0, 1) := by decide +kernel
theorem dX6_init_26 : decode cX6_init 26 = .ok (.iconst 5, 1) := by decide +kernel
theorem dX6_init_27 : decode cX6_init 27 = .ok (.newarray .int, 2) := by decide +kernel
theorem dX6_init_29 : decode cX6_init 29 = .ok (.putfield 21, 3) := by decide +kernel
theorem dX6_init_32 : decode cX6_init 32 = .ok (.aload_n 0, 1) := by decide +kernel
theorem dX6_init_33 : decode cX6_init 33 = .ok (.invokevirtual 24, 3) := by decide +kernel
theorem dX6_init_36 : decode cX6_init 36 = .ok (.return_, 1) := by decide +kernel
theorem dX6_begin_0 : decode cX6_begin 0 = .ok (.aload_n 0, 1) := by decide +kernel
theorem dX6_begin_1 : decode cX6_begin 1 = .ok (.iconst 0, 1) := by decide +kernel
theorem dX6_begin_2 : decode cX6_begin 2 = .ok (.putfield 27, 3) := by decide +kernel
theorem dX6_begin_5 : decode cX6_begin 5 = .ok (.getstatic 31, 3) := by decide +kernel
theorem dX6_begin_8 : decode cX6_begin 8 = .ok (.iconst 0, 1) := by decide +kernel
theorem dX6_begin_9 : decode cX6_begin 9 = .ok (.aload_n 0, 1) := by decide +kernel
theorem dX6_begin_10 : decode cX6_begin 10 = .ok (.getfield 21, 3) := by decide +kernel
theorem dX6_begin_13 : decode cX6_begin 13 = .ok (.iconst 0, 1) := by decide +kernel
theorem dX6_begin_14 : decode cX6_begin 14 = .ok (.iconst 5, 1) := by decide +kernel
theorem dX6_begin_15 : decode cX6_begin 15 = .ok (.invokestatic 34, 3) := by decide +kernel
theorem dX6_begin_18 : decode cX6_begin 18 = .ok (.return_, 1) := by decide +kernel
theorem dX6_copyFrom_0 : decode cX6_copyFrom 0 = .ok (.aload_n 0, 1) := by decide +kernel
theorem dX6_copyFrom_1 : decode cX6_copyFrom 1 = .ok (.aload_n 1, 1) := by decide +kernel
theorem dX6_copyFrom_2 : decode cX6_copyFrom 2 = .ok (.getfield 27, 3) := by decide +kernel
theorem dX6_copyFrom_5 : decode cX6_copyFrom 5 = .ok (.putfield 27, 3) := by decide +kernel
theorem dX6_copyFrom_8 : decode cX6_copyFrom 8 = .ok (.aload_n 1, 1) := by decide +kernel
theorem dX6_copyFrom_9 : decode cX6_copyFrom 9 = .ok (.getfield 9, 3) := by decide +kernel
theorem dX6_copyFrom_12 : decode cX6_copyFrom 12 = .ok (.iconst 0, 1) := by decide +kernel
theorem dX6_copyFrom_13 : decode cX6_copyFrom 13 = .ok (.aload_n 0, 1) := by decide +kernel
theorem dX6_copyFrom_14 : decode cX6_copyFrom 14 = .ok (.getfield 9, 3) := by decide +kernel
theorem dX6_copyFrom_17 : decode cX6_copyFrom 17 = .ok (.iconst 0, 1) := by decide +kernel
theorem dX6_copyFrom_18 : decode cX6_copyFrom 18 = .ok (.iconst 4, 1) := by decide +kernel
theorem dX6_copyFrom_19 : decode cX6_copyFrom 19 = .ok (.invokestatic 34, 3) := by decide +kernel
theorem dX6_copyFrom_22 : decode cX6_copyFrom 22 = .ok (.aload_n 1, 1) := by decide +kernel
theorem dX6_copyFrom_23 : decode cX6_copyFrom 23 = .ok (.getfield 15, 3) := by decide +kernel
theorem dX6_copyFrom_26 : decode cX6_copyFrom 26 = .ok (.iconst 0, 1) := by decide +kernel
theorem dX6_copyFrom_27 : decode cX6_copyFrom 27 = .ok (.aload_n 0, 1) := by decide +kernel
theorem dX6_copyFrom_28 : decode cX6_copyFrom 28 = .ok (.getfield 15, 3) := by decide +kernel
theorem dX6_copyFrom_31 : decode cX6_copyFrom 31 = .ok (.iconst 0, 1) := by decide +kernel
theorem dX6_copyFrom_32 : decode cX6_copyFrom 32 = .ok (.iconst 4, 1) := by decide +kernel
theorem dX6_copyFrom_33 : decode cX6_copyFrom 33 = .ok (.invokestatic 34, 3) := by decide +kernel
theorem dX6_copyFrom_36 : decode cX6_copyFrom 36 = .ok (.aload_n 1, 1) := by decide +kernel
theorem dX6_copyFrom_37 : decode cX6_copyFrom 37 = .ok (.getfield 18, 3) := by decide +kernel
theorem dX6_copyFrom_40 : decode cX6_copyFrom 40 = .ok (.iconst 0, 1) := by decide +kernel
theorem dX6_copyFrom_41 : decode cX6_copyFrom 41 = .ok (.aload_n 0, 1) := by decide +kernel
theorem dX6_copyFrom_42 : decode cX6_copyFrom 42 = .ok (.getfield 18, 3) := by decide +kernel
theorem dX6_copyFrom_45 : decode cX6_copyFrom 45 = .ok (.iconst 0, 1) := by decide +kernel
theorem dX6_copyFrom_46 : decode cX6_copyFrom 46 = .ok (.iconst 4, 1) := by decide +kernel
theorem dX6_copyFrom_47 : decode cX6_copyFrom 47 = .ok (.invokestatic 34, 3) := by decide +kernel
theorem dX6_copyFrom_50 : decode cX6_copyFrom 50 = .ok (.aload_n 1, 1) := by decide +kernel
theorem dX6_copyFrom_51 : decode cX6_copyFrom 51 = .ok (.getfield 21, 3) := by decide +kernel
theorem dX6_copyFrom_54 : decode cX6_copyFrom 54 = .ok (.iconst 0, 1) := by decide +kernel
theorem dX6_copyFrom_55 : decode cX6_copyFrom 55 = .ok (.aload_n 0, 1) := by decide +kernel
theorem dX6_copyFrom_56 : decode cX6_copyFrom 56 = .ok (.getfield 21, 3) := by decide +kernel
theorem dX6_copyFrom_59 : decode cX6_copyFrom 59 = .ok (.iconst 0, 1) := by decide +kernel
theorem dX6_copyFrom_60 : decode cX6_copyFrom 60 = .ok (.iconst 5, 1) := by decide +kernel
theorem dX6_copyFrom_61 : decode cX6_copyFrom 61 = .ok (.invokestatic 34, 3) := by decide +kernel
theorem dX6_copyFrom_64 : decode cX6_copyFrom 64 = .ok (.return_, 1) := by decide +kernel
theorem dX6_has_0 : decode cX6_has 0 = .ok (.iload_n 1, 1) := by decide +kernel
theorem dX6_has_1 : decode cX6_has 1 = .ok (.ifCond .lt 20, 3) := by decide +kernel
theorem dX6_has_4 : decode cX6_has 4 = .ok (.iload_n 1, 1) := by decide +kernel
theorem dX6_has_5 : decode cX6_has 5 = .ok (.aload_n 0, 1) := by decide +kernel
theorem dX6_has_6 : decode cX6_has 6 = .ok (.getfield 27, 3) := by decide +kernel
theorem dX6_has_9 : decode cX6_has 9 = .ok (.if_icmp .ge 12, 3) := by decide +kernel
theorem dX6_has_12 : decode cX6_has 12 = .ok (.iload_n 1, 1) := by decide +kernel
theorem dX6_has_13 : decode cX6_has 13 = .ok (.iconst 4, 1) := by decide +kernel
theorem dX6_has_14 : decode cX6_has 14 = .ok (.if_icmp .ge 7, 3) := by decide +kernel
theorem dX6_has_17 : decode cX6_has 17 = .ok (.iconst 1, 1) := by decide +kernel
theorem dX6_has_18 : decode cX6_has 18 = .ok (.goto 4, 3) := by decide +kernel
theorem dX6_has_21 : decode cX6_has 21 = .ok (.iconst 0, 1) := by decide +kernel
theorem dX6_has_22 : decode cX6_has 22 = .ok (.ireturn, 1) := by decide +kernel
theorem dX6_mostGuard_0 : decode cX6_mostGuard 0 = .ok (.bipush 10, 2) := by decide +kernel
theorem dX6_mostGuard_2 : decode cX6_mostGuard 2 = .ok (.aload_n 0, 1) := by decide +kernel
theorem dX6_mostGuard_3 : decode cX6_mostGuard 3 = .ok (.getfield 9, 3) := by decide +kernel
theorem dX6_mostGuard_6 : decode cX6_mostGuard 6 = .ok (.iload_n 1, 1) := by decide +kernel
theorem dX6_mostGuard_7 : decode cX6_mostGuard 7 = .ok (.iaload, 1) := by decide +kernel
theorem dX6_mostGuard_8 : decode cX6_mostGuard 8 = .ok (.imul, 1) := by decide +kernel
theorem dX6_mostGuard_9 : decode cX6_mostGuard 9 = .ok (.ireturn, 1) := by decide +kernel
theorem dX7_init_0 : decode cX7_init 0 = .ok (.aload_n 0, 1) := by decide +kernel
theorem dX7_init_1 : decode cX7_init 1 = .ok (.invokespecial 3, 3) := by decide +kernel
theorem dX7_init_4 : decode cX7_init 4 = .ok (.aload_n 0, 1) := by decide +kernel
theorem dX7_init_5 : decode cX7_init 5 = .ok (.iconst 4, 1) := by decide +kernel
theorem dX7_init_6 : decode cX7_init 6 = .ok (.newarray .int, 2) := by decide +kernel
theorem dX7_init_8 : decode cX7_init 8 = .ok (.putfield 9, 3) := by decide +kernel
theorem dX7_init_11 : decode cX7_init 11 = .ok (.aload_n 0, 1) := by decide +kernel
theorem dX7_init_12 : decode cX7_init 12 = .ok (.bipush 24, 2) := by decide +kernel
theorem dX7_init_14 : decode cX7_init 14 = .ok (.newarray .int, 2) := by decide +kernel
theorem dX7_init_16 : decode cX7_init 16 = .ok (.putfield 15, 3) := by decide +kernel
theorem dX7_init_19 : decode cX7_init 19 = .ok (.aload_n 0, 1) := by decide +kernel
theorem dX7_init_20 : decode cX7_init 20 = .ok (.bipush 12, 2) := by decide +kernel
theorem dX7_init_22 : decode cX7_init 22 = .ok (.newarray .int, 2) := by decide +kernel
theorem dX7_init_24 : decode cX7_init 24 = .ok (.putfield 18, 3) := by decide +kernel
theorem dX7_init_27 : decode cX7_init 27 = .ok (.aload_n 0, 1) := by decide +kernel
theorem dX7_init_28 : decode cX7_init 28 = .ok (.bipush 12, 2) := by decide +kernel
theorem dX7_init_30 : decode cX7_init 30 = .ok (.newarray .int, 2) := by decide +kernel
theorem dX7_init_32 : decode cX7_init 32 = .ok (.putfield 21, 3) := by decide +kernel
theorem dX7_init_35 : decode cX7_init 35 = .ok (.aload_n 0, 1) := by decide +kernel
theorem dX7_init_36 : decode cX7_init 36 = .ok (.bipush 12, 2) := by decide +kernel
theorem dX7_init_38 : decode cX7_init 38 = .ok (.newarray .int, 2) := by decide +kernel
theorem dX7_init_40 : decode cX7_init 40 = .ok (.putfield 24, 3) := by decide +kernel
theorem dX7_init_43 : decode cX7_init 43 = .ok (.aload_n 0, 1) := by decide +kernel
theorem dX7_init_44 : decode cX7_init 44 = .ok (.bipush 12, 2) := by decide +kernel
theorem dX7_init_46 : decode cX7_init 46 = .ok (.newarray .int, 2) := by decide +kernel
theorem dX7_init_48 : decode cX7_init 48 = .ok (.putfield 27, 3) := by decide +kernel
theorem dX7_init_51 : decode cX7_init 51 = .ok (.aload_n 0, 1) := by decide +kernel
theorem dX7_init_52 : decode cX7_init 52 = .ok (.bipush 12, 2) := by decide +kernel
theorem dX7_init_54 : decode cX7_init 54 = .ok (.newarray .int, 2) := by decide +kernel
theorem dX7_init_56 : decode cX7_init 56 = .ok (.putfield 30, 3) := by decide +kernel
theorem dX7_init_59 : decode cX7_init 59 = .ok (.aload_n 0, 1) := by decide +kernel
theorem dX7_init_60 : decode cX7_init 60 = .ok (.bipush 12, 2) := by decide +kernel
theorem dX7_init_62 : decode cX7_init 62 = .ok (.newarray .int, 2) := by decide +kernel
theorem dX7_init_64 : decode cX7_init 64 = .ok (.putfield 33, 3) := by decide +kernel
theorem dX7_init_67 : decode cX7_init 67 = .ok (.aload_n 0, 1) := by decide +kernel
theorem dX7_init_68 : decode cX7_init 68 = .ok (.bipush 12, 2) := by decide +kernel
theorem dX7_init_70 : decode cX7_init 70 = .ok (.newarray .int, 2) := by decide +kernel
theorem dX7_init_72 : decode cX7_init 72 = .ok (.putfield 36, 3) := by decide +kernel
theorem dX7_init_75 : decode cX7_init 75 = .ok (.aload_n 0, 1) := by decide +kernel
theorem dX7_init_76 : decode cX7_init 76 = .ok (.bipush 12, 2) := by decide +kernel
theorem dX7_init_78 : decode cX7_init 78 = .ok (.newarray .int, 2) := by decide +kernel
theorem dX7_init_80 : decode cX7_init 80 = .ok (.putfield 39, 3) := by decide +kernel
theorem dX7_init_83 : decode cX7_init 83 = .ok (.aload_n 0, 1) := by decide +kernel
theorem dX7_init_84 : decode cX7_init 84 = .ok (.bipush 12, 2) := by decide +kernel
theorem dX7_init_86 : decode cX7_init 86 = .ok (.newarray .int, 2) := by decide +kernel
theorem dX7_init_88 : decode cX7_init 88 = .ok (.putfield 42, 3) := by decide +kernel
theorem dX7_init_91 : decode cX7_init 91 = .ok (.aload_n 0, 1) := by decide +kernel
theorem dX7_init_92 : decode cX7_init 92 = .ok (.bipush 48, 2) := by decide +kernel
theorem dX7_init_94 : decode cX7_init 94 = .ok (.newarray .int, 2) := by decide +kernel
theorem dX7_init_96 : decode cX7_init 96 = .ok (.putfield 45, 3) := by decide +kernel
theorem dX7_init_99 : decode cX7_init 99 = .ok (.aload_n 0, 1) := by decide +kernel
theorem dX7_init_100 : decode cX7_init 100 = .ok (.bipush 48, 2) := by decide +kernel
theorem dX7_init_102 : decode cX7_init 102 = .ok (.newarray .int, 2) := by decide +kernel
theorem dX7_init_104 : decode cX7_init 104 = .ok (.putfield 48, 3) := by decide +kernel
theorem dX7_init_107 : decode cX7_init 107 = .ok (.aload_n 0, 1) := by decide +kernel
theorem dX7_init_108 : decode cX7_init 108 = .ok (.bipush 12, 2) := by decide +kernel
theorem dX7_init_110 : decode cX7_init 110 = .ok (.newarray .int, 2) := by decide +kernel
theorem dX7_init_112 : decode cX7_init 112 = .ok (.putfield 51, 3) := by decide +kernel
theorem dX7_init_115 : decode cX7_init 115 = .ok (.aload_n 0, 1) := by decide +kernel
theorem dX7_init_116 : decode cX7_init 116 = .ok (.bipush 12, 2) := by decide +kernel
theorem dX7_init_118 : decode cX7_init 118 = .ok (.newarray .int, 2) := by decide +kernel
theorem dX7_init_120 : decode cX7_init 120 = .ok (.putfield 54, 3) := by decide +kernel
theorem dX7_init_123 : decode cX7_init 123 = .ok (.aload_n 0, 1) := by decide +kernel
theorem dX7_init_124 : decode cX7_init 124 = .ok (.bipush 12, 2) := by decide +kernel
theorem dX7_init_126 : decode cX7_init 126 = .ok (.newarray .int, 2) := by decide +kernel
theorem dX7_init_128 : decode cX7_init 128 = .ok (.putfield 57, 3) := by decide +kernel
theorem dX7_init_131 : decode cX7_init 131 = .ok (.aload_n 0, 1) := by decide +kernel
theorem dX7_init_132 : decode cX7_init 132 = .ok (.invokevirtual 60, 3) := by decide +kernel
theorem dX7_init_135 : decode cX7_init 135 = .ok (.return_, 1) := by decide +kernel
theorem dX7_begin_0 : decode cX7_begin 0 = .ok (.aload_n 0, 1) := by decide +kernel
theorem dX7_begin_1 : decode cX7_begin 1 = .ok (.iconst 0, 1) := by decide +kernel
theorem dX7_begin_2 : decode cX7_begin 2 = .ok (.putfield 63, 3) := by decide +kernel
theorem dX7_begin_5 : decode cX7_begin 5 = .ok (.aload_n 0, 1) := by decide +kernel
theorem dX7_begin_6 : decode cX7_begin 6 = .ok (.iconst 0, 1) := by decide +kernel
theorem dX7_begin_7 : decode cX7_begin 7 = .ok (.putfield 67, 3) := by decide +kernel
theorem dX7_begin_10 : decode cX7_begin 10 = .ok (.aload_n 0, 1) := by decide +kernel
theorem dX7_begin_11 : decode cX7_begin 11 = .ok (.iconst 0, 1) := by decide +kernel
theorem dX7_begin_12 : decode cX7_begin 12 = .ok (.putfield 70, 3) := by decide +kernel
theorem dX7_begin_15 : decode cX7_begin 15 = .ok (.aload_n 1, 1) := by decide +kernel
theorem dX7_begin_16 : decode cX7_begin 16 = .ok (.getfield 73, 3) := by decide +kernel
theorem dX7_begin_19 : decode cX7_begin 19 = .ok (.iconst 0, 1) := by decide +kernel
theorem dX7_begin_20 : decode cX7_begin 20 = .ok (.aload_n 0, 1) := by decide +kernel
theorem dX7_begin_21 : decode cX7_begin 21 = .ok (.getfield 9, 3) := by decide +kernel
theorem dX7_begin_24 : decode cX7_begin 24 = .ok (.iconst 0, 1) := by decide +kernel
theorem dX7_begin_25 : decode cX7_begin 25 = .ok (.iconst 4, 1) := by decide +kernel
theorem dX7_begin_26 : decode cX7_begin 26 = .ok (.invokestatic 76, 3) := by decide +kernel
theorem dX7_begin_29 : decode cX7_begin 29 = .ok (.aload_n 0, 1) := by decide +kernel
theorem dX7_begin_30 : decode cX7_begin 30 = .ok (.getfield 15, 3) := by decide +kernel
theorem dX7_begin_33 : decode cX7_begin 33 = .ok (.iconst 0, 1) := by decide +kernel
theorem dX7_begin_34 : decode cX7_begin 34 = .ok (.invokestatic 82, 3) := by decide +kernel
theorem dX7_begin_37 : decode cX7_begin 37 = .ok (.aload_n 0, 1) := by decide +kernel
theorem dX7_begin_38 : decode cX7_begin 38 = .ok (.invokevirtual 60, 3) := by decide +kernel
theorem dX7_begin_41 : decode cX7_begin 41 = .ok (.return_, 1) := by decide +kernel
theorem dX7_clearCalls_0 : decode cX7_clearCalls 0 = .ok (.aload_n 0, 1) := by decide +kernel
theorem dX7_clearCalls_1 : decode cX7_clearCalls 1 = .ok (.getfield 18, 3) := by decide +kernel
theorem dX7_clearCalls_4 : decode cX7_clearCalls 4 = .ok (.bipush (-9), 2) := by decide +kernel
theorem dX7_clearCalls_6 : decode cX7_clearCalls 6 = .ok (.invokestatic 82, 3) := by decide +kernel
theorem dX7_clearCalls_9 : decode cX7_clearCalls 9 = .ok (.aload_n 0, 1) := by decide +kernel
theorem dX7_clearCalls_10 : decode cX7_clearCalls 10 = .ok (.getfield 21, 3) := by decide +kernel
theorem dX7_clearCalls_13 : decode cX7_clearCalls 13 = .ok (.bipush (-9), 2) := by decide +kernel
theorem dX7_clearCalls_15 : decode cX7_clearCalls 15 = .ok (.invokestatic 82, 3) := by decide +kernel
theorem dX7_clearCalls_18 : decode cX7_clearCalls 18 = .ok (.return_, 1) := by decide +kernel
theorem dX7_copyFrom_0 : decode cX7_copyFrom 0 = .ok (.aload_n 0, 1) := by decide +kernel
theorem dX7_copyFrom_1 : decode cX7_copyFrom 1 = .ok (.aload_n 1, 1) := by decide +kernel
theorem dX7_copyFrom_2 : decode cX7_copyFrom 2 = .ok (.getfield 63, 3) := by decide +kernel
theorem dX7_copyFrom_5 : decode cX7_copyFrom 5 = .ok (.putfield 63, 3) := by decide +kernel
theorem dX7_copyFrom_8 : decode cX7_copyFrom 8 = .ok (.aload_n 0, 1) := by decide +kernel
theorem dX7_copyFrom_9 : decode cX7_copyFrom 9 = .ok (.aload_n 1, 1) := by decide +kernel
theorem dX7_copyFrom_10 : decode cX7_copyFrom 10 = .ok (.getfield 67, 3) := by decide +kernel
theorem dX7_copyFrom_13 : decode cX7_copyFrom 13 = .ok (.putfield 67, 3) := by decide +kernel
theorem dX7_copyFrom_16 : decode cX7_copyFrom 16 = .ok (.aload_n 0, 1) := by decide +kernel
theorem dX7_copyFrom_17 : decode cX7_copyFrom 17 = .ok (.aload_n 1, 1) := by decide +kernel
theorem dX7_copyFrom_18 : decode cX7_copyFrom 18 = .ok (.getfield 70, 3) := by decide +kernel
theorem dX7_copyFrom_21 : decode cX7_copyFrom 21 = .ok (.putfield 70, 3) := by decide +kernel
theorem dX7_copyFrom_24 : decode cX7_copyFrom 24 = .ok (.aload_n 1, 1) := by decide +kernel
theorem dX7_copyFrom_25 : decode cX7_copyFrom 25 = .ok (.getfield 9, 3) := by decide +kernel
theorem dX7_copyFrom_28 : decode cX7_copyFrom 28 = .ok (.iconst 0, 1) := by decide +kernel
theorem dX7_copyFrom_29 : decode cX7_copyFrom 29 = .ok (.aload_n 0, 1) := by decide +kernel
theorem dX7_copyFrom_30 : decode cX7_copyFrom 30 = .ok (.getfield 9, 3) := by decide +kernel
theorem dX7_copyFrom_33 : decode cX7_copyFrom 33 = .ok (.iconst 0, 1) := by decide +kernel
theorem dX7_copyFrom_34 : decode cX7_copyFrom 34 = .ok (.iconst 4, 1) := by decide +kernel
theorem dX7_copyFrom_35 : decode cX7_copyFrom 35 = .ok (.invokestatic 76, 3) := by decide +kernel
theorem dX7_copyFrom_38 : decode cX7_copyFrom 38 = .ok (.aload_n 1, 1) := by decide +kernel
theorem dX7_copyFrom_39 : decode cX7_copyFrom 39 = .ok (.getfield 15, 3) := by decide +kernel
theorem dX7_copyFrom_42 : decode cX7_copyFrom 42 = .ok (.iconst 0, 1) := by decide +kernel
theorem dX7_copyFrom_43 : decode cX7_copyFrom 43 = .ok (.aload_n 0, 1) := by decide +kernel
theorem dX7_copyFrom_44 : decode cX7_copyFrom 44 = .ok (.getfield 15, 3) := by decide +kernel
theorem dX7_copyFrom_47 : decode cX7_copyFrom 47 = .ok (.iconst 0, 1) := by decide +kernel
theorem dX7_copyFrom_48 : decode cX7_copyFrom 48 = .ok (.bipush 24, 2) := by decide +kernel
theorem dX7_copyFrom_50 : decode cX7_copyFrom 50 = .ok (.invokestatic 76, 3) := by decide +kernel
theorem dX7_copyFrom_53 : decode cX7_copyFrom 53 = .ok (.aload_n 1, 1) := by decide +kernel
theorem dX7_copyFrom_54 : decode cX7_copyFrom 54 = .ok (.getfield 18, 3) := by decide +kernel
theorem dX7_copyFrom_57 : decode cX7_copyFrom 57 = .ok (.iconst 0, 1) := by decide +kernel
theorem dX7_copyFrom_58 : decode cX7_copyFrom 58 = .ok (.aload_n 0, 1) := by decide +kernel
theorem dX7_copyFrom_59 : decode cX7_copyFrom 59 = .ok (.getfield 18, 3) := by decide +kernel
theorem dX7_copyFrom_62 : decode cX7_copyFrom 62 = .ok (.iconst 0, 1) := by decide +kernel
theorem dX7_copyFrom_63 : decode cX7_copyFrom 63 = .ok (.bipush 12, 2) := by decide +kernel
theorem dX7_copyFrom_65 : decode cX7_copyFrom 65 = .ok (.invokestatic 76, 3) := by decide +kernel
theorem dX7_copyFrom_68 : decode cX7_copyFrom 68 = .ok (.aload_n 1, 1) := by decide +kernel
theorem dX7_copyFrom_69 : decode cX7_copyFrom 69 = .ok (.getfield 21, 3) := by decide +kernel
theorem dX7_copyFrom_72 : decode cX7_copyFrom 72 = .ok (.iconst 0, 1) := by decide +kernel
theorem dX7_copyFrom_73 : decode cX7_copyFrom 73 = .ok (.aload_n 0, 1) := by decide +kernel
theorem dX7_copyFrom_74 : decode cX7_copyFrom 74 = .ok (.getfield 21, 3) := by decide +kernel
theorem dX7_copyFrom_77 : decode cX7_copyFrom 77 = .ok (.iconst 0, 1) := by decide +kernel
theorem dX7_copyFrom_78 : decode cX7_copyFrom 78 = .ok (.bipush 12, 2) := by decide +kernel
theorem dX7_copyFrom_80 : decode cX7_copyFrom 80 = .ok (.invokestatic 76, 3) := by decide +kernel
theorem dX7_copyFrom_83 : decode cX7_copyFrom 83 = .ok (.aload_n 1, 1) := by decide +kernel
theorem dX7_copyFrom_84 : decode cX7_copyFrom 84 = .ok (.getfield 24, 3) := by decide +kernel
theorem dX7_copyFrom_87 : decode cX7_copyFrom 87 = .ok (.iconst 0, 1) := by decide +kernel
theorem dX7_copyFrom_88 : decode cX7_copyFrom 88 = .ok (.aload_n 0, 1) := by decide +kernel
theorem dX7_copyFrom_89 : decode cX7_copyFrom 89 = .ok (.getfield 24, 3) := by decide +kernel
theorem dX7_copyFrom_92 : decode cX7_copyFrom 92 = .ok (.iconst 0, 1) := by decide +kernel
theorem dX7_copyFrom_93 : decode cX7_copyFrom 93 = .ok (.bipush 12, 2) := by decide +kernel
theorem dX7_copyFrom_95 : decode cX7_copyFrom 95 = .ok (.invokestatic 76, 3) := by decide +kernel
theorem dX7_copyFrom_98 : decode cX7_copyFrom 98 = .ok (.aload_n 1, 1) := by decide +kernel
theorem dX7_copyFrom_99 : decode cX7_copyFrom 99 = .ok (.getfield 27, 3) := by decide +kernel
theorem dX7_copyFrom_102 : decode cX7_copyFrom 102 = .ok (.iconst 0, 1) := by decide +kernel
theorem dX7_copyFrom_103 : decode cX7_copyFrom 103 = .ok (.aload_n 0, 1) := by decide +kernel
theorem dX7_copyFrom_104 : decode cX7_copyFrom 104 = .ok (.getfield 27, 3) := by decide +kernel
theorem dX7_copyFrom_107 : decode cX7_copyFrom 107 = .ok (.iconst 0, 1) := by decide +kernel
theorem dX7_copyFrom_108 : decode cX7_copyFrom 108 = .ok (.bipush 12, 2) := by decide +kernel
theorem dX7_copyFrom_110 : decode cX7_copyFrom 110 = .ok (.invokestatic 76, 3) := by decide +kernel
theorem dX7_copyFrom_113 : decode cX7_copyFrom 113 = .ok (.aload_n 1, 1) := by decide +kernel
theorem dX7_copyFrom_114 : decode cX7_copyFrom 114 = .ok (.getfield 30, 3) := by decide +kernel
theorem dX7_copyFrom_117 : decode cX7_copyFrom 117 = .ok (.iconst 0, 1) := by decide +kernel
theorem dX7_copyFrom_118 : decode cX7_copyFrom 118 = .ok (.aload_n 0, 1) := by decide +kernel
theorem dX7_copyFrom_119 : decode cX7_copyFrom 119 = .ok (.getfield 30, 3) := by decide +kernel
theorem dX7_copyFrom_122 : decode cX7_copyFrom 122 = .ok (.iconst 0, 1) := by decide +kernel
theorem dX7_copyFrom_123 : decode cX7_copyFrom 123 = .ok (.bipush 12, 2) := by decide +kernel
theorem dX7_copyFrom_125 : decode cX7_copyFrom 125 = .ok (.invokestatic 76, 3) := by decide +kernel
theorem dX7_copyFrom_128 : decode cX7_copyFrom 128 = .ok (.aload_n 1, 1) := by decide +kernel
theorem dX7_copyFrom_129 : decode cX7_copyFrom 129 = .ok (.getfield 33, 3) := by decide +kernel
theorem dX7_copyFrom_132 : decode cX7_copyFrom 132 = .ok (.iconst 0, 1) := by decide +kernel
theorem dX7_copyFrom_133 : decode cX7_copyFrom 133 = .ok (.aload_n 0, 1) := by decide +kernel
theorem dX7_copyFrom_134 : decode cX7_copyFrom 134 = .ok (.getfield 33, 3) := by decide +kernel
theorem dX7_copyFrom_137 : decode cX7_copyFrom 137 = .ok (.iconst 0, 1) := by decide +kernel
theorem dX7_copyFrom_138 : decode cX7_copyFrom 138 = .ok (.bipush 12, 2) := by decide +kernel
theorem dX7_copyFrom_140 : decode cX7_copyFrom 140 = .ok (.invokestatic 76, 3) := by decide +kernel
theorem dX7_copyFrom_143 : decode cX7_copyFrom 143 = .ok (.aload_n 1, 1) := by decide +kernel
theorem dX7_copyFrom_144 : decode cX7_copyFrom 144 = .ok (.getfield 36, 3) := by decide +kernel
theorem dX7_copyFrom_147 : decode cX7_copyFrom 147 = .ok (.iconst 0, 1) := by decide +kernel
theorem dX7_copyFrom_148 : decode cX7_copyFrom 148 = .ok (.aload_n 0, 1) := by decide +kernel
theorem dX7_copyFrom_149 : decode cX7_copyFrom 149 = .ok (.getfield 36, 3) := by decide +kernel
theorem dX7_copyFrom_152 : decode cX7_copyFrom 152 = .ok (.iconst 0, 1) := by decide +kernel
theorem dX7_copyFrom_153 : decode cX7_copyFrom 153 = .ok (.bipush 12, 2) := by decide +kernel
theorem dX7_copyFrom_155 : decode cX7_copyFrom 155 = .ok (.invokestatic 76, 3) := by decide +kernel
theorem dX7_copyFrom_158 : decode cX7_copyFrom 158 = .ok (.aload_n 1, 1) := by decide +kernel
theorem dX7_copyFrom_159 : decode cX7_copyFrom 159 = .ok (.getfield 39, 3) := by decide +kernel
theorem dX7_copyFrom_162 : decode cX7_copyFrom 162 = .ok (.iconst 0, 1) := by decide +kernel
theorem dX7_copyFrom_163 : decode cX7_copyFrom 163 = .ok (.aload_n 0, 1) := by decide +kernel
theorem dX7_copyFrom_164 : decode cX7_copyFrom 164 = .ok (.getfield 39, 3) := by decide +kernel
theorem dX7_copyFrom_167 : decode cX7_copyFrom 167 = .ok (.iconst 0, 1) := by decide +kernel
theorem dX7_copyFrom_168 : decode cX7_copyFrom 168 = .ok (.bipush 12, 2) := by decide +kernel
theorem dX7_copyFrom_170 : decode cX7_copyFrom 170 = .ok (.invokestatic 76, 3) := by decide +kernel
theorem dX7_copyFrom_173 : decode cX7_copyFrom 173 = .ok (.aload_n 1, 1) := by decide +kernel
theorem dX7_copyFrom_174 : decode cX7_copyFrom 174 = .ok (.getfield 42, 3) := by decide +kernel
theorem dX7_copyFrom_177 : decode cX7_copyFrom 177 = .ok (.iconst 0, 1) := by decide +kernel
theorem dX7_copyFrom_178 : decode cX7_copyFrom 178 = .ok (.aload_n 0, 1) := by decide +kernel
theorem dX7_copyFrom_179 : decode cX7_copyFrom 179 = .ok (.getfield 42, 3) := by decide +kernel
theorem dX7_copyFrom_182 : decode cX7_copyFrom 182 = .ok (.iconst 0, 1) := by decide +kernel
theorem dX7_copyFrom_183 : decode cX7_copyFrom 183 = .ok (.bipush 12, 2) := by decide +kernel
theorem dX7_copyFrom_185 : decode cX7_copyFrom 185 = .ok (.invokestatic 76, 3) := by decide +kernel
theorem dX7_copyFrom_188 : decode cX7_copyFrom 188 = .ok (.aload_n 1, 1) := by decide +kernel
theorem dX7_copyFrom_189 : decode cX7_copyFrom 189 = .ok (.getfield 45, 3) := by decide +kernel
theorem dX7_copyFrom_192 : decode cX7_copyFrom 192 = .ok (.iconst 0, 1) := by decide +kernel
theorem dX7_copyFrom_193 : decode cX7_copyFrom 193 = .ok (.aload_n 0, 1) := by decide +kernel
theorem dX7_copyFrom_194 : decode cX7_copyFrom 194 = .ok (.getfield 45, 3) := by decide +kernel
theorem dX7_copyFrom_197 : decode cX7_copyFrom 197 = .ok (.iconst 0, 1) := by decide +kernel
theorem dX7_copyFrom_198 : decode cX7_copyFrom 198 = .ok (.bipush 48, 2) := by decide +kernel
theorem dX7_copyFrom_200 : decode cX7_copyFrom 200 = .ok (.invokestatic 76, 3) := by decide +kernel
theorem dX7_copyFrom_203 : decode cX7_copyFrom 203 = .ok (.aload_n 1, 1) := by decide +kernel
theorem dX7_copyFrom_204 : decode cX7_copyFrom 204 = .ok (.getfield 48, 3) := by decide +kernel
theorem dX7_copyFrom_207 : decode cX7_copyFrom 207 = .ok (.iconst 0, 1) := by decide +kernel
theorem dX7_copyFrom_208 : decode cX7_copyFrom 208 = .ok (.aload_n 0, 1) := by decide +kernel
theorem dX7_copyFrom_209 : decode cX7_copyFrom 209 = .ok (.getfield 48, 3) := by decide +kernel
theorem dX7_copyFrom_212 : decode cX7_copyFrom 212 = .ok (.iconst 0, 1) := by decide +kernel
theorem dX7_copyFrom_213 : decode cX7_copyFrom 213 = .ok (.bipush 48, 2) := by decide +kernel
theorem dX7_copyFrom_215 : decode cX7_copyFrom 215 = .ok (.invokestatic 76, 3) := by decide +kernel
theorem dX7_copyFrom_218 : decode cX7_copyFrom 218 = .ok (.aload_n 1, 1) := by decide +kernel
theorem dX7_copyFrom_219 : decode cX7_copyFrom 219 = .ok (.getfield 51, 3) := by decide +kernel
theorem dX7_copyFrom_222 : decode cX7_copyFrom 222 = .ok (.iconst 0, 1) := by decide +kernel
theorem dX7_copyFrom_223 : decode cX7_copyFrom 223 = .ok (.aload_n 0, 1) := by decide +kernel
theorem dX7_copyFrom_224 : decode cX7_copyFrom 224 = .ok (.getfield 51, 3) := by decide +kernel
theorem dX7_copyFrom_227 : decode cX7_copyFrom 227 = .ok (.iconst 0, 1) := by decide +kernel
theorem dX7_copyFrom_228 : decode cX7_copyFrom 228 = .ok (.bipush 12, 2) := by decide +kernel
theorem dX7_copyFrom_230 : decode cX7_copyFrom 230 = .ok (.invokestatic 76, 3) := by decide +kernel
theorem dX7_copyFrom_233 : decode cX7_copyFrom 233 = .ok (.aload_n 1, 1) := by decide +kernel
theorem dX7_copyFrom_234 : decode cX7_copyFrom 234 = .ok (.getfield 54, 3) := by decide +kernel
theorem dX7_copyFrom_237 : decode cX7_copyFrom 237 = .ok (.iconst 0, 1) := by decide +kernel
theorem dX7_copyFrom_238 : decode cX7_copyFrom 238 = .ok (.aload_n 0, 1) := by decide +kernel
theorem dX7_copyFrom_239 : decode cX7_copyFrom 239 = .ok (.getfield 54, 3) := by decide +kernel
theorem dX7_copyFrom_242 : decode cX7_copyFrom 242 = .ok (.iconst 0, 1) := by decide +kernel
theorem dX7_copyFrom_243 : decode cX7_copyFrom 243 = .ok (.bipush 12, 2) := by decide +kernel
theorem dX7_copyFrom_245 : decode cX7_copyFrom 245 = .ok (.invokestatic 76, 3) := by decide +kernel
theorem dX7_copyFrom_248 : decode cX7_copyFrom 248 = .ok (.aload_n 1, 1) := by decide +kernel
theorem dX7_copyFrom_249 : decode cX7_copyFrom 249 = .ok (.getfield 57, 3) := by decide +kernel
theorem dX7_copyFrom_252 : decode cX7_copyFrom 252 = .ok (.iconst 0, 1) := by decide +kernel
theorem dX7_copyFrom_253 : decode cX7_copyFrom 253 = .ok (.aload_n 0, 1) := by decide +kernel
theorem dX7_copyFrom_254 : decode cX7_copyFrom 254 = .ok (.getfield 57, 3) := by decide +kernel
theorem dX7_copyFrom_257 : decode cX7_copyFrom 257 = .ok (.iconst 0, 1) := by decide +kernel
theorem dX7_copyFrom_258 : decode cX7_copyFrom 258 = .ok (.bipush 12, 2) := by decide +kernel
theorem dX7_copyFrom_260 : decode cX7_copyFrom 260 = .ok (.invokestatic 76, 3) := by decide +kernel
theorem dX7_copyFrom_263 : decode cX7_copyFrom 263 = .ok (.return_, 1) := by decide +kernel
theorem dX7_has_0 : decode cX7_has 0 = .ok (.iload_n 1, 1) := by decide +kernel
theorem dX7_has_1 : decode cX7_has 1 = .ok (.ifCond .lt 24, 3) := by decide +kernel
theorem dX7_has_4 : decode cX7_has 4 = .ok (.iload_n 1, 1) := by decide +kernel
theorem dX7_has_5 : decode cX7_has 5 = .ok (.bipush 12, 2) := by decide +kernel
theorem dX7_has_7 : decode cX7_has 7 = .ok (.if_icmp .ge 18, 3) := by decide +kernel
theorem dX7_has_10 : decode cX7_has 10 = .ok (.aload_n 0, 1) := by decide +kernel
theorem dX7_has_11 : decode cX7_has 11 = .ok (.getfield 18, 3) := by decide +kernel
theorem dX7_has_14 : decode cX7_has 14 = .ok (.iload_n 1, 1) := by decide +kernel
theorem dX7_has_15 : decode cX7_has 15 = .ok (.iaload, 1) := by decide +kernel
theorem dX7_has_16 : decode cX7_has 16 = .ok (.bipush (-9), 2) := by decide +kernel
theorem dX7_has_18 : decode cX7_has 18 = .ok (.if_icmp .eq 7, 3) := by decide +kernel
theorem dX7_has_21 : decode cX7_has 21 = .ok (.iconst 1, 1) := by decide +kernel
theorem dX7_has_22 : decode cX7_has 22 = .ok (.goto 4, 3) := by decide +kernel
theorem dX7_has_25 : decode cX7_has 25 = .ok (.iconst 0, 1) := by decide +kernel
theorem dX7_has_26 : decode cX7_has 26 = .ok (.ireturn, 1) := by decide +kernel
theorem dX7_present_0 : decode cX7_present 0 = .ok (.bipush 12, 2) := by decide +kernel
theorem dX7_present_2 : decode cX7_present 2 = .ok (.aload_n 0, 1) := by decide +kernel
theorem dX7_present_3 : decode cX7_present 3 = .ok (.getfield 18, 3) := by decide +kernel
theorem dX7_present_6 : decode cX7_present 6 = .ok (.bipush (-9), 2) := by decide +kernel
theorem dX7_present_8 : decode cX7_present 8 = .ok (.invokestatic 88, 3) := by decide +kernel
theorem dX7_present_11 : decode cX7_present 11 = .ok (.isub, 1) := by decide +kernel
theorem dX7_present_12 : decode cX7_present 12 = .ok (.ireturn, 1) := by decide +kernel
theorem dX7_lowestAbsent_0 : decode cX7_lowestAbsent 0 = .ok (.iconst 0, 1) := by decide +kernel
theorem dX7_lowestAbsent_1 : decode cX7_lowestAbsent 1 = .ok (.istore_n 1, 1) := by decide +kernel
theorem dX7_lowestAbsent_2 : decode cX7_lowestAbsent 2 = .ok (.iload_n 1, 1) := by decide +kernel
theorem dX7_lowestAbsent_3 : decode cX7_lowestAbsent 3 = .ok (.bipush 12, 2) := by decide +kernel
theorem dX7_lowestAbsent_5 : decode cX7_lowestAbsent 5 = .ok (.if_icmp .ge 22, 3) := by decide +kernel
theorem dX7_lowestAbsent_8 : decode cX7_lowestAbsent 8 = .ok (.aload_n 0, 1) := by decide +kernel
theorem dX7_lowestAbsent_9 : decode cX7_lowestAbsent 9 = .ok (.getfield 18, 3) := by decide +kernel
theorem dX7_lowestAbsent_12 : decode cX7_lowestAbsent 12 = .ok (.iload_n 1, 1) := by decide +kernel
theorem dX7_lowestAbsent_13 : decode cX7_lowestAbsent 13 = .ok (.iaload, 1) := by decide +kernel
theorem dX7_lowestAbsent_14 : decode cX7_lowestAbsent 14 = .ok (.bipush (-9), 2) := by decide +kernel
theorem dX7_lowestAbsent_16 : decode cX7_lowestAbsent 16 = .ok (.if_icmp .ne 5, 3) := by decide +kernel
theorem dX7_lowestAbsent_19 : decode cX7_lowestAbsent 19 = .ok (.iload_n 1, 1) := by decide +kernel
theorem dX7_lowestAbsent_20 : decode cX7_lowestAbsent 20 = .ok (.ireturn, 1) := by decide +kernel
theorem dX7_lowestAbsent_21 : decode cX7_lowestAbsent 21 = .ok (.iinc 1 1, 3) := by decide +kernel
theorem dX7_lowestAbsent_24 : decode cX7_lowestAbsent 24 = .ok (.goto (-22), 3) := by decide +kernel
theorem dX7_lowestAbsent_27 : decode cX7_lowestAbsent 27 = .ok (.bipush (-9), 2) := by decide +kernel
theorem dX7_lowestAbsent_29 : decode cX7_lowestAbsent 29 = .ok (.ireturn, 1) := by decide +kernel
theorem dX7_busy_0 : decode cX7_busy 0 = .ok (.aload_n 0, 1) := by decide +kernel
theorem dX7_busy_1 : decode cX7_busy 1 = .ok (.getfield 18, 3) := by decide +kernel
theorem dX7_busy_4 : decode cX7_busy 4 = .ok (.iload_n 1, 1) := by decide +kernel
theorem dX7_busy_5 : decode cX7_busy 5 = .ok (.invokestatic 88, 3) := by decide +kernel
theorem dX7_busy_8 : decode cX7_busy 8 = .ok (.ireturn, 1) := by decide +kernel
theorem dX7_waiting_0 : decode cX7_waiting 0 = .ok (.aload_n 0, 1) := by decide +kernel
theorem dX7_waiting_1 : decode cX7_waiting 1 = .ok (.getfield 21, 3) := by decide +kernel
theorem dX7_waiting_4 : decode cX7_waiting 4 = .ok (.iload_n 1, 1) := by decide +kernel
theorem dX7_waiting_5 : decode cX7_waiting 5 = .ok (.invokestatic 88, 3) := by decide +kernel
theorem dX7_waiting_8 : decode cX7_waiting 8 = .ok (.ireturn, 1) := by decide +kernel
theorem dX7_callsOf_0 : decode cX7_callsOf 0 = .ok (.iconst 0, 1) := by decide +kernel
theorem dX7_callsOf_1 : decode cX7_callsOf 1 = .ok (.istore_n 2, 1) := by decide +kernel
theorem dX7_callsOf_2 : decode cX7_callsOf 2 = .ok (.iconst 0, 1) := by decide +kernel
theorem dX7_callsOf_3 : decode cX7_callsOf 3 = .ok (.istore_n 3, 1) := by decide +kernel
theorem dX7_callsOf_4 : decode cX7_callsOf 4 = .ok (.iload_n 3, 1) := by decide +kernel
theorem dX7_callsOf_5 : decode cX7_callsOf 5 = .ok (.aload_n 0, 1) := by decide +kernel
theorem dX7_callsOf_6 : decode cX7_callsOf 6 = .ok (.arraylength, 1) := by decide +kernel
theorem dX7_callsOf_7 : decode cX7_callsOf 7 = .ok (.if_icmp .ge 24, 3) := by decide +kernel
theorem dX7_callsOf_10 : decode cX7_callsOf 10 = .ok (.iload_n 2, 1) := by decide +kernel
theorem dX7_callsOf_11 : decode cX7_callsOf 11 = .ok (.aload_n 0, 1) := by decide +kernel
theorem dX7_callsOf_12 : decode cX7_callsOf 12 = .ok (.iload_n 3, 1) := by decide +kernel
theorem dX7_callsOf_13 : decode cX7_callsOf 13 = .ok (.iaload, 1) := by decide +kernel
theorem dX7_callsOf_14 : decode cX7_callsOf 14 = .ok (.iload_n 1, 1) := by decide +kernel
theorem dX7_callsOf_15 : decode cX7_callsOf 15 = .ok (.if_icmp .ne 7, 3) := by decide +kernel
theorem dX7_callsOf_18 : decode cX7_callsOf 18 = .ok (.iconst 1, 1) := by decide +kernel
theorem dX7_callsOf_19 : decode cX7_callsOf 19 = .ok (.goto 4, 3) := by decide +kernel
theorem dX7_callsOf_22 : decode cX7_callsOf 22 = .ok (.iconst 0, 1) := by decide +kernel
theorem dX7_callsOf_23 : decode cX7_callsOf 23 = .ok (.iadd, 1) := by decide +kernel
theorem dX7_callsOf_24 : decode cX7_callsOf 24 = .ok (.istore_n 2, 1) := by decide +kernel
theorem dX7_callsOf_25 : decode cX7_callsOf 25 = .ok (.iinc 3 1, 3) := by decide +kernel
theorem dX7_callsOf_28 : decode cX7_callsOf 28 = .ok (.goto (-24), 3) := by decide +kernel
theorem dX7_callsOf_31 : decode cX7_callsOf 31 = .ok (.iload_n 2, 1) := by decide +kernel
theorem dX7_callsOf_32 : decode cX7_callsOf 32 = .ok (.ireturn, 1) := by decide +kernel
theorem dX7_tallyOne_0 : decode cX7_tallyOne 0 = .ok (.aload_n 0, 1) := by decide +kernel
theorem dX7_tallyOne_1 : decode cX7_tallyOne 1 = .ok (.getfield 15, 3) := by decide +kernel
theorem dX7_tallyOne_4 : decode cX7_tallyOne 4 = .ok (.iload_n 1, 1) := by decide +kernel
theorem dX7_tallyOne_5 : decode cX7_tallyOne 5 = .ok (.bipush 6, 2) := by decide +kernel
theorem dX7_tallyOne_7 : decode cX7_tallyOne 7 = .ok (.imul, 1) := by decide +kernel
theorem dX7_tallyOne_8 : decode cX7_tallyOne 8 = .ok (.iload_n 2, 1) := by decide +kernel
theorem dX7_tallyOne_9 : decode cX7_tallyOne 9 = .ok (.iadd, 1) := by decide +kernel
theorem dX7_tallyOne_10 : decode cX7_tallyOne 10 = .ok (.dup2, 1) := by decide +kernel
theorem dX7_tallyOne_11 : decode cX7_tallyOne 11 = .ok (.iaload, 1) := by decide +kernel
theorem dX7_tallyOne_12 : decode cX7_tallyOne 12 = .ok (.iconst 1, 1) := by decide +kernel
theorem dX7_tallyOne_13 : decode cX7_tallyOne 13 = .ok (.iadd, 1) := by decide +kernel
theorem dX7_tallyOne_14 : decode cX7_tallyOne 14 = .ok (.iastore, 1) := by decide +kernel
theorem dX7_tallyOne_15 : decode cX7_tallyOne 15 = .ok (.return_, 1) := by decide +kernel
theorem dX7_appear_0 : decode cX7_appear 0 = .ok (.aload_n 0, 1) := by decide +kernel
theorem dX7_appear_1 : decode cX7_appear 1 = .ok (.getfield 18, 3) := by decide +kernel
theorem dX7_appear_4 : decode cX7_appear 4 = .ok (.iload_n 1, 1) := by decide +kernel
theorem dX7_appear_5 : decode cX7_appear 5 = .ok (.iload_n 2, 1) := by decide +kernel
theorem dX7_appear_6 : decode cX7_appear 6 = .ok (.iastore, 1) := by decide +kernel
theorem dX7_appear_7 : decode cX7_appear 7 = .ok (.aload_n 0, 1) := by decide +kernel
theorem dX7_appear_8 : decode cX7_appear 8 = .ok (.getfield 21, 3) := by decide +kernel
theorem dX7_appear_11 : decode cX7_appear 11 = .ok (.iload_n 1, 1) := by decide +kernel
theorem dX7_appear_12 : decode cX7_appear 12 = .ok (.bipush (-9), 2) := by decide +kernel
theorem dX7_appear_14 : decode cX7_appear 14 = .ok (.iastore, 1) := by decide +kernel
theorem dX7_appear_15 : decode cX7_appear 15 = .ok (.aload_n 0, 1) := by decide +kernel
theorem dX7_appear_16 : decode cX7_appear 16 = .ok (.getfield 24, 3) := by decide +kernel
theorem dX7_appear_19 : decode cX7_appear 19 = .ok (.iload_n 1, 1) := by decide +kernel
theorem dX7_appear_20 : decode cX7_appear 20 = .ok (.iconst 0, 1) := by decide +kernel
theorem dX7_appear_21 : decode cX7_appear 21 = .ok (.iastore, 1) := by decide +kernel
theorem dX7_appear_22 : decode cX7_appear 22 = .ok (.aload_n 0, 1) := by decide +kernel
theorem dX7_appear_23 : decode cX7_appear 23 = .ok (.getfield 27, 3) := by decide +kernel
theorem dX7_appear_26 : decode cX7_appear 26 = .ok (.iload_n 1, 1) := by decide +kernel
theorem dX7_appear_27 : decode cX7_appear 27 = .ok (.iconst 0, 1) := by decide +kernel
theorem dX7_appear_28 : decode cX7_appear 28 = .ok (.iastore, 1) := by decide +kernel
theorem dX7_appear_29 : decode cX7_appear 29 = .ok (.aload_n 0, 1) := by decide +kernel
theorem dX7_appear_30 : decode cX7_appear 30 = .ok (.getfield 30, 3) := by decide +kernel
theorem dX7_appear_33 : decode cX7_appear 33 = .ok (.iload_n 1, 1) := by decide +kernel
theorem dX7_appear_34 : decode cX7_appear 34 = .ok (.iconst 0, 1) := by decide +kernel
theorem dX7_appear_35 : decode cX7_appear 35 = .ok (.iastore, 1) := by decide +kernel
theorem dX7_appear_36 : decode cX7_appear 36 = .ok (.aload_n 0, 1) := by decide +kernel
theorem dX7_appear_37 : decode cX7_appear 37 = .ok (.getfield 33, 3) := by decide +kernel
theorem dX7_appear_40 : decode cX7_appear 40 = .ok (.iload_n 1, 1) := by decide +kernel
theorem dX7_appear_41 : decode cX7_appear 41 = .ok (.iconst 0, 1) := by decide +kernel
theorem dX7_appear_42 : decode cX7_appear 42 = .ok (.iastore, 1) := by decide +kernel
theorem dX7_appear_43 : decode cX7_appear 43 = .ok (.aload_n 0, 1) := by decide +kernel
theorem dX7_appear_44 : decode cX7_appear 44 = .ok (.getfield 36, 3) := by decide +kernel
theorem dX7_appear_47 : decode cX7_appear 47 = .ok (.iload_n 1, 1) := by decide +kernel
theorem dX7_appear_48 : decode cX7_appear 48 = .ok (.iconst 0, 1) := by decide +kernel
theorem dX7_appear_49 : decode cX7_appear 49 = .ok (.iastore, 1) := by decide +kernel
theorem dX7_appear_50 : decode cX7_appear 50 = .ok (.aload_n 0, 1) := by decide +kernel
theorem dX7_appear_51 : decode cX7_appear 51 = .ok (.getfield 39, 3) := by decide +kernel
theorem dX7_appear_54 : decode cX7_appear 54 = .ok (.iload_n 1, 1) := by decide +kernel
theorem dX7_appear_55 : decode cX7_appear 55 = .ok (.iconst 0, 1) := by decide +kernel
theorem dX7_appear_56 : decode cX7_appear 56 = .ok (.iastore, 1) := by decide +kernel
theorem dX7_appear_57 : decode cX7_appear 57 = .ok (.aload_n 0, 1) := by decide +kernel
theorem dX7_appear_58 : decode cX7_appear 58 = .ok (.getfield 42, 3) := by decide +kernel
theorem dX7_appear_61 : decode cX7_appear 61 = .ok (.iload_n 1, 1) := by decide +kernel
theorem dX7_appear_62 : decode cX7_appear 62 = .ok (.bipush (-9), 2) := by decide +kernel
theorem dX7_appear_64 : decode cX7_appear 64 = .ok (.iastore, 1) := by decide +kernel
theorem dX7_appear_65 : decode cX7_appear 65 = .ok (.iconst 0, 1) := by decide +kernel
theorem dX7_appear_66 : decode cX7_appear 66 = .ok (.istore 4, 2) := by decide +kernel
theorem dX7_appear_68 : decode cX7_appear 68 = .ok (.iload 4, 2) := by decide +kernel
theorem dX7_appear_70 : decode cX7_appear 70 = .ok (.iconst 4, 1) := by decide +kernel
theorem dX7_appear_71 : decode cX7_appear 71 = .ok (.if_icmp .ge 34, 3) := by decide +kernel
theorem dX7_appear_74 : decode cX7_appear 74 = .ok (.aload_n 0, 1) := by decide +kernel
theorem dX7_appear_75 : decode cX7_appear 75 = .ok (.getfield 45, 3) := by decide +kernel
theorem dX7_appear_78 : decode cX7_appear 78 = .ok (.iload_n 1, 1) := by decide +kernel
theorem dX7_appear_79 : decode cX7_appear 79 = .ok (.iconst 4, 1) := by decide +kernel
theorem dX7_appear_80 : decode cX7_appear 80 = .ok (.imul, 1) := by decide +kernel
theorem dX7_appear_81 : decode cX7_appear 81 = .ok (.iload 4, 2) := by decide +kernel
theorem dX7_appear_83 : decode cX7_appear 83 = .ok (.iadd, 1) := by decide +kernel
theorem dX7_appear_84 : decode cX7_appear 84 = .ok (.iload 4, 2) := by decide +kernel
theorem dX7_appear_86 : decode cX7_appear 86 = .ok (.iload_n 2, 1) := by decide +kernel
theorem dX7_appear_87 : decode cX7_appear 87 = .ok (.if_icmp .ne 10, 3) := by decide +kernel
theorem dX7_appear_90 : decode cX7_appear 90 = .ok (.bipush 64, 2) := by decide +kernel
theorem dX7_appear_92 : decode cX7_appear 92 = .ok (.iload_n 3, 1) := by decide +kernel
theorem dX7_appear_93 : decode cX7_appear 93 = .ok (.imul, 1) := by decide +kernel
theorem dX7_appear_94 : decode cX7_appear 94 = .ok (.goto 4, 3) := by decide +kernel
theorem dX7_appear_97 : decode cX7_appear 97 = .ok (.iconst 0, 1) := by decide +kernel
theorem dX7_appear_98 : decode cX7_appear 98 = .ok (.iastore, 1) := by decide +kernel
theorem dX7_appear_99 : decode cX7_appear 99 = .ok (.iinc 4 1, 3) := by decide +kernel
theorem dX7_appear_102 : decode cX7_appear 102 = .ok (.goto (-34), 3) := by decide +kernel
theorem dX7_appear_105 : decode cX7_appear 105 = .ok (.aload_n 0, 1) := by decide +kernel
theorem dX7_appear_106 : decode cX7_appear 106 = .ok (.iload_n 1, 1) := by decide +kernel
theorem dX7_appear_107 : decode cX7_appear 107 = .ok (.invokevirtual 92, 3) := by decide +kernel
theorem dX7_appear_110 : decode cX7_appear 110 = .ok (.return_, 1) := by decide +kernel
theorem dX7_clearStreaks_0 : decode cX7_clearStreaks 0 = .ok (.iconst 0, 1) := by decide +kernel
theorem dX7_clearStreaks_1 : decode cX7_clearStreaks 1 = .ok (.istore_n 2, 1) := by decide +kernel
theorem dX7_clearStreaks_2 : decode cX7_clearStreaks 2 = .ok (.iload_n 2, 1) := by decide +kernel
theorem dX7_clearStreaks_3 : decode cX7_clearStreaks 3 = .ok (.iconst 4, 1) := by decide +kernel
theorem dX7_clearStreaks_4 : decode cX7_clearStreaks 4 = .ok (.if_icmp .ge 20, 3) := by decide +kernel
theorem dX7_clearStreaks_7 : decode cX7_clearStreaks 7 = .ok (.aload_n 0, 1) := by decide +kernel
theorem dX7_clearStreaks_8 : decode cX7_clearStreaks 8 = .ok (.getfield 48, 3) := by decide +kernel
theorem dX7_clearStreaks_11 : decode cX7_clearStreaks 11 = .ok (.iload_n 1, 1) := by decide +kernel
theorem dX7_clearStreaks_12 : decode cX7_clearStreaks 12 = .ok (.iconst 4, 1) := by decide +kernel
theorem dX7_clearStreaks_13 : decode cX7_clearStreaks 13 = .ok (.imul, 1) := by decide +kernel
theorem dX7_clearStreaks_14 : decode cX7_clearStreaks 14 = .ok (.iload_n 2, 1) := by decide +kernel
theorem dX7_clearStreaks_15 : decode cX7_clearStreaks 15 = .ok (.iadd, 1) := by decide +kernel
theorem dX7_clearStreaks_16 : decode cX7_clearStreaks 16 = .ok (.iconst 0, 1) := by decide +kernel
theorem dX7_clearStreaks_17 : decode cX7_clearStreaks 17 = .ok (.iastore, 1) := by decide +kernel
theorem dX7_clearStreaks_18 : decode cX7_clearStreaks 18 = .ok (.iinc 2 1, 3) := by decide +kernel
theorem dX7_clearStreaks_21 : decode cX7_clearStreaks 21 = .ok (.goto (-19), 3) := by decide +kernel
theorem dX7_clearStreaks_24 : decode cX7_clearStreaks 24 = .ok (.return_, 1) := by decide +kernel
theorem dX7_beginWaiting_0 : decode cX7_beginWaiting 0 = .ok (.aload_n 0, 1) := by decide +kernel
theorem dX7_beginWaiting_1 : decode cX7_beginWaiting 1 = .ok (.getfield 21, 3) := by decide +kernel
theorem dX7_beginWaiting_4 : decode cX7_beginWaiting 4 = .ok (.iload_n 1, 1) := by decide +kernel
theorem dX7_beginWaiting_5 : decode cX7_beginWaiting 5 = .ok (.iload_n 2, 1) := by decide +kernel
theorem dX7_beginWaiting_6 : decode cX7_beginWaiting 6 = .ok (.iastore, 1) := by decide +kernel
theorem dX7_beginWaiting_7 : decode cX7_beginWaiting 7 = .ok (.aload_n 0, 1) := by decide +kernel
theorem dX7_beginWaiting_8 : decode cX7_beginWaiting 8 = .ok (.getfield 24, 3) := by decide +kernel
theorem dX7_beginWaiting_11 : decode cX7_beginWaiting 11 = .ok (.iload_n 1, 1) := by decide +kernel
theorem dX7_beginWaiting_12 : decode cX7_beginWaiting 12 = .ok (.aload_n 0, 1) := by decide +kernel
theorem dX7_beginWaiting_13 : decode cX7_beginWaiting 13 = .ok (.getfield 67, 3) := by decide +kernel
theorem dX7_beginWaiting_16 : decode cX7_beginWaiting 16 = .ok (.iastore, 1) := by decide +kernel
theorem dX7_beginWaiting_17 : decode cX7_beginWaiting 17 = .ok (.aload_n 0, 1) := by decide +kernel
theorem dX7_beginWaiting_18 : decode cX7_beginWaiting 18 = .ok (.dup, 1) := by decide +kernel
theorem dX7_beginWaiting_19 : decode cX7_beginWaiting 19 = .ok (.getfield 67, 3) := by decide +kernel
theorem dX7_beginWaiting_22 : decode cX7_beginWaiting 22 = .ok (.iconst 1, 1) := by decide +kernel
theorem dX7_beginWaiting_23 : decode cX7_beginWaiting 23 = .ok (.iadd, 1) := by decide +kernel
theorem dX7_beginWaiting_24 : decode cX7_beginWaiting 24 = .ok (.putfield 67, 3) := by decide +kernel
theorem dX7_beginWaiting_27 : decode cX7_beginWaiting 27 = .ok (.return_, 1) := by decide +kernel
theorem dX7_ownLevel_0 : decode cX7_ownLevel 0 = .ok (.aload_n 0, 1) := by decide +kernel
theorem dX7_ownLevel_1 : decode cX7_ownLevel 1 = .ok (.getfield 45, 3) := by decide +kernel
theorem dX7_ownLevel_4 : decode cX7_ownLevel 4 = .ok (.iload_n 1, 1) := by decide +kernel
theorem dX7_ownLevel_5 : decode cX7_ownLevel 5 = .ok (.iconst 4, 1) := by decide +kernel
theorem dX7_ownLevel_6 : decode cX7_ownLevel 6 = .ok (.imul, 1) := by decide +kernel
theorem dX7_ownLevel_7 : decode cX7_ownLevel 7 = .ok (.aload_n 0, 1) := by decide +kernel
theorem dX7_ownLevel_8 : decode cX7_ownLevel 8 = .ok (.getfield 18, 3) := by decide +kernel
theorem dX7_ownLevel_11 : decode cX7_ownLevel 11 = .ok (.iload_n 1, 1) := by decide +kernel
theorem dX7_ownLevel_12 : decode cX7_ownLevel 12 = .ok (.iaload, 1) := by decide +kernel
theorem dX7_ownLevel_13 : decode cX7_ownLevel 13 = .ok (.iadd, 1) := by decide +kernel
theorem dX7_ownLevel_14 : decode cX7_ownLevel 14 = .ok (.iaload, 1) := by decide +kernel
theorem dX7_ownLevel_15 : decode cX7_ownLevel 15 = .ok (.ireturn, 1) := by decide +kernel
theorem dX7_countPair_0 : decode cX7_countPair 0 = .ok (.iconst 0, 1) := by decide +kernel
theorem dX7_countPair_1 : decode cX7_countPair 1 = .ok (.istore_n 3, 1) := by decide +kernel
theorem dX7_countPair_2 : decode cX7_countPair 2 = .ok (.iload_n 3, 1) := by decide +kernel
theorem dX7_countPair_3 : decode cX7_countPair 3 = .ok (.aload_n 0, 1) := by decide +kernel
theorem dX7_countPair_4 : decode cX7_countPair 4 = .ok (.getfield 70, 3) := by decide +kernel
theorem dX7_countPair_7 : decode cX7_countPair 7 = .ok (.if_icmp .ge 46, 3) := by decide +kernel
theorem dX7_countPair_10 : decode cX7_countPair 10 = .ok (.iload_n 3, 1) := by decide +kernel
theorem dX7_countPair_11 : decode cX7_countPair 11 = .ok (.bipush 12, 2) := by decide +kernel
theorem dX7_countPair_13 : decode cX7_countPair 13 = .ok (.if_icmp .ge 40, 3) := by decide +kernel
theorem dX7_countPair_16 : decode cX7_countPair 16 = .ok (.aload_n 0, 1) := by decide +kernel
theorem dX7_countPair_17 : decode cX7_countPair 17 = .ok (.getfield 51, 3) := by decide +kernel
theorem dX7_countPair_20 : decode cX7_countPair 20 = .ok (.iload_n 3, 1) := by decide +kernel
theorem dX7_countPair_21 : decode cX7_countPair 21 = .ok (.iaload, 1) := by decide +kernel
theorem dX7_countPair_22 : decode cX7_countPair 22 = .ok (.iload_n 1, 1) := by decide +kernel
theorem dX7_countPair_23 : decode cX7_countPair 23 = .ok (.if_icmp .ne 24, 3) := by decide +kernel
theorem dX7_countPair_26 : decode cX7_countPair 26 = .ok (.aload_n 0, 1) := by decide +kernel
theorem dX7_countPair_27 : decode cX7_countPair 27 = .ok (.getfield 54, 3) := by decide +kernel
theorem dX7_countPair_30 : decode cX7_countPair 30 = .ok (.iload_n 3, 1) := by decide +kernel
theorem dX7_countPair_31 : decode cX7_countPair 31 = .ok (.iaload, 1) := by decide +kernel
theorem dX7_countPair_32 : decode cX7_countPair 32 = .ok (.iload_n 2, 1) := by decide +kernel
theorem dX7_countPair_33 : decode cX7_countPair 33 = .ok (.if_icmp .ne 14, 3) := by decide +kernel
theorem dX7_countPair_36 : decode cX7_countPair 36 = .ok (.aload_n 0, 1) := by decide +kernel
theorem dX7_countPair_37 : decode cX7_countPair 37 = .ok (.getfield 57, 3) := by decide +kernel
theorem dX7_countPair_40 : decode cX7_countPair 40 = .ok (.iload_n 3, 1) := by decide +kernel
theorem dX7_countPair_41 : decode cX7_countPair 41 = .ok (.dup2, 1) := by decide +kernel
theorem dX7_countPair_42 : decode cX7_countPair 42 = .ok (.iaload, 1) := by decide +kernel
theorem dX7_countPair_43 : decode cX7_countPair 43 = .ok (.iconst 1, 1) := by decide +kernel
theorem dX7_countPair_44 : decode cX7_countPair 44 = .ok (.iadd, 1) := by decide +kernel
theorem dX7_countPair_45 : decode cX7_countPair 45 = .ok (.iastore, 1) := by decide +kernel
theorem dX7_countPair_46 : decode cX7_countPair 46 = .ok (.return_, 1) := by decide +kernel
theorem dX7_countPair_47 : decode cX7_countPair 47 = .ok (.iinc 3 1, 3) := by decide +kernel
theorem dX7_countPair_50 : decode cX7_countPair 50 = .ok (.goto (-48), 3) := by decide +kernel
theorem dX7_countPair_53 : decode cX7_countPair 53 = .ok (.aload_n 0, 1) := by decide +kernel
theorem dX7_countPair_54 : decode cX7_countPair 54 = .ok (.getfield 70, 3) := by decide +kernel
theorem dX7_countPair_57 : decode cX7_countPair 57 = .ok (.bipush 12, 2) := by decide +kernel
theorem dX7_countPair_59 : decode cX7_countPair 59 = .ok (.if_icmp .ge 43, 3) := by decide +kernel
theorem dX7_countPair_62 : decode cX7_countPair 62 = .ok (.aload_n 0, 1) := by decide +kernel
theorem dX7_countPair_63 : decode cX7_countPair 63 = .ok (.getfield 51, 3) := by decide +kernel
theorem dX7_countPair_66 : decode cX7_countPair 66 = .ok (.aload_n 0, 1) := by decide +kernel
theorem dX7_countPair_67 : decode cX7_countPair 67 = .ok (.getfield 70, 3) := by decide +kernel
theorem dX7_countPair_70 : decode cX7_countPair 70 = .ok (.iload_n 1, 1) := by decide +kernel
theorem dX7_countPair_71 : decode cX7_countPair 71 = .ok (.iastore, 1) := by decide +kernel
theorem dX7_countPair_72 : decode cX7_countPair 72 = .ok (.aload_n 0, 1) := by decide +kernel
theorem dX7_countPair_73 : decode cX7_countPair 73 = .ok (.getfield 54, 3) := by decide +kernel
theorem dX7_countPair_76 : decode cX7_countPair 76 = .ok (.aload_n 0, 1) := by decide +kernel
theorem dX7_countPair_77 : decode cX7_countPair 77 = .ok (.getfield 70, 3) := by decide +kernel
theorem dX7_countPair_80 : decode cX7_countPair 80 = .ok (.iload_n 2, 1) := by decide +kernel
theorem dX7_countPair_81 : decode cX7_countPair 81 = .ok (.iastore, 1) := by decide +kernel
theorem dX7_countPair_82 : decode cX7_countPair 82 = .ok (.aload_n 0, 1) := by decide +kernel
theorem dX7_countPair_83 : decode cX7_countPair 83 = .ok (.getfield 57, 3) := by decide +kernel
theorem dX7_countPair_86 : decode cX7_countPair 86 = .ok (.aload_n 0, 1) := by decide +kernel
theorem dX7_countPair_87 : decode cX7_countPair 87 = .ok (.getfield 70, 3) := by decide +kernel
theorem dX7_countPair_90 : decode cX7_countPair 90 = .ok (.iconst 1, 1) := by decide +kernel
theorem dX7_countPair_91 : decode cX7_countPair 91 = .ok (.iastore, 1) := by decide +kernel
theorem dX7_countPair_92 : decode cX7_countPair 92 = .ok (.aload_n 0, 1) := by decide +kernel
theorem dX7_countPair_93 : decode cX7_countPair 93 = .ok (.dup, 1) := by decide +kernel
theorem dX7_countPair_94 : decode cX7_countPair 94 = .ok (.getfield 70, 3) := by decide +kernel
theorem dX7_countPair_97 : decode cX7_countPair 97 = .ok (.iconst 1, 1) := by decide +kernel
theorem dX7_countPair_98 : decode cX7_countPair 98 = .ok (.iadd, 1) := by decide +kernel
theorem dX7_countPair_99 : decode cX7_countPair 99 = .ok (.putfield 70, 3) := by decide +kernel
theorem dX7_countPair_102 : decode cX7_countPair 102 = .ok (.return_, 1) := by decide +kernel
