theorem dX8_init_0 : decode cX8_init 0 = .ok (.aload_n 0, 1) := by decide +kernel
theorem dX8_init_1 : decode cX8_init 1 = .ok (.invokespecial 1, 3) := by decide +kernel
theorem dX8_init_4 : decode cX8_init 4 = .ok (.aload_n 0, 1) := by decide +kernel
theorem dX8_init_5 : decode cX8_init 5 = .ok (.new 7, 3) := by decide +kernel
theorem dX8_init_8 : decode cX8_init 8 = .ok (.dup, 1) := by decide +kernel
theorem dX8_init_9 : decode cX8_init 9 = .ok (.invokespecial 9, 3) := by decide +kernel
theorem dX8_init_12 : decode cX8_init 12 = .ok (.putfield 10, 3) := by decide +kernel
theorem dX8_init_15 : decode cX8_init 15 = .ok (.aload_n 0, 1) := by decide +kernel
theorem dX8_init_16 : decode cX8_init 16 = .ok (.new 16, 3) := by decide +kernel
theorem dX8_init_19 : decode cX8_init 19 = .ok (.dup, 1) := by decide +kernel
theorem dX8_init_20 : decode cX8_init 20 = .ok (.invokespecial 18, 3) := by decide +kernel
theorem dX8_init_23 : decode cX8_init 23 = .ok (.putfield 19, 3) := by decide +kernel
theorem dX8_init_26 : decode cX8_init 26 = .ok (.aload_n 0, 1) := by decide +kernel
theorem dX8_init_27 : decode cX8_init 27 = .ok (.new 23, 3) := by decide +kernel
theorem dX8_init_30 : decode cX8_init 30 = .ok (.dup, 1) := by decide +kernel
theorem dX8_init_31 : decode cX8_init 31 = .ok (.invokespecial 25, 3) := by decide +kernel
theorem dX8_init_34 : decode cX8_init 34 = .ok (.putfield 26, 3) := by decide +kernel
theorem dX8_init_37 : decode cX8_init 37 = .ok (.aload_n 0, 1) := by decide +kernel
theorem dX8_init_38 : decode cX8_init 38 = .ok (.new 30, 3) := by decide +kernel
theorem dX8_init_41 : decode cX8_init 41 = .ok (.dup, 1) := by decide +kernel
theorem dX8_init_42 : decode cX8_init 42 = .ok (.aload_n 0, 1) := by decide +kernel
theorem dX8_init_43 : decode cX8_init 43 = .ok (.getfield 19, 3) := by decide +kernel
theorem dX8_init_46 : decode cX8_init 46 = .ok (.aload_n 0, 1) := by decide +kernel
theorem dX8_init_47 : decode cX8_init 47 = .ok (.getfield 26, 3) := by decide +kernel
theorem dX8_init_50 : decode cX8_init 50 = .ok (.invokespecial 32, 3) := by decide +kernel
theorem dX8_init_53 : decode cX8_init 53 = .ok (.putfield 35, 3) := by decide +kernel
theorem dX8_init_56 : decode cX8_init 56 = .ok (.aload_n 0, 1) := by decide +kernel
theorem dX8_init_57 : decode cX8_init 57 = .ok (.new 39, 3) := by decide +kernel
theorem dX8_init_60 : decode cX8_init 60 = .ok (.dup, 1) := by decide +kernel
theorem dX8_init_61 : decode cX8_init 61 = .ok (.invokespecial 41, 3) := by decide +kernel
theorem dX8_init_64 : decode cX8_init 64 = .ok (.putfield 42, 3) := by decide +kernel
theorem dX8_init_67 : decode cX8_init 67 = .ok (.aload_n 0, 1) := by decide +kernel
theorem dX8_init_68 : decode cX8_init 68 = .ok (.new 46, 3) := by decide +kernel
theorem dX8_init_71 : decode cX8_init 71 = .ok (.dup, 1) := by decide +kernel
theorem dX8_init_72 : decode cX8_init 72 = .ok (.invokespecial 48, 3) := by decide +kernel
theorem dX8_init_75 : decode cX8_init 75 = .ok (.putfield 49, 3) := by decide +kernel
theorem dX8_init_78 : decode cX8_init 78 = .ok (.aload_n 0, 1) := by decide +kernel
theorem dX8_init_79 : decode cX8_init 79 = .ok (.new 53, 3) := by decide +kernel
theorem dX8_init_82 : decode cX8_init 82 = .ok (.dup, 1) := by decide +kernel
theorem dX8_init_83 : decode cX8_init 83 = .ok (.invokespecial 55, 3) := by decide +kernel
theorem dX8_init_86 : decode cX8_init 86 = .ok (.putfield 56, 3) := by decide +kernel
theorem dX8_init_89 : decode cX8_init 89 = .ok (.aload_n 0, 1) := by decide +kernel
theorem dX8_init_90 : decode cX8_init 90 = .ok (.new 60, 3) := by decide +kernel
theorem dX8_init_93 : decode cX8_init 93 = .ok (.dup, 1) := by decide +kernel
theorem dX8_init_94 : decode cX8_init 94 = .ok (.invokespecial 62, 3) := by decide +kernel
theorem dX8_init_97 : decode cX8_init 97 = .ok (.putfield 63, 3) := by decide +kernel
theorem dX8_init_100 : decode cX8_init 100 = .ok (.return_, 1) := by decide +kernel
theorem dX8_type_0 : decode cX8_type 0 = .ok (.iload_n 1, 1) := by decide +kernel
theorem dX8_type_1 : decode cX8_type 1 = .ok (.iconst 0, 1) := by decide +kernel
theorem dX8_type_2 : decode cX8_type 2 = .ok (.sipush 255, 3) := by decide +kernel
theorem dX8_type_5 : decode cX8_type 5 = .ok (.invokestatic 67, 3) := by decide +kernel
theorem dX8_type_8 : decode cX8_type 8 = .ok (.ifCond .ne 5, 3) := by decide +kernel
theorem dX8_type_11 : decode cX8_type 11 = .ok (.iconst (-1), 1) := by decide +kernel
theorem dX8_type_12 : decode cX8_type 12 = .ok (.ireturn, 1) := by decide +kernel
theorem dX8_type_13 : decode cX8_type 13 = .ok (.aload_n 0, 1) := by decide +kernel
theorem dX8_type_14 : decode cX8_type 14 = .ok (.getfield 10, 3) := by decide +kernel
theorem dX8_type_17 : decode cX8_type 17 = .ok (.iload_n 1, 1) := by decide +kernel
theorem dX8_type_18 : decode cX8_type 18 = .ok (.invokevirtual 71, 3) := by decide +kernel
theorem dX8_type_21 : decode cX8_type 21 = .ok (.ifCond .eq 13, 3) := by decide +kernel
theorem dX8_type_24 : decode cX8_type 24 = .ok (.aload_n 0, 1) := by decide +kernel
theorem dX8_type_25 : decode cX8_type 25 = .ok (.getfield 10, 3) := by decide +kernel
theorem dX8_type_28 : decode cX8_type 28 = .ok (.getfield 75, 3) := by decide +kernel
theorem dX8_type_31 : decode cX8_type 31 = .ok (.goto 5, 3) := by decide +kernel
theorem dX8_type_34 : decode cX8_type 34 = .ok (.bipush (-3), 2) := by decide +kernel
theorem dX8_type_36 : decode cX8_type 36 = .ok (.ireturn, 1) := by decide +kernel
theorem dX8_clear_0 : decode cX8_clear 0 = .ok (.aload_n 0, 1) := by decide +kernel
theorem dX8_clear_1 : decode cX8_clear 1 = .ok (.getfield 10, 3) := by decide +kernel
theorem dX8_clear_4 : decode cX8_clear 4 = .ok (.getfield 75, 3) := by decide +kernel
theorem dX8_clear_7 : decode cX8_clear 7 = .ok (.istore_n 1, 1) := by decide +kernel
theorem dX8_clear_8 : decode cX8_clear 8 = .ok (.aload_n 0, 1) := by decide +kernel
theorem dX8_clear_9 : decode cX8_clear 9 = .ok (.getfield 10, 3) := by decide +kernel
theorem dX8_clear_12 : decode cX8_clear 12 = .ok (.iconst 0, 1) := by decide +kernel
theorem dX8_clear_13 : decode cX8_clear 13 = .ok (.putfield 75, 3) := by decide +kernel
theorem dX8_clear_16 : decode cX8_clear 16 = .ok (.iload_n 1, 1) := by decide +kernel
theorem dX8_clear_17 : decode cX8_clear 17 = .ok (.ireturn, 1) := by decide +kernel
theorem dX8_tells_0 : decode cX8_tells 0 = .ok (.aload_n 0, 1) := by decide +kernel
theorem dX8_tells_1 : decode cX8_tells 1 = .ok (.getfield 10, 3) := by decide +kernel
theorem dX8_tells_4 : decode cX8_tells 4 = .ok (.invokevirtual 79, 3) := by decide +kernel
theorem dX8_tells_7 : decode cX8_tells 7 = .ok (.istore_n 1, 1) := by decide +kernel
theorem dX8_tells_8 : decode cX8_tells 8 = .ok (.iload_n 1, 1) := by decide +kernel
theorem dX8_tells_9 : decode cX8_tells 9 = .ok (.ifCond .ge 5, 3) := by decide +kernel
theorem dX8_tells_12 : decode cX8_tells 12 = .ok (.iload_n 1, 1) := by decide +kernel
theorem dX8_tells_13 : decode cX8_tells 13 = .ok (.ireturn, 1) := by decide +kernel
theorem dX8_tells_14 : decode cX8_tells 14 = .ok (.aload_n 0, 1) := by decide +kernel
theorem dX8_tells_15 : decode cX8_tells 15 = .ok (.getfield 10, 3) := by decide +kernel
theorem dX8_tells_18 : decode cX8_tells 18 = .ok (.iconst 0, 1) := by decide +kernel
theorem dX8_tells_19 : decode cX8_tells 19 = .ok (.putfield 75, 3) := by decide +kernel
theorem dX8_tells_22 : decode cX8_tells 22 = .ok (.aload_n 0, 1) := by decide +kernel
theorem dX8_tells_23 : decode cX8_tells 23 = .ok (.getfield 19, 3) := by decide +kernel
theorem dX8_tells_26 : decode cX8_tells 26 = .ok (.aload_n 0, 1) := by decide +kernel
theorem dX8_tells_27 : decode cX8_tells 27 = .ok (.getfield 10, 3) := by decide +kernel
theorem dX8_tells_30 : decode cX8_tells 30 = .ok (.getfield 83, 3) := by decide +kernel
theorem dX8_tells_33 : decode cX8_tells 33 = .ok (.invokevirtual 86, 3) := by decide +kernel
theorem dX8_tells_36 : decode cX8_tells 36 = .ok (.aload_n 0, 1) := by decide +kernel
theorem dX8_tells_37 : decode cX8_tells 37 = .ok (.getfield 26, 3) := by decide +kernel
theorem dX8_tells_40 : decode cX8_tells 40 = .ok (.aload_n 0, 1) := by decide +kernel
theorem dX8_tells_41 : decode cX8_tells 41 = .ok (.getfield 19, 3) := by decide +kernel
theorem dX8_tells_44 : decode cX8_tells 44 = .ok (.invokevirtual 90, 3) := by decide +kernel
theorem dX8_tells_47 : decode cX8_tells 47 = .ok (.aload_n 0, 1) := by decide +kernel
theorem dX8_tells_48 : decode cX8_tells 48 = .ok (.getfield 42, 3) := by decide +kernel
theorem dX8_tells_51 : decode cX8_tells 51 = .ok (.invokevirtual 93, 3) := by decide +kernel
theorem dX8_tells_54 : decode cX8_tells 54 = .ok (.aload_n 0, 1) := by decide +kernel
theorem dX8_tells_55 : decode cX8_tells 55 = .ok (.getfield 49, 3) := by decide +kernel
theorem dX8_tells_58 : decode cX8_tells 58 = .ok (.invokevirtual 96, 3) := by decide +kernel
theorem dX8_tells_61 : decode cX8_tells 61 = .ok (.aload_n 0, 1) := by decide +kernel
theorem dX8_tells_62 : decode cX8_tells 62 = .ok (.getfield 63, 3) := by decide +kernel
theorem dX8_tells_65 : decode cX8_tells 65 = .ok (.iconst 0, 1) := by decide +kernel
theorem dX8_tells_66 : decode cX8_tells 66 = .ok (.putfield 97, 3) := by decide +kernel
theorem dX8_tells_69 : decode cX8_tells 69 = .ok (.iload_n 1, 1) := by decide +kernel
theorem dX8_tells_70 : decode cX8_tells 70 = .ok (.ireturn, 1) := by decide +kernel
theorem dX8_offers_0 : decode cX8_offers 0 = .ok (.aload_n 0, 1) := by decide +kernel
theorem dX8_offers_1 : decode cX8_offers 1 = .ok (.getfield 19, 3) := by decide +kernel
theorem dX8_offers_4 : decode cX8_offers 4 = .ok (.iload_n 1, 1) := by decide +kernel
theorem dX8_offers_5 : decode cX8_offers 5 = .ok (.invokevirtual 100, 3) := by decide +kernel
theorem dX8_offers_8 : decode cX8_offers 8 = .ok (.ifCond .eq 13, 3) := by decide +kernel
theorem dX8_offers_11 : decode cX8_offers 11 = .ok (.iload_n 2, 1) := by decide +kernel
theorem dX8_offers_12 : decode cX8_offers 12 = .ok (.iconst 0, 1) := by decide +kernel
theorem dX8_offers_13 : decode cX8_offers 13 = .ok (.bipush 100, 2) := by decide +kernel
theorem dX8_offers_15 : decode cX8_offers 15 = .ok (.invokestatic 67, 3) := by decide +kernel
theorem dX8_offers_18 : decode cX8_offers 18 = .ok (.ifCond .ne 5, 3) := by decide +kernel
theorem dX8_offers_21 : decode cX8_offers 21 = .ok (.iconst (-1), 1) := by decide +kernel
theorem dX8_offers_22 : decode cX8_offers 22 = .ok (.ireturn, 1) := by decide +kernel
theorem dX8_offers_23 : decode cX8_offers 23 = .ok (.aload_n 0, 1) := by decide +kernel
theorem dX8_offers_24 : decode cX8_offers 24 = .ok (.getfield 26, 3) := by decide +kernel
theorem dX8_offers_27 : decode cX8_offers 27 = .ok (.invokevirtual 103, 3) := by decide +kernel
theorem dX8_offers_30 : decode cX8_offers 30 = .ok (.bipush (-9), 2) := by decide +kernel
theorem dX8_offers_32 : decode cX8_offers 32 = .ok (.if_icmp .ne 6, 3) := by decide +kernel
theorem dX8_offers_35 : decode cX8_offers 35 = .ok (.bipush (-3), 2) := by decide +kernel
theorem dX8_offers_37 : decode cX8_offers 37 = .ok (.ireturn, 1) := by decide +kernel
theorem dX8_offers_38 : decode cX8_offers 38 = .ok (.aload_n 0, 1) := by decide +kernel
theorem dX8_offers_39 : decode cX8_offers 39 = .ok (.getfield 42, 3) := by decide +kernel
theorem dX8_offers_42 : decode cX8_offers 42 = .ok (.aload_n 0, 1) := by decide +kernel
theorem dX8_offers_43 : decode cX8_offers 43 = .ok (.getfield 26, 3) := by decide +kernel
theorem dX8_offers_46 : decode cX8_offers 46 = .ok (.invokevirtual 106, 3) := by decide +kernel
theorem dX8_offers_49 : decode cX8_offers 49 = .ok (.aload_n 0, 1) := by decide +kernel
theorem dX8_offers_50 : decode cX8_offers 50 = .ok (.getfield 35, 3) := by decide +kernel
theorem dX8_offers_53 : decode cX8_offers 53 = .ok (.iload_n 1, 1) := by decide +kernel
theorem dX8_offers_54 : decode cX8_offers 54 = .ok (.iload_n 2, 1) := by decide +kernel
theorem dX8_offers_55 : decode cX8_offers 55 = .ok (.invokevirtual 110, 3) := by decide +kernel
theorem dX8_offers_58 : decode cX8_offers 58 = .ok (.ireturn, 1) := by decide +kernel
theorem dX8_hears_0 : decode cX8_hears 0 = .ok (.aload_n 0, 1) := by decide +kernel
theorem dX8_hears_1 : decode cX8_hears 1 = .ok (.getfield 26, 3) := by decide +kernel
theorem dX8_hears_4 : decode cX8_hears 4 = .ok (.iload_n 1, 1) := by decide +kernel
theorem dX8_hears_5 : decode cX8_hears 5 = .ok (.invokevirtual 114, 3) := by decide +kernel
theorem dX8_hears_8 : decode cX8_hears 8 = .ok (.ifCond .eq 41, 3) := by decide +kernel
theorem dX8_hears_11 : decode cX8_hears 11 = .ok (.aload_n 0, 1) := by decide +kernel
theorem dX8_hears_12 : decode cX8_hears 12 = .ok (.iconst 0, 1) := by decide +kernel
theorem dX8_hears_13 : decode cX8_hears 13 = .ok (.iload_n 2, 1) := by decide +kernel
theorem dX8_hears_14 : decode cX8_hears 14 = .ok (.invokevirtual 115, 3) := by decide +kernel
theorem dX8_hears_17 : decode cX8_hears 17 = .ok (.ifCond .eq 32, 3) := by decide +kernel
theorem dX8_hears_20 : decode cX8_hears 20 = .ok (.aload_n 0, 1) := by decide +kernel
theorem dX8_hears_21 : decode cX8_hears 21 = .ok (.iconst 1, 1) := by decide +kernel
theorem dX8_hears_22 : decode cX8_hears 22 = .ok (.iload_n 3, 1) := by decide +kernel
theorem dX8_hears_23 : decode cX8_hears 23 = .ok (.invokevirtual 115, 3) := by decide +kernel
theorem dX8_hears_26 : decode cX8_hears 26 = .ok (.ifCond .eq 23, 3) := by decide +kernel
theorem dX8_hears_29 : decode cX8_hears 29 = .ok (.aload_n 0, 1) := by decide +kernel
theorem dX8_hears_30 : decode cX8_hears 30 = .ok (.iconst 2, 1) := by decide +kernel
theorem dX8_hears_31 : decode cX8_hears 31 = .ok (.iload 4, 2) := by decide +kernel
theorem dX8_hears_33 : decode cX8_hears 33 = .ok (.invokevirtual 115, 3) := by decide +kernel
theorem dX8_hears_36 : decode cX8_hears 36 = .ok (.ifCond .eq 13, 3) := by decide +kernel
theorem dX8_hears_39 : decode cX8_hears 39 = .ok (.aload_n 0, 1) := by decide +kernel
theorem dX8_hears_40 : decode cX8_hears 40 = .ok (.iconst 3, 1) := by decide +kernel
theorem dX8_hears_41 : decode cX8_hears 41 = .ok (.iload 5, 2) := by decide +kernel
theorem dX8_hears_43 : decode cX8_hears 43 = .ok (.invokevirtual 115, 3) := by decide +kernel
theorem dX8_hears_46 : decode cX8_hears 46 = .ok (.ifCond .ne 5, 3) := by decide +kernel
theorem dX8_hears_49 : decode cX8_hears 49 = .ok (.iconst (-1), 1) := by decide +kernel
theorem dX8_hears_50 : decode cX8_hears 50 = .ok (.ireturn, 1) := by decide +kernel
theorem dX8_hears_51 : decode cX8_hears 51 = .ok (.aload_n 0, 1) := by decide +kernel
theorem dX8_hears_52 : decode cX8_hears 52 = .ok (.getfield 42, 3) := by decide +kernel
theorem dX8_hears_55 : decode cX8_hears 55 = .ok (.aload_n 0, 1) := by decide +kernel
theorem dX8_hears_56 : decode cX8_hears 56 = .ok (.getfield 26, 3) := by decide +kernel
theorem dX8_hears_59 : decode cX8_hears 59 = .ok (.invokevirtual 106, 3) := by decide +kernel
theorem dX8_hears_62 : decode cX8_hears 62 = .ok (.aload_n 0, 1) := by decide +kernel
theorem dX8_hears_63 : decode cX8_hears 63 = .ok (.getfield 35, 3) := by decide +kernel
theorem dX8_hears_66 : decode cX8_hears 66 = .ok (.iload_n 2, 1) := by decide +kernel
theorem dX8_hears_67 : decode cX8_hears 67 = .ok (.iload_n 3, 1) := by decide +kernel
theorem dX8_hears_68 : decode cX8_hears 68 = .ok (.iload 4, 2) := by decide +kernel
theorem dX8_hears_70 : decode cX8_hears 70 = .ok (.iload 5, 2) := by decide +kernel
theorem dX8_hears_72 : decode cX8_hears 72 = .ok (.invokevirtual 119, 3) := by decide +kernel
theorem dX8_hears_75 : decode cX8_hears 75 = .ok (.aload_n 0, 1) := by decide +kernel
theorem dX8_hears_76 : decode cX8_hears 76 = .ok (.getfield 35, 3) := by decide +kernel
theorem dX8_hears_79 : decode cX8_hears 79 = .ok (.iload_n 1, 1) := by decide +kernel
theorem dX8_hears_80 : decode cX8_hears 80 = .ok (.invokevirtual 123, 3) := by decide +kernel
theorem dX8_hears_83 : decode cX8_hears 83 = .ok (.ireturn, 1) := by decide +kernel
theorem dX8_ends_0 : decode cX8_ends 0 = .ok (.aload_n 0, 1) := by decide +kernel
theorem dX8_ends_1 : decode cX8_ends 1 = .ok (.getfield 26, 3) := by decide +kernel
theorem dX8_ends_4 : decode cX8_ends 4 = .ok (.iload_n 1, 1) := by decide +kernel
theorem dX8_ends_5 : decode cX8_ends 5 = .ok (.invokevirtual 114, 3) := by decide +kernel
theorem dX8_ends_8 : decode cX8_ends 8 = .ok (.ifCond .ne 5, 3) := by decide +kernel
theorem dX8_ends_11 : decode cX8_ends 11 = .ok (.iconst (-1), 1) := by decide +kernel
theorem dX8_ends_12 : decode cX8_ends 12 = .ok (.ireturn, 1) := by decide +kernel
theorem dX8_ends_13 : decode cX8_ends 13 = .ok (.aload_n 0, 1) := by decide +kernel
theorem dX8_ends_14 : decode cX8_ends 14 = .ok (.getfield 42, 3) := by decide +kernel
theorem dX8_ends_17 : decode cX8_ends 17 = .ok (.aload_n 0, 1) := by decide +kernel
theorem dX8_ends_18 : decode cX8_ends 18 = .ok (.getfield 26, 3) := by decide +kernel
theorem dX8_ends_21 : decode cX8_ends 21 = .ok (.invokevirtual 106, 3) := by decide +kernel
theorem dX8_ends_24 : decode cX8_ends 24 = .ok (.aload_n 0, 1) := by decide +kernel
theorem dX8_ends_25 : decode cX8_ends 25 = .ok (.getfield 35, 3) := by decide +kernel
theorem dX8_ends_28 : decode cX8_ends 28 = .ok (.iload_n 1, 1) := by decide +kernel
theorem dX8_ends_29 : decode cX8_ends 29 = .ok (.invokevirtual 127, 3) := by decide +kernel
theorem dX8_ends_32 : decode cX8_ends 32 = .ok (.ireturn, 1) := by decide +kernel
theorem dX8_guards_0 : decode cX8_guards 0 = .ok (.aload_n 0, 1) := by decide +kernel
theorem dX8_guards_1 : decode cX8_guards 1 = .ok (.getfield 19, 3) := by decide +kernel
theorem dX8_guards_4 : decode cX8_guards 4 = .ok (.iload_n 1, 1) := by decide +kernel
theorem dX8_guards_5 : decode cX8_guards 5 = .ok (.invokevirtual 100, 3) := by decide +kernel
theorem dX8_guards_8 : decode cX8_guards 8 = .ok (.ifCond .eq 19, 3) := by decide +kernel
theorem dX8_guards_11 : decode cX8_guards 11 = .ok (.iload_n 2, 1) := by decide +kernel
theorem dX8_guards_12 : decode cX8_guards 12 = .ok (.iconst 0, 1) := by decide +kernel
theorem dX8_guards_13 : decode cX8_guards 13 = .ok (.aload_n 0, 1) := by decide +kernel
theorem dX8_guards_14 : decode cX8_guards 14 = .ok (.getfield 19, 3) := by decide +kernel
theorem dX8_guards_17 : decode cX8_guards 17 = .ok (.iload_n 1, 1) := by decide +kernel
theorem dX8_guards_18 : decode cX8_guards 18 = .ok (.invokevirtual 130, 3) := by decide +kernel
theorem dX8_guards_21 : decode cX8_guards 21 = .ok (.invokestatic 67, 3) := by decide +kernel
theorem dX8_guards_24 : decode cX8_guards 24 = .ok (.ifCond .ne 5, 3) := by decide +kernel
theorem dX8_guards_27 : decode cX8_guards 27 = .ok (.iconst (-1), 1) := by decide +kernel
theorem dX8_guards_28 : decode cX8_guards 28 = .ok (.ireturn, 1) := by decide +kernel
theorem dX8_guards_29 : decode cX8_guards 29 = .ok (.aload_n 0, 1) := by decide +kernel
theorem dX8_guards_30 : decode cX8_guards 30 = .ok (.getfield 26, 3) := by decide +kernel
theorem dX8_guards_33 : decode cX8_guards 33 = .ok (.getfield 133, 3) := by decide +kernel
theorem dX8_guards_36 : decode cX8_guards 36 = .ok (.iload_n 1, 1) := by decide +kernel
theorem dX8_guards_37 : decode cX8_guards 37 = .ok (.iaload, 1) := by decide +kernel
theorem dX8_guards_38 : decode cX8_guards 38 = .ok (.istore_n 3, 1) := by decide +kernel
theorem dX8_guards_39 : decode cX8_guards 39 = .ok (.iload_n 3, 1) := by decide +kernel
theorem dX8_guards_40 : decode cX8_guards 40 = .ok (.iload_n 2, 1) := by decide +kernel
theorem dX8_guards_41 : decode cX8_guards 41 = .ok (.if_icmp .ne 6, 3) := by decide +kernel
theorem dX8_guards_44 : decode cX8_guards 44 = .ok (.bipush (-2), 2) := by decide +kernel
theorem dX8_guards_46 : decode cX8_guards 46 = .ok (.ireturn, 1) := by decide +kernel
theorem dX8_guards_47 : decode cX8_guards 47 = .ok (.aload_n 0, 1) := by decide +kernel
theorem dX8_guards_48 : decode cX8_guards 48 = .ok (.getfield 42, 3) := by decide +kernel
theorem dX8_guards_51 : decode cX8_guards 51 = .ok (.aload_n 0, 1) := by decide +kernel
theorem dX8_guards_52 : decode cX8_guards 52 = .ok (.getfield 26, 3) := by decide +kernel
theorem dX8_guards_55 : decode cX8_guards 55 = .ok (.invokevirtual 106, 3) := by decide +kernel
theorem dX8_guards_58 : decode cX8_guards 58 = .ok (.aload_n 0, 1) := by decide +kernel
theorem dX8_guards_59 : decode cX8_guards 59 = .ok (.getfield 26, 3) := by decide +kernel
theorem dX8_guards_62 : decode cX8_guards 62 = .ok (.getfield 133, 3) := by decide +kernel
theorem dX8_guards_65 : decode cX8_guards 65 = .ok (.iload_n 1, 1) := by decide +kernel
theorem dX8_guards_66 : decode cX8_guards 66 = .ok (.iload_n 2, 1) := by decide +kernel
theorem dX8_guards_67 : decode cX8_guards 67 = .ok (.iastore, 1) := by decide +kernel
theorem dX8_guards_68 : decode cX8_guards 68 = .ok (.iload_n 3, 1) := by decide +kernel
theorem dX8_guards_69 : decode cX8_guards 69 = .ok (.ireturn, 1) := by decide +kernel
theorem dX8_seeds_0 : decode cX8_seeds 0 = .ok (.aload_n 0, 1) := by decide +kernel
theorem dX8_seeds_1 : decode cX8_seeds 1 = .ok (.getfield 26, 3) := by decide +kernel
theorem dX8_seeds_4 : decode cX8_seeds 4 = .ok (.getfield 137, 3) := by decide +kernel
theorem dX8_seeds_7 : decode cX8_seeds 7 = .ok (.istore_n 2, 1) := by decide +kernel
theorem dX8_seeds_8 : decode cX8_seeds 8 = .ok (.aload_n 0, 1) := by decide +kernel
theorem dX8_seeds_9 : decode cX8_seeds 9 = .ok (.getfield 26, 3) := by decide +kernel
theorem dX8_seeds_12 : decode cX8_seeds 12 = .ok (.iload_n 1, 1) := by decide +kernel
theorem dX8_seeds_13 : decode cX8_seeds 13 = .ok (.putfield 137, 3) := by decide +kernel
theorem dX8_seeds_16 : decode cX8_seeds 16 = .ok (.iload_n 2, 1) := by decide +kernel
theorem dX8_seeds_17 : decode cX8_seeds 17 = .ok (.ireturn, 1) := by decide +kernel
theorem dX8_undo_0 : decode cX8_undo 0 = .ok (.aload_n 0, 1) := by decide +kernel
theorem dX8_undo_1 : decode cX8_undo 1 = .ok (.getfield 42, 3) := by decide +kernel
theorem dX8_undo_4 : decode cX8_undo 4 = .ok (.aload_n 0, 1) := by decide +kernel
theorem dX8_undo_5 : decode cX8_undo 5 = .ok (.getfield 26, 3) := by decide +kernel
theorem dX8_undo_8 : decode cX8_undo 8 = .ok (.invokevirtual 140, 3) := by decide +kernel
theorem dX8_undo_11 : decode cX8_undo 11 = .ok (.ifCond .eq 13, 3) := by decide +kernel
theorem dX8_undo_14 : decode cX8_undo 14 = .ok (.aload_n 0, 1) := by decide +kernel
theorem dX8_undo_15 : decode cX8_undo 15 = .ok (.getfield 42, 3) := by decide +kernel
theorem dX8_undo_18 : decode cX8_undo 18 = .ok (.getfield 144, 3) := by decide +kernel
theorem dX8_undo_21 : decode cX8_undo 21 = .ok (.goto 5, 3) := by decide +kernel
theorem dX8_undo_24 : decode cX8_undo 24 = .ok (.bipush (-2), 2) := by decide +kernel
theorem dX8_undo_26 : decode cX8_undo 26 = .ok (.ireturn, 1) := by decide +kernel
theorem dX8_cell_0 : decode cX8_cell 0 = .ok (.aload_n 0, 1) := by decide +kernel
theorem dX8_cell_1 : decode cX8_cell 1 = .ok (.getfield 19, 3) := by decide +kernel
theorem dX8_cell_4 : decode cX8_cell 4 = .ok (.iload_n 1, 1) := by decide +kernel
theorem dX8_cell_5 : decode cX8_cell 5 = .ok (.invokevirtual 100, 3) := by decide +kernel
theorem dX8_cell_8 : decode cX8_cell 8 = .ok (.ifCond .ne 5, 3) := by decide +kernel
theorem dX8_cell_11 : decode cX8_cell 11 = .ok (.iconst (-1), 1) := by decide +kernel
theorem dX8_cell_12 : decode cX8_cell 12 = .ok (.ireturn, 1) := by decide +kernel
theorem dX8_cell_13 : decode cX8_cell 13 = .ok (.iload_n 2, 1) := by decide +kernel
theorem dX8_cell_14 : decode cX8_cell 14 = .ok (.tableswitch 95 0 5 #[38, 48, 58, 68, 77, 86], 38) := by decide +kernel
theorem dX8_cell_52 : decode cX8_cell 52 = .ok (.aload_n 0, 1) := by decide +kernel
theorem dX8_cell_53 : decode cX8_cell 53 = .ok (.getfield 19, 3) := by decide +kernel
theorem dX8_cell_56 : decode cX8_cell 56 = .ok (.getfield 147, 3) := by decide +kernel
theorem dX8_cell_59 : decode cX8_cell 59 = .ok (.iload_n 1, 1) := by decide +kernel
theorem dX8_cell_60 : decode cX8_cell 60 = .ok (.iaload, 1) := by decide +kernel
theorem dX8_cell_61 : decode cX8_cell 61 = .ok (.ireturn, 1) := by decide +kernel
theorem dX8_cell_62 : decode cX8_cell 62 = .ok (.aload_n 0, 1) := by decide +kernel
theorem dX8_cell_63 : decode cX8_cell 63 = .ok (.getfield 26, 3) := by decide +kernel
theorem dX8_cell_66 : decode cX8_cell 66 = .ok (.getfield 133, 3) := by decide +kernel
theorem dX8_cell_69 : decode cX8_cell 69 = .ok (.iload_n 1, 1) := by decide +kernel
theorem dX8_cell_70 : decode cX8_cell 70 = .ok (.iaload, 1) := by decide +kernel
theorem dX8_cell_71 : decode cX8_cell 71 = .ok (.ireturn, 1) := by decide +kernel
theorem dX8_cell_72 : decode cX8_cell 72 = .ok (.aload_n 0, 1) := by decide +kernel
theorem dX8_cell_73 : decode cX8_cell 73 = .ok (.getfield 19, 3) := by decide +kernel
theorem dX8_cell_76 : decode cX8_cell 76 = .ok (.getfield 150, 3) := by decide +kernel
theorem dX8_cell_79 : decode cX8_cell 79 = .ok (.iload_n 1, 1) := by decide +kernel
theorem dX8_cell_80 : decode cX8_cell 80 = .ok (.iaload, 1) := by decide +kernel
theorem dX8_cell_81 : decode cX8_cell 81 = .ok (.ireturn, 1) := by decide +kernel
theorem dX8_cell_82 : decode cX8_cell 82 = .ok (.aload_n 0, 1) := by decide +kernel
theorem dX8_cell_83 : decode cX8_cell 83 = .ok (.getfield 26, 3) := by decide +kernel
theorem dX8_cell_86 : decode cX8_cell 86 = .ok (.iload_n 1, 1) := by decide +kernel
theorem dX8_cell_87 : decode cX8_cell 87 = .ok (.invokevirtual 153, 3) := by decide +kernel
theorem dX8_cell_90 : decode cX8_cell 90 = .ok (.ireturn, 1) := by decide +kernel
theorem dX8_cell_91 : decode cX8_cell 91 = .ok (.aload_n 0, 1) := by decide +kernel
theorem dX8_cell_92 : decode cX8_cell 92 = .ok (.getfield 26, 3) := by decide +kernel
theorem dX8_cell_95 : decode cX8_cell 95 = .ok (.iload_n 1, 1) := by decide +kernel
theorem dX8_cell_96 : decode cX8_cell 96 = .ok (.invokevirtual 156, 3) := by decide +kernel
theorem dX8_cell_99 : decode cX8_cell 99 = .ok (.ireturn, 1) := by decide +kernel
theorem dX8_cell_100 : decode cX8_cell 100 = .ok (.aload_n 0, 1) := by decide +kernel
theorem dX8_cell_101 : decode cX8_cell 101 = .ok (.getfield 35, 3) := by decide +kernel
theorem dX8_cell_104 : decode cX8_cell 104 = .ok (.iload_n 1, 1) := by decide +kernel
theorem dX8_cell_105 : decode cX8_cell 105 = .ok (.invokevirtual 159, 3) := by decide +kernel
theorem dX8_cell_108 : decode cX8_cell 108 = .ok (.ireturn, 1) := by decide +kernel
theorem dX8_cell_109 : decode cX8_cell 109 = .ok (.iload_n 2, 1) := by decide +kernel
theorem dX8_cell_110 : decode cX8_cell 110 = .ok (.bipush 6, 2) := by decide +kernel
theorem dX8_cell_112 : decode cX8_cell 112 = .ok (.bipush 11, 2) := by decide +kernel
theorem dX8_cell_114 : decode cX8_cell 114 = .ok (.invokestatic 67, 3) := by decide +kernel
theorem dX8_cell_117 : decode cX8_cell 117 = .ok (.ifCond .eq 23, 3) := by decide +kernel
theorem dX8_cell_120 : decode cX8_cell 120 = .ok (.aload_n 0, 1) := by decide +kernel
theorem dX8_cell_121 : decode cX8_cell 121 = .ok (.getfield 26, 3) := by decide +kernel
theorem dX8_cell_124 : decode cX8_cell 124 = .ok (.getfield 162, 3) := by decide +kernel
theorem dX8_cell_127 : decode cX8_cell 127 = .ok (.iload_n 1, 1) := by decide +kernel
theorem dX8_cell_128 : decode cX8_cell 128 = .ok (.bipush 6, 2) := by decide +kernel
theorem dX8_cell_130 : decode cX8_cell 130 = .ok (.imul, 1) := by decide +kernel
theorem dX8_cell_131 : decode cX8_cell 131 = .ok (.iload_n 2, 1) := by decide +kernel
theorem dX8_cell_132 : decode cX8_cell 132 = .ok (.iadd, 1) := by decide +kernel
theorem dX8_cell_133 : decode cX8_cell 133 = .ok (.bipush 6, 2) := by decide +kernel
theorem dX8_cell_135 : decode cX8_cell 135 = .ok (.isub, 1) := by decide +kernel
theorem dX8_cell_136 : decode cX8_cell 136 = .ok (.iaload, 1) := by decide +kernel
theorem dX8_cell_137 : decode cX8_cell 137 = .ok (.goto 4, 3) := by decide +kernel
theorem dX8_cell_140 : decode cX8_cell 140 = .ok (.iconst (-1), 1) := by decide +kernel
theorem dX8_cell_141 : decode cX8_cell 141 = .ok (.ireturn, 1) := by decide +kernel
theorem dX8_call_0 : decode cX8_call 0 = .ok (.aload_n 0, 1) := by decide +kernel
theorem dX8_call_1 : decode cX8_call 1 = .ok (.getfield 26, 3) := by decide +kernel
theorem dX8_call_4 : decode cX8_call 4 = .ok (.iload_n 1, 1) := by decide +kernel
theorem dX8_call_5 : decode cX8_call 5 = .ok (.invokevirtual 114, 3) := by decide +kernel
theorem dX8_call_8 : decode cX8_call 8 = .ok (.ifCond .ne 6, 3) := by decide +kernel
theorem dX8_call_11 : decode cX8_call 11 = .ok (.ldc 165, 2) := by decide +kernel
theorem dX8_call_13 : decode cX8_call 13 = .ok (.ireturn, 1) := by decide +kernel
theorem dX8_call_14 : decode cX8_call 14 = .ok (.iload_n 2, 1) := by decide +kernel
theorem dX8_call_15 : decode cX8_call 15 = .ok (.tableswitch 111 0 6 #[41, 51, 61, 71, 81, 91, 101], 41) := by decide +kernel
theorem dX8_call_56 : decode cX8_call 56 = .ok (.aload_n 0, 1) := by decide +kernel
theorem dX8_call_57 : decode cX8_call 57 = .ok (.getfield 26, 3) := by decide +kernel
theorem dX8_call_60 : decode cX8_call 60 = .ok (.getfield 166, 3) := by decide +kernel
theorem dX8_call_63 : decode cX8_call 63 = .ok (.iload_n 1, 1) := by decide +kernel
theorem dX8_call_64 : decode cX8_call 64 = .ok (.iaload, 1) := by decide +kernel
theorem dX8_call_65 : decode cX8_call 65 = .ok (.ireturn, 1) := by decide +kernel
theorem dX8_call_66 : decode cX8_call 66 = .ok (.aload_n 0, 1) := by decide +kernel
theorem dX8_call_67 : decode cX8_call 67 = .ok (.getfield 26, 3) := by decide +kernel
theorem dX8_call_70 : decode cX8_call 70 = .ok (.getfield 169, 3) := by decide +kernel
theorem dX8_call_73 : decode cX8_call 73 = .ok (.iload_n 1, 1) := by decide +kernel
theorem dX8_call_74 : decode cX8_call 74 = .ok (.iaload, 1) := by decide +kernel
theorem dX8_call_75 : decode cX8_call 75 = .ok (.ireturn, 1) := by decide +kernel
theorem dX8_call_76 : decode cX8_call 76 = .ok (.aload_n 0, 1) := by decide +kernel
theorem dX8_call_77 : decode cX8_call 77 = .ok (.getfield 26, 3) := by decide +kernel
theorem dX8_call_80 : decode cX8_call 80 = .ok (.getfield 172, 3) := by decide +kernel
theorem dX8_call_83 : decode cX8_call 83 = .ok (.iload_n 1, 1) := by decide +kernel
theorem dX8_call_84 : decode cX8_call 84 = .ok (.iaload, 1) := by decide +kernel
theorem dX8_call_85 : decode cX8_call 85 = .ok (.ireturn, 1) := by decide +kernel
theorem dX8_call_86 : decode cX8_call 86 = .ok (.aload_n 0, 1) := by decide +kernel
theorem dX8_call_87 : decode cX8_call 87 = .ok (.getfield 26, 3) := by decide +kernel
theorem dX8_call_90 : decode cX8_call 90 = .ok (.getfield 175, 3) := by decide +kernel
theorem dX8_call_93 : decode cX8_call 93 = .ok (.iload_n 1, 1) := by decide +kernel
theorem dX8_call_94 : decode cX8_call 94 = .ok (.iaload, 1) := by decide +kernel
theorem dX8_call_95 : decode cX8_call 95 = .ok (.ireturn, 1) := by decide +kernel
theorem dX8_call_96 : decode cX8_call 96 = .ok (.aload_n 0, 1) := by decide +kernel
theorem dX8_call_97 : decode cX8_call 97 = .ok (.getfield 26, 3) := by decide +kernel
theorem dX8_call_100 : decode cX8_call 100 = .ok (.getfield 178, 3) := by decide +kernel
theorem dX8_call_103 : decode cX8_call 103 = .ok (.iload_n 1, 1) := by decide +kernel
theorem dX8_call_104 : decode cX8_call 104 = .ok (.iaload, 1) := by decide +kernel
theorem dX8_call_105 : decode cX8_call 105 = .ok (.ireturn, 1) := by decide +kernel
theorem dX8_call_106 : decode cX8_call 106 = .ok (.aload_n 0, 1) := by decide +kernel
theorem dX8_call_107 : decode cX8_call 107 = .ok (.getfield 26, 3) := by decide +kernel
theorem dX8_call_110 : decode cX8_call 110 = .ok (.getfield 181, 3) := by decide +kernel
theorem dX8_call_113 : decode cX8_call 113 = .ok (.iload_n 1, 1) := by decide +kernel
theorem dX8_call_114 : decode cX8_call 114 = .ok (.iaload, 1) := by decide +kernel
theorem dX8_call_115 : decode cX8_call 115 = .ok (.ireturn, 1) := by decide +kernel
theorem dX8_call_116 : decode cX8_call 116 = .ok (.aload_n 0, 1) := by decide +kernel
theorem dX8_call_117 : decode cX8_call 117 = .ok (.getfield 26, 3) := by decide +kernel
theorem dX8_call_120 : decode cX8_call 120 = .ok (.getfield 184, 3) := by decide +kernel
theorem dX8_call_123 : decode cX8_call 123 = .ok (.iload_n 1, 1) := by decide +kernel
theorem dX8_call_124 : decode cX8_call 124 = .ok (.iaload, 1) := by decide +kernel
theorem dX8_call_125 : decode cX8_call 125 = .ok (.ireturn, 1) := by decide +kernel
theorem dX8_call_126 : decode cX8_call 126 = .ok (.ldc 165, 2) := by decide +kernel
theorem dX8_call_128 : decode cX8_call 128 = .ok (.ireturn, 1) := by decide +kernel
theorem dX8_level_0 : decode cX8_level 0 = .ok (.aload_n 0, 1) := by decide +kernel
theorem dX8_level_1 : decode cX8_level 1 = .ok (.getfield 26, 3) := by decide +kernel
theorem dX8_level_4 : decode cX8_level 4 = .ok (.iload_n 1, 1) := by decide +kernel
theorem dX8_level_5 : decode cX8_level 5 = .ok (.invokevirtual 114, 3) := by decide +kernel
theorem dX8_level_8 : decode cX8_level 8 = .ok (.ifCond .eq 23, 3) := by decide +kernel
theorem dX8_level_11 : decode cX8_level 11 = .ok (.aload_n 0, 1) := by decide +kernel
theorem dX8_level_12 : decode cX8_level 12 = .ok (.getfield 19, 3) := by decide +kernel
theorem dX8_level_15 : decode cX8_level 15 = .ok (.iload_n 2, 1) := by decide +kernel
theorem dX8_level_16 : decode cX8_level 16 = .ok (.invokevirtual 100, 3) := by decide +kernel
theorem dX8_level_19 : decode cX8_level 19 = .ok (.ifCond .eq 12, 3) := by decide +kernel
theorem dX8_level_22 : decode cX8_level 22 = .ok (.iload_n 3, 1) := by decide +kernel
theorem dX8_level_23 : decode cX8_level 23 = .ok (.iconst 0, 1) := by decide +kernel
theorem dX8_level_24 : decode cX8_level 24 = .ok (.iconst 1, 1) := by decide +kernel
theorem dX8_level_25 : decode cX8_level 25 = .ok (.invokestatic 67, 3) := by decide +kernel
theorem dX8_level_28 : decode cX8_level 28 = .ok (.ifCond .ne 5, 3) := by decide +kernel
theorem dX8_level_31 : decode cX8_level 31 = .ok (.iconst (-1), 1) := by decide +kernel
theorem dX8_level_32 : decode cX8_level 32 = .ok (.ireturn, 1) := by decide +kernel
theorem dX8_level_33 : decode cX8_level 33 = .ok (.iload_n 1, 1) := by decide +kernel
theorem dX8_level_34 : decode cX8_level 34 = .ok (.iconst 4, 1) := by decide +kernel
theorem dX8_level_35 : decode cX8_level 35 = .ok (.imul, 1) := by decide +kernel
theorem dX8_level_36 : decode cX8_level 36 = .ok (.iload_n 2, 1) := by decide +kernel
theorem dX8_level_37 : decode cX8_level 37 = .ok (.iadd, 1) := by decide +kernel
theorem dX8_level_38 : decode cX8_level 38 = .ok (.istore 4, 2) := by decide +kernel
theorem dX8_level_40 : decode cX8_level 40 = .ok (.iload_n 3, 1) := by decide +kernel
theorem dX8_level_41 : decode cX8_level 41 = .ok (.ifCond .ne 16, 3) := by decide +kernel
theorem dX8_level_44 : decode cX8_level 44 = .ok (.aload_n 0, 1) := by decide +kernel
theorem dX8_level_45 : decode cX8_level 45 = .ok (.getfield 26, 3) := by decide +kernel
theorem dX8_level_48 : decode cX8_level 48 = .ok (.getfield 187, 3) := by decide +kernel
theorem dX8_level_51 : decode cX8_level 51 = .ok (.iload 4, 2) := by decide +kernel
theorem dX8_level_53 : decode cX8_level 53 = .ok (.iaload, 1) := by decide +kernel
theorem dX8_level_54 : decode cX8_level 54 = .ok (.goto 13, 3) := by decide +kernel
theorem dX8_level_57 : decode cX8_level 57 = .ok (.aload_n 0, 1) := by decide +kernel
theorem dX8_level_58 : decode cX8_level 58 = .ok (.getfield 26, 3) := by decide +kernel
theorem dX8_level_61 : decode cX8_level 61 = .ok (.getfield 190, 3) := by decide +kernel
theorem dX8_level_64 : decode cX8_level 64 = .ok (.iload 4, 2) := by decide +kernel
theorem dX8_level_66 : decode cX8_level 66 = .ok (.iaload, 1) := by decide +kernel
theorem dX8_level_67 : decode cX8_level 67 = .ok (.ireturn, 1) := by decide +kernel
theorem dX8_queued_0 : decode cX8_queued 0 = .ok (.aload_n 0, 1) := by decide +kernel
theorem dX8_queued_1 : decode cX8_queued 1 = .ok (.getfield 19, 3) := by decide +kernel
theorem dX8_queued_4 : decode cX8_queued 4 = .ok (.iload_n 1, 1) := by decide +kernel
theorem dX8_queued_5 : decode cX8_queued 5 = .ok (.invokevirtual 100, 3) := by decide +kernel
theorem dX8_queued_8 : decode cX8_queued 8 = .ok (.ifCond .eq 7, 3) := by decide +kernel
theorem dX8_queued_11 : decode cX8_queued 11 = .ok (.iload_n 2, 1) := by decide +kernel
theorem dX8_queued_12 : decode cX8_queued 12 = .ok (.ifCond .ge 5, 3) := by decide +kernel
theorem dX8_queued_15 : decode cX8_queued 15 = .ok (.iconst (-1), 1) := by decide +kernel
theorem dX8_queued_16 : decode cX8_queued 16 = .ok (.ireturn, 1) := by decide +kernel
theorem dX8_queued_17 : decode cX8_queued 17 = .ok (.aload_n 0, 1) := by decide +kernel
theorem dX8_queued_18 : decode cX8_queued 18 = .ok (.getfield 35, 3) := by decide +kernel
theorem dX8_queued_21 : decode cX8_queued 21 = .ok (.iload_n 1, 1) := by decide +kernel
theorem dX8_queued_22 : decode cX8_queued 22 = .ok (.iload_n 2, 1) := by decide +kernel
theorem dX8_queued_23 : decode cX8_queued 23 = .ok (.invokevirtual 193, 3) := by decide +kernel
theorem dX8_queued_26 : decode cX8_queued 26 = .ok (.ireturn, 1) := by decide +kernel
theorem dX8_pair_0 : decode cX8_pair 0 = .ok (.iload_n 1, 1) := by decide +kernel
theorem dX8_pair_1 : decode cX8_pair 1 = .ok (.ifCond .lt 12, 3) := by decide +kernel
theorem dX8_pair_4 : decode cX8_pair 4 = .ok (.iload_n 2, 1) := by decide +kernel
theorem dX8_pair_5 : decode cX8_pair 5 = .ok (.iconst 0, 1) := by decide +kernel
theorem dX8_pair_6 : decode cX8_pair 6 = .ok (.iconst 2, 1) := by decide +kernel
theorem dX8_pair_7 : decode cX8_pair 7 = .ok (.invokestatic 67, 3) := by decide +kernel
theorem dX8_pair_10 : decode cX8_pair 10 = .ok (.ifCond .ne 5, 3) := by decide +kernel
theorem dX8_pair_13 : decode cX8_pair 13 = .ok (.iconst (-1), 1) := by decide +kernel
theorem dX8_pair_14 : decode cX8_pair 14 = .ok (.ireturn, 1) := by decide +kernel
theorem dX8_pair_15 : decode cX8_pair 15 = .ok (.iload_n 1, 1) := by decide +kernel
theorem dX8_pair_16 : decode cX8_pair 16 = .ok (.aload_n 0, 1) := by decide +kernel
theorem dX8_pair_17 : decode cX8_pair 17 = .ok (.getfield 26, 3) := by decide +kernel
theorem dX8_pair_20 : decode cX8_pair 20 = .ok (.getfield 196, 3) := by decide +kernel
theorem dX8_pair_23 : decode cX8_pair 23 = .ok (.if_icmp .ge 9, 3) := by decide +kernel
theorem dX8_pair_26 : decode cX8_pair 26 = .ok (.iload_n 1, 1) := by decide +kernel
theorem dX8_pair_27 : decode cX8_pair 27 = .ok (.bipush 12, 2) := by decide +kernel
theorem dX8_pair_29 : decode cX8_pair 29 = .ok (.if_icmp .lt 6, 3) := by decide +kernel
theorem dX8_pair_32 : decode cX8_pair 32 = .ok (.bipush (-9), 2) := by decide +kernel
theorem dX8_pair_34 : decode cX8_pair 34 = .ok (.ireturn, 1) := by decide +kernel
theorem dX8_pair_35 : decode cX8_pair 35 = .ok (.iload_n 2, 1) := by decide +kernel
theorem dX8_pair_36 : decode cX8_pair 36 = .ok (.ifCond .ne 13, 3) := by decide +kernel
theorem dX8_pair_39 : decode cX8_pair 39 = .ok (.aload_n 0, 1) := by decide +kernel
theorem dX8_pair_40 : decode cX8_pair 40 = .ok (.getfield 26, 3) := by decide +kernel
theorem dX8_pair_43 : decode cX8_pair 43 = .ok (.getfield 199, 3) := by decide +kernel
theorem dX8_pair_46 : decode cX8_pair 46 = .ok (.iload_n 1, 1) := by decide +kernel
theorem dX8_pair_47 : decode cX8_pair 47 = .ok (.iaload, 1) := by decide +kernel
theorem dX8_pair_48 : decode cX8_pair 48 = .ok (.ireturn, 1) := by decide +kernel
theorem dX8_pair_49 : decode cX8_pair 49 = .ok (.iload_n 2, 1) := by decide +kernel
theorem dX8_pair_50 : decode cX8_pair 50 = .ok (.iconst 1, 1) := by decide +kernel
theorem dX8_pair_51 : decode cX8_pair 51 = .ok (.if_icmp .ne 15, 3) := by decide +kernel
theorem dX8_pair_54 : decode cX8_pair 54 = .ok (.aload_n 0, 1) := by decide +kernel
theorem dX8_pair_55 : decode cX8_pair 55 = .ok (.getfield 26, 3) := by decide +kernel
theorem dX8_pair_58 : decode cX8_pair 58 = .ok (.getfield 202, 3) := by decide +kernel
theorem dX8_pair_61 : decode cX8_pair 61 = .ok (.iload_n 1, 1) := by decide +kernel
theorem dX8_pair_62 : decode cX8_pair 62 = .ok (.iaload, 1) := by decide +kernel
theorem dX8_pair_63 : decode cX8_pair 63 = .ok (.goto 12, 3) := by decide +kernel
theorem dX8_pair_66 : decode cX8_pair 66 = .ok (.aload_n 0, 1) := by decide +kernel
theorem dX8_pair_67 : decode cX8_pair 67 = .ok (.getfield 26, 3) := by decide +kernel
theorem dX8_pair_70 : decode cX8_pair 70 = .ok (.getfield 205, 3) := by decide +kernel
theorem dX8_pair_73 : decode cX8_pair 73 = .ok (.iload_n 1, 1) := by decide +kernel
theorem dX8_pair_74 : decode cX8_pair 74 = .ok (.iaload, 1) := by decide +kernel
theorem dX8_pair_75 : decode cX8_pair 75 = .ok (.ireturn, 1) := by decide +kernel
theorem dX8_lost_0 : decode cX8_lost 0 = .ok (.aload_n 0, 1) := by decide +kernel
theorem dX8_lost_1 : decode cX8_lost 1 = .ok (.getfield 19, 3) := by decide +kernel
theorem dX8_lost_4 : decode cX8_lost 4 = .ok (.iload_n 1, 1) := by decide +kernel
theorem dX8_lost_5 : decode cX8_lost 5 = .ok (.invokevirtual 100, 3) := by decide +kernel
theorem dX8_lost_8 : decode cX8_lost 8 = .ok (.ifCond .eq 33, 3) := by decide +kernel
theorem dX8_lost_11 : decode cX8_lost 11 = .ok (.iload_n 2, 1) := by decide +kernel
theorem dX8_lost_12 : decode cX8_lost 12 = .ok (.iload_n 3, 1) := by decide +kernel
theorem dX8_lost_13 : decode cX8_lost 13 = .ok (.iload 4, 2) := by decide +kernel
theorem dX8_lost_15 : decode cX8_lost 15 = .ok (.invokestatic 208, 3) := by decide +kernel
theorem dX8_lost_18 : decode cX8_lost 18 = .ok (.ifCond .eq 23, 3) := by decide +kernel
theorem dX8_lost_21 : decode cX8_lost 21 = .ok (.iload 5, 2) := by decide +kernel
theorem dX8_lost_23 : decode cX8_lost 23 = .ok (.iconst 0, 1) := by decide +kernel
theorem dX8_lost_24 : decode cX8_lost 24 = .ok (.iconst 2, 1) := by decide +kernel
theorem dX8_lost_25 : decode cX8_lost 25 = .ok (.invokestatic 67, 3) := by decide +kernel
theorem dX8_lost_28 : decode cX8_lost 28 = .ok (.ifCond .eq 13, 3) := by decide +kernel
theorem dX8_lost_31 : decode cX8_lost 31 = .ok (.iload 6, 2) := by decide +kernel
theorem dX8_lost_33 : decode cX8_lost 33 = .ok (.iconst 0, 1) := by decide +kernel
theorem dX8_lost_34 : decode cX8_lost 34 = .ok (.iconst 1, 1) := by decide +kernel
theorem dX8_lost_35 : decode cX8_lost 35 = .ok (.invokestatic 67, 3) := by decide +kernel
theorem dX8_lost_38 : decode cX8_lost 38 = .ok (.ifCond .ne 7, 3) := by decide +kernel
theorem dX8_lost_41 : decode cX8_lost 41 = .ok (.ldc2_w 211, 3) := by decide +kernel
theorem dX8_lost_44 : decode cX8_lost 44 = .ok (.lreturn, 1) := by decide +kernel
theorem dX8_lost_45 : decode cX8_lost 45 = .ok (.aload_n 0, 1) := by decide +kernel
theorem dX8_lost_46 : decode cX8_lost 46 = .ok (.getfield 56, 3) := by decide +kernel
theorem dX8_lost_49 : decode cX8_lost 49 = .ok (.aload_n 0, 1) := by decide +kernel
theorem dX8_lost_50 : decode cX8_lost 50 = .ok (.getfield 19, 3) := by decide +kernel
theorem dX8_lost_53 : decode cX8_lost 53 = .ok (.getfield 147, 3) := by decide +kernel
theorem dX8_lost_56 : decode cX8_lost 56 = .ok (.iload_n 1, 1) := by decide +kernel
theorem dX8_lost_57 : decode cX8_lost 57 = .ok (.iaload, 1) := by decide +kernel
theorem dX8_lost_58 : decode cX8_lost 58 = .ok (.aload_n 0, 1) := by decide +kernel
theorem dX8_lost_59 : decode cX8_lost 59 = .ok (.getfield 26, 3) := by decide +kernel
theorem dX8_lost_62 : decode cX8_lost 62 = .ok (.getfield 133, 3) := by decide +kernel
theorem dX8_lost_65 : decode cX8_lost 65 = .ok (.iload_n 1, 1) := by decide +kernel
theorem dX8_lost_66 : decode cX8_lost 66 = .ok (.iaload, 1) := by decide +kernel
theorem dX8_lost_67 : decode cX8_lost 67 = .ok (.iload_n 2, 1) := by decide +kernel
theorem dX8_lost_68 : decode cX8_lost 68 = .ok (.iload_n 3, 1) := by decide +kernel
theorem dX8_lost_69 : decode cX8_lost 69 = .ok (.iload 4, 2) := by decide +kernel
theorem dX8_lost_71 : decode cX8_lost 71 = .ok (.invokevirtual 213, 3) := by decide +kernel
theorem dX8_lost_74 : decode cX8_lost 74 = .ok (.aload_n 0, 1) := by decide +kernel
theorem dX8_lost_75 : decode cX8_lost 75 = .ok (.getfield 56, 3) := by decide +kernel
theorem dX8_lost_78 : decode cX8_lost 78 = .ok (.iload 5, 2) := by decide +kernel
theorem dX8_lost_80 : decode cX8_lost 80 = .ok (.invokevirtual 217, 3) := by decide +kernel
theorem dX8_lost_83 : decode cX8_lost 83 = .ok (.lstore 7, 2) := by decide +kernel
theorem dX8_lost_85 : decode cX8_lost 85 = .ok (.aload_n 0, 1) := by decide +kernel
theorem dX8_lost_86 : decode cX8_lost 86 = .ok (.getfield 56, 3) := by decide +kernel
theorem dX8_lost_89 : decode cX8_lost 89 = .ok (.iload 5, 2) := by decide +kernel
theorem dX8_lost_91 : decode cX8_lost 91 = .ok (.invokevirtual 221, 3) := by decide +kernel
theorem dX8_lost_94 : decode cX8_lost 94 = .ok (.lstore 9, 2) := by decide +kernel
theorem dX8_lost_96 : decode cX8_lost 96 = .ok (.lload 7, 2) := by decide +kernel
theorem dX8_lost_98 : decode cX8_lost 98 = .ok (.lload 9, 2) := by decide +kernel
theorem dX8_lost_100 : decode cX8_lost 100 = .ok (.invokestatic 224, 3) := by decide +kernel
theorem dX8_lost_103 : decode cX8_lost 103 = .ok (.lstore 11, 2) := by decide +kernel
theorem dX8_lost_105 : decode cX8_lost 105 = .ok (.lload 11, 2) := by decide +kernel
theorem dX8_lost_107 : decode cX8_lost 107 = .ok (.lconst 0, 1) := by decide +kernel
theorem dX8_lost_108 : decode cX8_lost 108 = .ok (.lcmp, 1) := by decide +kernel
theorem dX8_lost_109 : decode cX8_lost 109 = .ok (.ifCond .gt 7, 3) := by decide +kernel
theorem dX8_lost_112 : decode cX8_lost 112 = .ok (.ldc2_w 211, 3) := by decide +kernel
theorem dX8_lost_115 : decode cX8_lost 115 = .ok (.lreturn, 1) := by decide +kernel
theorem dX8_lost_116 : decode cX8_lost 116 = .ok (.iload 6, 2) := by decide +kernel
theorem dX8_lost_118 : decode cX8_lost 118 = .ok (.ifCond .ne 8, 3) := by decide +kernel
theorem dX8_lost_121 : decode cX8_lost 121 = .ok (.lload 7, 2) := by decide +kernel
theorem dX8_lost_123 : decode cX8_lost 123 = .ok (.goto 5, 3) := by decide +kernel
theorem dX8_lost_126 : decode cX8_lost 126 = .ok (.lload 9, 2) := by decide +kernel
theorem dX8_lost_128 : decode cX8_lost 128 = .ok (.lload 11, 2) := by decide +kernel
theorem dX8_lost_130 : decode cX8_lost 130 = .ok (.ldiv, 1) := by decide +kernel
theorem dX8_lost_131 : decode cX8_lost 131 = .ok (.lreturn, 1) := by decide +kernel
theorem dX8_best_0 : decode cX8_best 0 = .ok (.aload_n 0, 1) := by decide +kernel
theorem dX8_best_1 : decode cX8_best 1 = .ok (.getfield 19, 3) := by decide +kernel
theorem dX8_best_4 : decode cX8_best 4 = .ok (.iload_n 1, 1) := by decide +kernel
theorem dX8_best_5 : decode cX8_best 5 = .ok (.invokevirtual 100, 3) := by decide +kernel
theorem dX8_best_8 : decode cX8_best 8 = .ok (.ifCond .eq 25, 3) := by decide +kernel
theorem dX8_best_11 : decode cX8_best 11 = .ok (.iload_n 2, 1) := by decide +kernel
theorem dX8_best_12 : decode cX8_best 12 = .ok (.iload_n 3, 1) := by decide +kernel
theorem dX8_best_13 : decode cX8_best 13 = .ok (.iload 4, 2) := by decide +kernel
theorem dX8_best_15 : decode cX8_best 15 = .ok (.invokestatic 208, 3) := by decide +kernel
theorem dX8_best_18 : decode cX8_best 18 = .ok (.ifCond .eq 15, 3) := by decide +kernel
theorem dX8_best_21 : decode cX8_best 21 = .ok (.iload 5, 2) := by decide +kernel
theorem dX8_best_23 : decode cX8_best 23 = .ok (.iconst 1, 1) := by decide +kernel
theorem dX8_best_24 : decode cX8_best 24 = .ok (.sipush 1000, 3) := by decide +kernel
theorem dX8_best_27 : decode cX8_best 27 = .ok (.invokestatic 67, 3) := by decide +kernel
theorem dX8_best_30 : decode cX8_best 30 = .ok (.ifCond .ne 5, 3) := by decide +kernel
theorem dX8_best_33 : decode cX8_best 33 = .ok (.iconst (-1), 1) := by decide +kernel
theorem dX8_best_34 : decode cX8_best 34 = .ok (.ireturn, 1) := by decide +kernel
theorem dX8_best_35 : decode cX8_best 35 = .ok (.aload_n 0, 1) := by decide +kernel
theorem dX8_best_36 : decode cX8_best 36 = .ok (.getfield 19, 3) := by decide +kernel
theorem dX8_best_39 : decode cX8_best 39 = .ok (.iload_n 1, 1) := by decide +kernel
theorem dX8_best_40 : decode cX8_best 40 = .ok (.invokevirtual 130, 3) := by decide +kernel
theorem dX8_best_43 : decode cX8_best 43 = .ok (.istore 6, 2) := by decide +kernel
theorem dX8_best_45 : decode cX8_best 45 = .ok (.iconst 0, 1) := by decide +kernel
theorem dX8_best_46 : decode cX8_best 46 = .ok (.istore 7, 2) := by decide +kernel
theorem dX8_best_48 : decode cX8_best 48 = .ok (.iload 7, 2) := by decide +kernel
theorem dX8_best_50 : decode cX8_best 50 = .ok (.iload 6, 2) := by decide +kernel
theorem dX8_best_52 : decode cX8_best 52 = .ok (.if_icmp .gt 46, 3) := by decide +kernel
theorem dX8_best_55 : decode cX8_best 55 = .ok (.aload_n 0, 1) := by decide +kernel
theorem dX8_best_56 : decode cX8_best 56 = .ok (.getfield 56, 3) := by decide +kernel
theorem dX8_best_59 : decode cX8_best 59 = .ok (.aload_n 0, 1) := by decide +kernel
theorem dX8_best_60 : decode cX8_best 60 = .ok (.getfield 19, 3) := by decide +kernel
theorem dX8_best_63 : decode cX8_best 63 = .ok (.getfield 147, 3) := by decide +kernel
theorem dX8_best_66 : decode cX8_best 66 = .ok (.iload_n 1, 1) := by decide +kernel
theorem dX8_best_67 : decode cX8_best 67 = .ok (.iaload, 1) := by decide +kernel
theorem dX8_best_68 : decode cX8_best 68 = .ok (.iload 7, 2) := by decide +kernel
theorem dX8_best_70 : decode cX8_best 70 = .ok (.iload_n 2, 1) := by decide +kernel
theorem dX8_best_71 : decode cX8_best 71 = .ok (.iload_n 3, 1) := by decide +kernel
theorem dX8_best_72 : decode cX8_best 72 = .ok (.iload 4, 2) := by decide +kernel
theorem dX8_best_74 : decode cX8_best 74 = .ok (.invokevirtual 213, 3) := by decide +kernel
theorem dX8_best_77 : decode cX8_best 77 = .ok (.aload_n 0, 1) := by decide +kernel
theorem dX8_best_78 : decode cX8_best 78 = .ok (.getfield 56, 3) := by decide +kernel
theorem dX8_best_81 : decode cX8_best 81 = .ok (.iload 5, 2) := by decide +kernel
theorem dX8_best_83 : decode cX8_best 83 = .ok (.invokevirtual 228, 3) := by decide +kernel
theorem dX8_best_86 : decode cX8_best 86 = .ok (.ifCond .eq 6, 3) := by decide +kernel
theorem dX8_best_89 : decode cX8_best 89 = .ok (.iload 7, 2) := by decide +kernel
theorem dX8_best_91 : decode cX8_best 91 = .ok (.ireturn, 1) := by decide +kernel
theorem dX8_best_92 : decode cX8_best 92 = .ok (.iinc 7 1, 3) := by decide +kernel
theorem dX8_best_95 : decode cX8_best 95 = .ok (.goto (-47), 3) := by decide +kernel
theorem dX8_best_98 : decode cX8_best 98 = .ok (.bipush (-9), 2) := by decide +kernel
theorem dX8_best_100 : decode cX8_best 100 = .ok (.ireturn, 1) := by decide +kernel
theorem dX8_sees_0 : decode cX8_sees 0 = .ok (.iload_n 1, 1) := by decide +kernel
theorem dX8_sees_1 : decode cX8_sees 1 = .ok (.iconst 0, 1) := by decide +kernel
theorem dX8_sees_2 : decode cX8_sees 2 = .ok (.bipush 6, 2) := by decide +kernel
theorem dX8_sees_4 : decode cX8_sees 4 = .ok (.invokestatic 67, 3) := by decide +kernel
theorem dX8_sees_7 : decode cX8_sees 7 = .ok (.ifCond .eq 12, 3) := by decide +kernel
theorem dX8_sees_10 : decode cX8_sees 10 = .ok (.iload_n 2, 1) := by decide +kernel
theorem dX8_sees_11 : decode cX8_sees 11 = .ok (.iconst 0, 1) := by decide +kernel
theorem dX8_sees_12 : decode cX8_sees 12 = .ok (.iconst 1, 1) := by decide +kernel
theorem dX8_sees_13 : decode cX8_sees 13 = .ok (.invokestatic 67, 3) := by decide +kernel
theorem dX8_sees_16 : decode cX8_sees 16 = .ok (.ifCond .ne 5, 3) := by decide +kernel
theorem dX8_sees_19 : decode cX8_sees 19 = .ok (.iconst (-1), 1) := by decide +kernel
theorem dX8_sees_20 : decode cX8_sees 20 = .ok (.ireturn, 1) := by decide +kernel
theorem dX8_sees_21 : decode cX8_sees 21 = .ok (.aload_n 0, 1) := by decide +kernel
theorem dX8_sees_22 : decode cX8_sees 22 = .ok (.getfield 63, 3) := by decide +kernel
theorem dX8_sees_25 : decode cX8_sees 25 = .ok (.iload_n 1, 1) := by decide +kernel
theorem dX8_sees_26 : decode cX8_sees 26 = .ok (.iload_n 2, 1) := by decide +kernel
theorem dX8_sees_27 : decode cX8_sees 27 = .ok (.invokevirtual 231, 3) := by decide +kernel
theorem dX8_sees_30 : decode cX8_sees 30 = .ok (.ifCond .eq 13, 3) := by decide +kernel
theorem dX8_sees_33 : decode cX8_sees 33 = .ok (.aload_n 0, 1) := by decide +kernel
theorem dX8_sees_34 : decode cX8_sees 34 = .ok (.getfield 63, 3) := by decide +kernel
theorem dX8_sees_37 : decode cX8_sees 37 = .ok (.getfield 97, 3) := by decide +kernel
theorem dX8_sees_40 : decode cX8_sees 40 = .ok (.goto 5, 3) := by decide +kernel
theorem dX8_sees_43 : decode cX8_sees 43 = .ok (.bipush (-3), 2) := by decide +kernel
theorem dX8_sees_45 : decode cX8_sees 45 = .ok (.ireturn, 1) := by decide +kernel
theorem dX8_forget_0 : decode cX8_forget 0 = .ok (.aload_n 0, 1) := by decide +kernel
theorem dX8_forget_1 : decode cX8_forget 1 = .ok (.getfield 63, 3) := by decide +kernel
theorem dX8_forget_4 : decode cX8_forget 4 = .ok (.getfield 97, 3) := by decide +kernel
theorem dX8_forget_7 : decode cX8_forget 7 = .ok (.istore_n 1, 1) := by decide +kernel
theorem dX8_forget_8 : decode cX8_forget 8 = .ok (.aload_n 0, 1) := by decide +kernel
theorem dX8_forget_9 : decode cX8_forget 9 = .ok (.getfield 63, 3) := by decide +kernel
theorem dX8_forget_12 : decode cX8_forget 12 = .ok (.iconst 0, 1) := by decide +kernel
theorem dX8_forget_13 : decode cX8_forget 13 = .ok (.putfield 97, 3) := by decide +kernel
theorem dX8_forget_16 : decode cX8_forget 16 = .ok (.iload_n 1, 1) := by decide +kernel
theorem dX8_forget_17 : decode cX8_forget 17 = .ok (.ireturn, 1) := by decide +kernel
theorem dX8_unseen_0 : decode cX8_unseen 0 = .ok (.aload_n 0, 1) := by decide +kernel
theorem dX8_unseen_1 : decode cX8_unseen 1 = .ok (.getfield 19, 3) := by decide +kernel
theorem dX8_unseen_4 : decode cX8_unseen 4 = .ok (.iload_n 1, 1) := by decide +kernel
theorem dX8_unseen_5 : decode cX8_unseen 5 = .ok (.invokevirtual 100, 3) := by decide +kernel
theorem dX8_unseen_8 : decode cX8_unseen 8 = .ok (.ifCond .eq 12, 3) := by decide +kernel
theorem dX8_unseen_11 : decode cX8_unseen 11 = .ok (.iload_n 2, 1) := by decide +kernel
theorem dX8_unseen_12 : decode cX8_unseen 12 = .ok (.iconst 0, 1) := by decide +kernel
theorem dX8_unseen_13 : decode cX8_unseen 13 = .ok (.iconst 2, 1) := by decide +kernel
theorem dX8_unseen_14 : decode cX8_unseen 14 = .ok (.invokestatic 67, 3) := by decide +kernel
theorem dX8_unseen_17 : decode cX8_unseen 17 = .ok (.ifCond .ne 5, 3) := by decide +kernel
theorem dX8_unseen_20 : decode cX8_unseen 20 = .ok (.iconst (-1), 1) := by decide +kernel
theorem dX8_unseen_21 : decode cX8_unseen 21 = .ok (.ireturn, 1) := by decide +kernel
theorem dX8_unseen_22 : decode cX8_unseen 22 = .ok (.iconst 0, 1) := by decide +kernel
theorem dX8_unseen_23 : decode cX8_unseen 23 = .ok (.istore_n 3, 1) := by decide +kernel
theorem dX8_unseen_24 : decode cX8_unseen 24 = .ok (.bipush (-9), 2) := by decide +kernel
theorem dX8_unseen_26 : decode cX8_unseen 26 = .ok (.istore 4, 2) := by decide +kernel
theorem dX8_unseen_28 : decode cX8_unseen 28 = .ok (.bipush (-9), 2) := by decide +kernel
theorem dX8_unseen_30 : decode cX8_unseen 30 = .ok (.istore 5, 2) := by decide +kernel
theorem dX8_unseen_32 : decode cX8_unseen 32 = .ok (.aload_n 0, 1) := by decide +kernel
theorem dX8_unseen_33 : decode cX8_unseen 33 = .ok (.getfield 19, 3) := by decide +kernel
theorem dX8_unseen_36 : decode cX8_unseen 36 = .ok (.iload_n 1, 1) := by decide +kernel
theorem dX8_unseen_37 : decode cX8_unseen 37 = .ok (.invokevirtual 130, 3) := by decide +kernel
theorem dX8_unseen_40 : decode cX8_unseen 40 = .ok (.istore 6, 2) := by decide +kernel
theorem dX8_unseen_42 : decode cX8_unseen 42 = .ok (.iconst 0, 1) := by decide +kernel
theorem dX8_unseen_43 : decode cX8_unseen 43 = .ok (.istore 7, 2) := by decide +kernel
theorem dX8_unseen_45 : decode cX8_unseen 45 = .ok (.iload 7, 2) := by decide +kernel
theorem dX8_unseen_47 : decode cX8_unseen 47 = .ok (.iload 6, 2) := by decide +kernel
theorem dX8_unseen_49 : decode cX8_unseen 49 = .ok (.if_icmp .gt 44, 3) := by decide +kernel
theorem dX8_unseen_52 : decode cX8_unseen 52 = .ok (.aload_n 0, 1) := by decide +kernel
theorem dX8_unseen_53 : decode cX8_unseen 53 = .ok (.getfield 63, 3) := by decide +kernel
theorem dX8_unseen_56 : decode cX8_unseen 56 = .ok (.iload 7, 2) := by decide +kernel
theorem dX8_unseen_58 : decode cX8_unseen 58 = .ok (.invokevirtual 234, 3) := by decide +kernel
theorem dX8_unseen_61 : decode cX8_unseen 61 = .ok (.ifCond .eq 26, 3) := by decide +kernel
theorem dX8_unseen_64 : decode cX8_unseen 64 = .ok (.iinc 3 1, 3) := by decide +kernel
theorem dX8_unseen_67 : decode cX8_unseen 67 = .ok (.iload 4, 2) := by decide +kernel
theorem dX8_unseen_69 : decode cX8_unseen 69 = .ok (.bipush (-9), 2) := by decide +kernel
theorem dX8_unseen_71 : decode cX8_unseen 71 = .ok (.if_icmp .ne 8, 3) := by decide +kernel
theorem dX8_unseen_74 : decode cX8_unseen 74 = .ok (.iload 7, 2) := by decide +kernel
theorem dX8_unseen_76 : decode cX8_unseen 76 = .ok (.goto 5, 3) := by decide +kernel
theorem dX8_unseen_79 : decode cX8_unseen 79 = .ok (.iload 4, 2) := by decide +kernel
theorem dX8_unseen_81 : decode cX8_unseen 81 = .ok (.istore 4, 2) := by decide +kernel
theorem dX8_unseen_83 : decode cX8_unseen 83 = .ok (.iload 7, 2) := by decide +kernel
theorem dX8_unseen_85 : decode cX8_unseen 85 = .ok (.istore 5, 2) := by decide +kernel
theorem dX8_unseen_87 : decode cX8_unseen 87 = .ok (.iinc 7 1, 3) := by decide +kernel
theorem dX8_unseen_90 : decode cX8_unseen 90 = .ok (.goto (-45), 3) := by decide +kernel
theorem dX8_unseen_93 : decode cX8_unseen 93 = .ok (.iload_n 2, 1) := by decide +kernel
theorem dX8_unseen_94 : decode cX8_unseen 94 = .ok (.ifCond .ne 5, 3) := by decide +kernel
theorem dX8_unseen_97 : decode cX8_unseen 97 = .ok (.iload_n 3, 1) := by decide +kernel
theorem dX8_unseen_98 : decode cX8_unseen 98 = .ok (.ireturn, 1) := by decide +kernel
theorem dX8_unseen_99 : decode cX8_unseen 99 = .ok (.iload_n 2, 1) := by decide +kernel
theorem dX8_unseen_100 : decode cX8_unseen 100 = .ok (.iconst 1, 1) := by decide +kernel
theorem dX8_unseen_101 : decode cX8_unseen 101 = .ok (.if_icmp .ne 8, 3) := by decide +kernel
theorem dX8_unseen_104 : decode cX8_unseen 104 = .ok (.iload 4, 2) := by decide +kernel
theorem dX8_unseen_106 : decode cX8_unseen 106 = .ok (.goto 5, 3) := by decide +kernel
theorem dX8_unseen_109 : decode cX8_unseen 109 = .ok (.iload 5, 2) := by decide +kernel
theorem dX8_unseen_111 : decode cX8_unseen 111 = .ok (.ireturn, 1) := by decide +kernel
theorem dX8_keep_0 : decode cX8_keep 0 = .ok (.iload_n 1, 1) := by decide +kernel
theorem dX8_keep_1 : decode cX8_keep 1 = .ok (.iconst 0, 1) := by decide +kernel
theorem dX8_keep_2 : decode cX8_keep 2 = .ok (.iconst 1, 1) := by decide +kernel
theorem dX8_keep_3 : decode cX8_keep 3 = .ok (.invokestatic 67, 3) := by decide +kernel
theorem dX8_keep_6 : decode cX8_keep 6 = .ok (.ifCond .ne 5, 3) := by decide +kernel
theorem dX8_keep_9 : decode cX8_keep 9 = .ok (.iconst (-1), 1) := by decide +kernel
theorem dX8_keep_10 : decode cX8_keep 10 = .ok (.ireturn, 1) := by decide +kernel
theorem dX8_keep_11 : decode cX8_keep 11 = .ok (.aload_n 0, 1) := by decide +kernel
theorem dX8_keep_12 : decode cX8_keep 12 = .ok (.getfield 49, 3) := by decide +kernel
theorem dX8_keep_15 : decode cX8_keep 15 = .ok (.iload_n 1, 1) := by decide +kernel
theorem dX8_keep_16 : decode cX8_keep 16 = .ok (.aload_n 0, 1) := by decide +kernel
theorem dX8_keep_17 : decode cX8_keep 17 = .ok (.getfield 26, 3) := by decide +kernel
theorem dX8_keep_20 : decode cX8_keep 20 = .ok (.invokevirtual 237, 3) := by decide +kernel
theorem dX8_keep_23 : decode cX8_keep 23 = .ok (.aload_n 0, 1) := by decide +kernel
theorem dX8_keep_24 : decode cX8_keep 24 = .ok (.getfield 26, 3) := by decide +kernel
theorem dX8_keep_27 : decode cX8_keep 27 = .ok (.invokevirtual 241, 3) := by decide +kernel
theorem dX8_keep_30 : decode cX8_keep 30 = .ok (.ireturn, 1) := by decide +kernel
theorem dX8_back_0 : decode cX8_back 0 = .ok (.iload_n 1, 1) := by decide +kernel
theorem dX8_back_1 : decode cX8_back 1 = .ok (.iconst 0, 1) := by decide +kernel
theorem dX8_back_2 : decode cX8_back 2 = .ok (.iconst 1, 1) := by decide +kernel
theorem dX8_back_3 : decode cX8_back 3 = .ok (.invokestatic 67, 3) := by decide +kernel
theorem dX8_back_6 : decode cX8_back 6 = .ok (.ifCond .ne 5, 3) := by decide +kernel
theorem dX8_back_9 : decode cX8_back 9 = .ok (.iconst (-1), 1) := by decide +kernel
theorem dX8_back_10 : decode cX8_back 10 = .ok (.ireturn, 1) := by decide +kernel
theorem dX8_back_11 : decode cX8_back 11 = .ok (.aload_n 0, 1) := by decide +kernel
theorem dX8_back_12 : decode cX8_back 12 = .ok (.getfield 49, 3) := by decide +kernel
theorem dX8_back_15 : decode cX8_back 15 = .ok (.iload_n 1, 1) := by decide +kernel
theorem dX8_back_16 : decode cX8_back 16 = .ok (.aload_n 0, 1) := by decide +kernel
theorem dX8_back_17 : decode cX8_back 17 = .ok (.getfield 26, 3) := by decide +kernel
theorem dX8_back_20 : decode cX8_back 20 = .ok (.invokevirtual 244, 3) := by decide +kernel
theorem dX8_back_23 : decode cX8_back 23 = .ok (.ifCond .ne 6, 3) := by decide +kernel
theorem dX8_back_26 : decode cX8_back 26 = .ok (.bipush (-2), 2) := by decide +kernel
theorem dX8_back_28 : decode cX8_back 28 = .ok (.ireturn, 1) := by decide +kernel
theorem dX8_back_29 : decode cX8_back 29 = .ok (.aload_n 0, 1) := by decide +kernel
theorem dX8_back_30 : decode cX8_back 30 = .ok (.getfield 42, 3) := by decide +kernel
theorem dX8_back_33 : decode cX8_back 33 = .ok (.invokevirtual 93, 3) := by decide +kernel
theorem dX8_back_36 : decode cX8_back 36 = .ok (.aload_n 0, 1) := by decide +kernel
theorem dX8_back_37 : decode cX8_back 37 = .ok (.getfield 26, 3) := by decide +kernel
theorem dX8_back_40 : decode cX8_back 40 = .ok (.invokevirtual 241, 3) := by decide +kernel
theorem dX8_back_43 : decode cX8_back 43 = .ok (.ireturn, 1) := by decide +kernel
theorem dX8_count_0 : decode cX8_count 0 = .ok (.iload_n 1, 1) := by decide +kernel
theorem dX8_count_1 : decode cX8_count 1 = .ok (.tableswitch 119 0 11 #[63, 71, 119, 119, 119, 119, 119, 79, 87, 95, 103, 111], 63) := by decide +kernel
theorem dX8_count_64 : decode cX8_count 64 = .ok (.aload_n 0, 1) := by decide +kernel
theorem dX8_count_65 : decode cX8_count 65 = .ok (.getfield 19, 3) := by decide +kernel
theorem dX8_count_68 : decode cX8_count 68 = .ok (.getfield 247, 3) := by decide +kernel
theorem dX8_count_71 : decode cX8_count 71 = .ok (.ireturn, 1) := by decide +kernel
theorem dX8_count_72 : decode cX8_count 72 = .ok (.aload_n 0, 1) := by decide +kernel
theorem dX8_count_73 : decode cX8_count 73 = .ok (.getfield 26, 3) := by decide +kernel
theorem dX8_count_76 : decode cX8_count 76 = .ok (.invokevirtual 241, 3) := by decide +kernel
theorem dX8_count_79 : decode cX8_count 79 = .ok (.ireturn, 1) := by decide +kernel
theorem dX8_count_80 : decode cX8_count 80 = .ok (.aload_n 0, 1) := by decide +kernel
theorem dX8_count_81 : decode cX8_count 81 = .ok (.getfield 26, 3) := by decide +kernel
theorem dX8_count_84 : decode cX8_count 84 = .ok (.getfield 137, 3) := by decide +kernel
theorem dX8_count_87 : decode cX8_count 87 = .ok (.ireturn, 1) := by decide +kernel
theorem dX8_count_88 : decode cX8_count 88 = .ok (.aload_n 0, 1) := by decide +kernel
theorem dX8_count_89 : decode cX8_count 89 = .ok (.getfield 63, 3) := by decide +kernel
theorem dX8_count_92 : decode cX8_count 92 = .ok (.getfield 97, 3) := by decide +kernel
theorem dX8_count_95 : decode cX8_count 95 = .ok (.ireturn, 1) := by decide +kernel
theorem dX8_count_96 : decode cX8_count 96 = .ok (.aload_n 0, 1) := by decide +kernel
theorem dX8_count_97 : decode cX8_count 97 = .ok (.getfield 10, 3) := by decide +kernel
theorem dX8_count_100 : decode cX8_count 100 = .ok (.getfield 75, 3) := by decide +kernel
theorem dX8_count_103 : decode cX8_count 103 = .ok (.ireturn, 1) := by decide +kernel
theorem dX8_count_104 : decode cX8_count 104 = .ok (.aload_n 0, 1) := by decide +kernel
theorem dX8_count_105 : decode cX8_count 105 = .ok (.getfield 42, 3) := by decide +kernel
theorem dX8_count_108 : decode cX8_count 108 = .ok (.getfield 144, 3) := by decide +kernel
theorem dX8_count_111 : decode cX8_count 111 = .ok (.ireturn, 1) := by decide +kernel
theorem dX8_count_112 : decode cX8_count 112 = .ok (.aload_n 0, 1) := by decide +kernel
theorem dX8_count_113 : decode cX8_count 113 = .ok (.getfield 26, 3) := by decide +kernel
theorem dX8_count_116 : decode cX8_count 116 = .ok (.getfield 196, 3) := by decide +kernel
theorem dX8_count_119 : decode cX8_count 119 = .ok (.ireturn, 1) := by decide +kernel
theorem dX8_count_120 : decode cX8_count 120 = .ok (.iload_n 1, 1) := by decide +kernel
theorem dX8_count_121 : decode cX8_count 121 = .ok (.iconst 2, 1) := by decide +kernel
theorem dX8_count_122 : decode cX8_count 122 = .ok (.bipush 6, 2) := by decide +kernel
theorem dX8_count_124 : decode cX8_count 124 = .ok (.invokestatic 67, 3) := by decide +kernel
theorem dX8_count_127 : decode cX8_count 127 = .ok (.ifCond .eq 17, 3) := by decide +kernel
theorem dX8_count_130 : decode cX8_count 130 = .ok (.aload_n 0, 1) := by decide +kernel
theorem dX8_count_131 : decode cX8_count 131 = .ok (.getfield 19, 3) := by decide +kernel
theorem dX8_count_134 : decode cX8_count 134 = .ok (.getfield 250, 3) := by decide +kernel
theorem dX8_count_137 : decode cX8_count 137 = .ok (.iload_n 1, 1) := by decide +kernel
theorem dX8_count_138 : decode cX8_count 138 = .ok (.iconst 2, 1) := by decide +kernel
theorem dX8_count_139 : decode cX8_count 139 = .ok (.isub, 1) := by decide +kernel
theorem dX8_count_140 : decode cX8_count 140 = .ok (.iaload, 1) := by decide +kernel
theorem dX8_count_141 : decode cX8_count 141 = .ok (.goto 5, 3) := by decide +kernel
theorem dX8_count_144 : decode cX8_count 144 = .ok (.ldc 165, 2) := by decide +kernel
theorem dX8_count_146 : decode cX8_count 146 = .ok (.ireturn, 1) := by decide +kernel
theorem dX8_within_0 : decode cX8_within 0 = .ok (.iload_n 0, 1) := by decide +kernel
theorem dX8_within_1 : decode cX8_within 1 = .ok (.iload_n 1, 1) := by decide +kernel
theorem dX8_within_2 : decode cX8_within 2 = .ok (.if_icmp .lt 12, 3) := by decide +kernel
theorem dX8_within_5 : decode cX8_within 5 = .ok (.iload_n 0, 1) := by decide +kernel
theorem dX8_within_6 : decode cX8_within 6 = .ok (.iload_n 2, 1) := by decide +kernel
theorem dX8_within_7 : decode cX8_within 7 = .ok (.if_icmp .gt 7, 3) := by decide +kernel
theorem dX8_within_10 : decode cX8_within 10 = .ok (.iconst 1, 1) := by decide +kernel
theorem dX8_within_11 : decode cX8_within 11 = .ok (.goto 4, 3) := by decide +kernel
theorem dX8_within_14 : decode cX8_within 14 = .ok (.iconst 0, 1) := by decide +kernel
theorem dX8_within_15 : decode cX8_within 15 = .ok (.ireturn, 1) := by decide +kernel
theorem dX8_areRates_0 : decode cX8_areRates 0 = .ok (.iload_n 0, 1) := by decide +kernel
theorem dX8_areRates_1 : decode cX8_areRates 1 = .ok (.iconst 0, 1) := by decide +kernel
theorem dX8_areRates_2 : decode cX8_areRates 2 = .ok (.bipush 9, 2) := by decide +kernel
theorem dX8_areRates_4 : decode cX8_areRates 4 = .ok (.invokestatic 67, 3) := by decide +kernel
theorem dX8_areRates_7 : decode cX8_areRates 7 = .ok (.ifCond .eq 27, 3) := by decide +kernel
theorem dX8_areRates_10 : decode cX8_areRates 10 = .ok (.iload_n 1, 1) := by decide +kernel
theorem dX8_areRates_11 : decode cX8_areRates 11 = .ok (.iconst 0, 1) := by decide +kernel
theorem dX8_areRates_12 : decode cX8_areRates 12 = .ok (.bipush 9, 2) := by decide +kernel
theorem dX8_areRates_14 : decode cX8_areRates 14 = .ok (.invokestatic 67, 3) := by decide +kernel
theorem dX8_areRates_17 : decode cX8_areRates 17 = .ok (.ifCond .eq 17, 3) := by decide +kernel
theorem dX8_areRates_20 : decode cX8_areRates 20 = .ok (.iload_n 2, 1) := by decide +kernel
theorem dX8_areRates_21 : decode cX8_areRates 21 = .ok (.iconst 1, 1) := by decide +kernel
theorem dX8_areRates_22 : decode cX8_areRates 22 = .ok (.bipush 9, 2) := by decide +kernel
theorem dX8_areRates_24 : decode cX8_areRates 24 = .ok (.invokestatic 67, 3) := by decide +kernel
theorem dX8_areRates_27 : decode cX8_areRates 27 = .ok (.ifCond .eq 7, 3) := by decide +kernel
theorem dX8_areRates_30 : decode cX8_areRates 30 = .ok (.iconst 1, 1) := by decide +kernel
theorem dX8_areRates_31 : decode cX8_areRates 31 = .ok (.goto 4, 3) := by decide +kernel
theorem dX8_areRates_34 : decode cX8_areRates 34 = .ok (.iconst 0, 1) := by decide +kernel
theorem dX8_areRates_35 : decode cX8_areRates 35 = .ok (.ireturn, 1) := by decide +kernel
theorem dX8_canHear_0 : decode cX8_canHear 0 = .ok (.iload_n 2, 1) := by decide +kernel
theorem dX8_canHear_1 : decode cX8_canHear 1 = .ok (.iconst 0, 1) := by decide +kernel
theorem dX8_canHear_2 : decode cX8_canHear 2 = .ok (.aload_n 0, 1) := by decide +kernel
theorem dX8_canHear_3 : decode cX8_canHear 3 = .ok (.getfield 19, 3) := by decide +kernel
theorem dX8_canHear_6 : decode cX8_canHear 6 = .ok (.iload_n 1, 1) := by decide +kernel
theorem dX8_canHear_7 : decode cX8_canHear 7 = .ok (.invokevirtual 100, 3) := by decide +kernel
theorem dX8_canHear_10 : decode cX8_canHear 10 = .ok (.ifCond .eq 8, 3) := by decide +kernel
theorem dX8_canHear_13 : decode cX8_canHear 13 = .ok (.bipush 100, 2) := by decide +kernel
theorem dX8_canHear_15 : decode cX8_canHear 15 = .ok (.goto 4, 3) := by decide +kernel
theorem dX8_canHear_18 : decode cX8_canHear 18 = .ok (.iconst 0, 1) := by decide +kernel
theorem dX8_canHear_19 : decode cX8_canHear 19 = .ok (.invokestatic 67, 3) := by decide +kernel
theorem dX8_canHear_22 : decode cX8_canHear 22 = .ok (.ireturn, 1) := by decide +kernel
theorem dX8_chance_0 : decode cX8_chance 0 = .ok (.iconst 0, 1) := by decide +kernel
theorem dX8_chance_1 : decode cX8_chance 1 = .ok (.bipush 10, 2) := by decide +kernel
theorem dX8_chance_3 : decode cX8_chance 3 = .ok (.bipush 10, 2) := by decide +kernel
theorem dX8_chance_5 : decode cX8_chance 5 = .ok (.iload_n 0, 1) := by decide +kernel
theorem dX8_chance_6 : decode cX8_chance 6 = .ok (.imul, 1) := by decide +kernel
theorem dX8_chance_7 : decode cX8_chance 7 = .ok (.iload_n 1, 1) := by decide +kernel
theorem dX8_chance_8 : decode cX8_chance 8 = .ok (.isub, 1) := by decide +kernel
theorem dX8_chance_9 : decode cX8_chance 9 = .ok (.invokestatic 253, 3) := by decide +kernel
theorem dX8_chance_12 : decode cX8_chance 12 = .ok (.invokestatic 258, 3) := by decide +kernel
theorem dX8_chance_15 : decode cX8_chance 15 = .ok (.ireturn, 1) := by decide +kernel
theorem dX8_commonDivisor_0 : decode cX8_commonDivisor 0 = .ok (.lload_n 0, 1) := by decide +kernel
theorem dX8_commonDivisor_1 : decode cX8_commonDivisor 1 = .ok (.lstore 4, 2) := by decide +kernel
theorem dX8_commonDivisor_3 : decode cX8_commonDivisor 3 = .ok (.lload_n 2, 1) := by decide +kernel
theorem dX8_commonDivisor_4 : decode cX8_commonDivisor 4 = .ok (.lstore 6, 2) := by decide +kernel
theorem dX8_commonDivisor_6 : decode cX8_commonDivisor 6 = .ok (.iconst 0, 1) := by decide +kernel
theorem dX8_commonDivisor_7 : decode cX8_commonDivisor 7 = .ok (.istore 8, 2) := by decide +kernel
theorem dX8_commonDivisor_9 : decode cX8_commonDivisor 9 = .ok (.iload 8, 2) := by decide +kernel
theorem dX8_commonDivisor_11 : decode cX8_commonDivisor 11 = .ok (.sipush 200, 3) := by decide +kernel
theorem dX8_commonDivisor_14 : decode cX8_commonDivisor 14 = .ok (.if_icmp .ge 31, 3) := by decide +kernel
theorem dX8_commonDivisor_17 : decode cX8_commonDivisor 17 = .ok (.lload 6, 2) := by decide +kernel
theorem dX8_commonDivisor_19 : decode cX8_commonDivisor 19 = .ok (.lconst 0, 1) := by decide +kernel
theorem dX8_commonDivisor_20 : decode cX8_commonDivisor 20 = .ok (.lcmp, 1) := by decide +kernel
theorem dX8_commonDivisor_21 : decode cX8_commonDivisor 21 = .ok (.ifCond .eq 24, 3) := by decide +kernel
theorem dX8_commonDivisor_24 : decode cX8_commonDivisor 24 = .ok (.lload 4, 2) := by decide +kernel
theorem dX8_commonDivisor_26 : decode cX8_commonDivisor 26 = .ok (.lload 6, 2) := by decide +kernel
theorem dX8_commonDivisor_28 : decode cX8_commonDivisor 28 = .ok (.lrem, 1) := by decide +kernel
theorem dX8_commonDivisor_29 : decode cX8_commonDivisor 29 = .ok (.lstore 9, 2) := by decide +kernel
theorem dX8_commonDivisor_31 : decode cX8_commonDivisor 31 = .ok (.lload 6, 2) := by decide +kernel
theorem dX8_commonDivisor_33 : decode cX8_commonDivisor 33 = .ok (.lstore 4, 2) := by decide +kernel
theorem dX8_commonDivisor_35 : decode cX8_commonDivisor 35 = .ok (.lload 9, 2) := by decide +kernel
theorem dX8_commonDivisor_37 : decode cX8_commonDivisor 37 = .ok (.lstore 6, 2) := by decide +kernel
theorem dX8_commonDivisor_39 : decode cX8_commonDivisor 39 = .ok (.iinc 8 1, 3) := by decide +kernel
theorem dX8_commonDivisor_42 : decode cX8_commonDivisor 42 = .ok (.goto (-33), 3) := by decide +kernel
theorem dX8_commonDivisor_45 : decode cX8_commonDivisor 45 = .ok (.lload 4, 2) := by decide +kernel
theorem dX8_commonDivisor_47 : decode cX8_commonDivisor 47 = .ok (.lreturn, 1) := by decide +kernel
