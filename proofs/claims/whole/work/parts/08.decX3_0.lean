theorem dX3_init_0 : decode cX3_init 0 = .ok (.aload_n 0, 1) := by decide +kernel
theorem dX3_init_1 : decode cX3_init 1 = .ok (.invokespecial 3, 3) := by decide +kernel
theorem dX3_init_4 : decode cX3_init 4 = .ok (.aload_n 0, 1) := by decide +kernel
theorem dX3_init_5 : decode cX3_init 5 = .ok (.bipush 24, 2) := by decide +kernel
theorem dX3_init_7 : decode cX3_init 7 = .ok (.newarray .int, 2) := by decide +kernel
theorem dX3_init_9 : decode cX3_init 9 = .ok (.putfield 9, 3) := by decide +kernel
theorem dX3_init_12 : decode cX3_init 12 = .ok (.aload_n 0, 1) := by decide +kernel
theorem dX3_init_13 : decode cX3_init 13 = .ok (.iconst 1, 1) := by decide +kernel
theorem dX3_init_14 : decode cX3_init 14 = .ok (.putfield 15, 3) := by decide +kernel
theorem dX3_init_17 : decode cX3_init 17 = .ok (.aload_n 0, 1) := by decide +kernel
theorem dX3_init_18 : decode cX3_init 18 = .ok (.sipush 369, 3) := by decide +kernel
theorem dX3_init_21 : decode cX3_init 21 = .ok (.newarray .int, 2) := by decide +kernel
theorem dX3_init_23 : decode cX3_init 23 = .ok (.putfield 19, 3) := by decide +kernel
theorem dX3_init_26 : decode cX3_init 26 = .ok (.aload_n 0, 1) := by decide +kernel
theorem dX3_init_27 : decode cX3_init 27 = .ok (.sipush 369, 3) := by decide +kernel
theorem dX3_init_30 : decode cX3_init 30 = .ok (.newarray .int, 2) := by decide +kernel
theorem dX3_init_32 : decode cX3_init 32 = .ok (.putfield 22, 3) := by decide +kernel
theorem dX3_init_35 : decode cX3_init 35 = .ok (.aload_n 0, 1) := by decide +kernel
theorem dX3_init_36 : decode cX3_init 36 = .ok (.sipush 369, 3) := by decide +kernel
theorem dX3_init_39 : decode cX3_init 39 = .ok (.newarray .int, 2) := by decide +kernel
theorem dX3_init_41 : decode cX3_init 41 = .ok (.putfield 25, 3) := by decide +kernel
theorem dX3_init_44 : decode cX3_init 44 = .ok (.aload_n 0, 1) := by decide +kernel
theorem dX3_init_45 : decode cX3_init 45 = .ok (.getfield 9, 3) := by decide +kernel
theorem dX3_init_48 : decode cX3_init 48 = .ok (.bipush 10, 2) := by decide +kernel
theorem dX3_init_50 : decode cX3_init 50 = .ok (.invokestatic 28, 3) := by decide +kernel
theorem dX3_init_53 : decode cX3_init 53 = .ok (.return_, 1) := by decide +kernel
theorem dX3_endWith_0 : decode cX3_endWith 0 = .ok (.iconst 0, 1) := by decide +kernel
theorem dX3_endWith_1 : decode cX3_endWith 1 = .ok (.istore_n 2, 1) := by decide +kernel
theorem dX3_endWith_2 : decode cX3_endWith 2 = .ok (.iload_n 2, 1) := by decide +kernel
theorem dX3_endWith_3 : decode cX3_endWith 3 = .ok (.sipush 369, 3) := by decide +kernel
theorem dX3_endWith_6 : decode cX3_endWith 6 = .ok (.if_icmp .ge 21, 3) := by decide +kernel
theorem dX3_endWith_9 : decode cX3_endWith 9 = .ok (.aload_n 0, 1) := by decide +kernel
theorem dX3_endWith_10 : decode cX3_endWith 10 = .ok (.getfield 19, 3) := by decide +kernel
theorem dX3_endWith_13 : decode cX3_endWith 13 = .ok (.iload_n 2, 1) := by decide +kernel
theorem dX3_endWith_14 : decode cX3_endWith 14 = .ok (.iload_n 2, 1) := by decide +kernel
theorem dX3_endWith_15 : decode cX3_endWith 15 = .ok (.bipush 9, 2) := by decide +kernel
theorem dX3_endWith_17 : decode cX3_endWith 17 = .ok (.idiv, 1) := by decide +kernel
theorem dX3_endWith_18 : decode cX3_endWith 18 = .ok (.iload_n 1, 1) := by decide +kernel
theorem dX3_endWith_19 : decode cX3_endWith 19 = .ok (.imul, 1) := by decide +kernel
theorem dX3_endWith_20 : decode cX3_endWith 20 = .ok (.iastore, 1) := by decide +kernel
theorem dX3_endWith_21 : decode cX3_endWith 21 = .ok (.iinc 2 1, 3) := by decide +kernel
theorem dX3_endWith_24 : decode cX3_endWith 24 = .ok (.goto (-22), 3) := by decide +kernel
theorem dX3_endWith_27 : decode cX3_endWith 27 = .ok (.return_, 1) := by decide +kernel
theorem dX3_mixIn_0 : decode cX3_mixIn 0 = .ok (.aload_n 0, 1) := by decide +kernel
theorem dX3_mixIn_1 : decode cX3_mixIn 1 = .ok (.dup, 1) := by decide +kernel
theorem dX3_mixIn_2 : decode cX3_mixIn 2 = .ok (.getfield 15, 3) := by decide +kernel
theorem dX3_mixIn_5 : decode cX3_mixIn 5 = .ok (.iload_n 2, 1) := by decide +kernel
theorem dX3_mixIn_6 : decode cX3_mixIn 6 = .ok (.iadd, 1) := by decide +kernel
theorem dX3_mixIn_7 : decode cX3_mixIn 7 = .ok (.putfield 15, 3) := by decide +kernel
theorem dX3_mixIn_10 : decode cX3_mixIn 10 = .ok (.iconst 0, 1) := by decide +kernel
theorem dX3_mixIn_11 : decode cX3_mixIn 11 = .ok (.istore_n 3, 1) := by decide +kernel
theorem dX3_mixIn_12 : decode cX3_mixIn 12 = .ok (.iload_n 3, 1) := by decide +kernel
theorem dX3_mixIn_13 : decode cX3_mixIn 13 = .ok (.bipush 24, 2) := by decide +kernel
theorem dX3_mixIn_15 : decode cX3_mixIn 15 = .ok (.if_icmp .ge 26, 3) := by decide +kernel
theorem dX3_mixIn_18 : decode cX3_mixIn 18 = .ok (.aload_n 0, 1) := by decide +kernel
theorem dX3_mixIn_19 : decode cX3_mixIn 19 = .ok (.getfield 9, 3) := by decide +kernel
theorem dX3_mixIn_22 : decode cX3_mixIn 22 = .ok (.iload_n 3, 1) := by decide +kernel
theorem dX3_mixIn_23 : decode cX3_mixIn 23 = .ok (.dup2, 1) := by decide +kernel
theorem dX3_mixIn_24 : decode cX3_mixIn 24 = .ok (.iaload, 1) := by decide +kernel
theorem dX3_mixIn_25 : decode cX3_mixIn 25 = .ok (.iload_n 2, 1) := by decide +kernel
theorem dX3_mixIn_26 : decode cX3_mixIn 26 = .ok (.aload_n 1, 1) := by decide +kernel
theorem dX3_mixIn_27 : decode cX3_mixIn 27 = .ok (.getfield 9, 3) := by decide +kernel
theorem dX3_mixIn_30 : decode cX3_mixIn 30 = .ok (.iload_n 3, 1) := by decide +kernel
theorem dX3_mixIn_31 : decode cX3_mixIn 31 = .ok (.iaload, 1) := by decide +kernel
theorem dX3_mixIn_32 : decode cX3_mixIn 32 = .ok (.imul, 1) := by decide +kernel
theorem dX3_mixIn_33 : decode cX3_mixIn 33 = .ok (.iadd, 1) := by decide +kernel
theorem dX3_mixIn_34 : decode cX3_mixIn 34 = .ok (.iastore, 1) := by decide +kernel
theorem dX3_mixIn_35 : decode cX3_mixIn 35 = .ok (.iinc 3 1, 3) := by decide +kernel
theorem dX3_mixIn_38 : decode cX3_mixIn 38 = .ok (.goto (-26), 3) := by decide +kernel
theorem dX3_mixIn_41 : decode cX3_mixIn 41 = .ok (.iconst 0, 1) := by decide +kernel
theorem dX3_mixIn_42 : decode cX3_mixIn 42 = .ok (.istore_n 3, 1) := by decide +kernel
theorem dX3_mixIn_43 : decode cX3_mixIn 43 = .ok (.iload_n 3, 1) := by decide +kernel
theorem dX3_mixIn_44 : decode cX3_mixIn 44 = .ok (.sipush 369, 3) := by decide +kernel
theorem dX3_mixIn_47 : decode cX3_mixIn 47 = .ok (.if_icmp .ge 69, 3) := by decide +kernel
theorem dX3_mixIn_50 : decode cX3_mixIn 50 = .ok (.aload_n 0, 1) := by decide +kernel
theorem dX3_mixIn_51 : decode cX3_mixIn 51 = .ok (.getfield 19, 3) := by decide +kernel
theorem dX3_mixIn_54 : decode cX3_mixIn 54 = .ok (.iload_n 3, 1) := by decide +kernel
theorem dX3_mixIn_55 : decode cX3_mixIn 55 = .ok (.iaload, 1) := by decide +kernel
theorem dX3_mixIn_56 : decode cX3_mixIn 56 = .ok (.ldc 34, 2) := by decide +kernel
theorem dX3_mixIn_58 : decode cX3_mixIn 58 = .ok (.if_icmp .eq 14, 3) := by decide +kernel
theorem dX3_mixIn_61 : decode cX3_mixIn 61 = .ok (.aload_n 1, 1) := by decide +kernel
theorem dX3_mixIn_62 : decode cX3_mixIn 62 = .ok (.getfield 19, 3) := by decide +kernel
theorem dX3_mixIn_65 : decode cX3_mixIn 65 = .ok (.iload_n 3, 1) := by decide +kernel
theorem dX3_mixIn_66 : decode cX3_mixIn 66 = .ok (.iaload, 1) := by decide +kernel
theorem dX3_mixIn_67 : decode cX3_mixIn 67 = .ok (.ldc 34, 2) := by decide +kernel
theorem dX3_mixIn_69 : decode cX3_mixIn 69 = .ok (.if_icmp .ne 7, 3) := by decide +kernel
theorem dX3_mixIn_72 : decode cX3_mixIn 72 = .ok (.iconst 1, 1) := by decide +kernel
theorem dX3_mixIn_73 : decode cX3_mixIn 73 = .ok (.goto 4, 3) := by decide +kernel
theorem dX3_mixIn_76 : decode cX3_mixIn 76 = .ok (.iconst 0, 1) := by decide +kernel
theorem dX3_mixIn_77 : decode cX3_mixIn 77 = .ok (.istore 4, 2) := by decide +kernel
theorem dX3_mixIn_79 : decode cX3_mixIn 79 = .ok (.aload_n 0, 1) := by decide +kernel
theorem dX3_mixIn_80 : decode cX3_mixIn 80 = .ok (.getfield 19, 3) := by decide +kernel
theorem dX3_mixIn_83 : decode cX3_mixIn 83 = .ok (.iload_n 3, 1) := by decide +kernel
theorem dX3_mixIn_84 : decode cX3_mixIn 84 = .ok (.iload 4, 2) := by decide +kernel
theorem dX3_mixIn_86 : decode cX3_mixIn 86 = .ok (.ifCond .eq 8, 3) := by decide +kernel
theorem dX3_mixIn_89 : decode cX3_mixIn 89 = .ok (.ldc 34, 2) := by decide +kernel
theorem dX3_mixIn_91 : decode cX3_mixIn 91 = .ok (.goto 18, 3) := by decide +kernel
theorem dX3_mixIn_94 : decode cX3_mixIn 94 = .ok (.aload_n 0, 1) := by decide +kernel
theorem dX3_mixIn_95 : decode cX3_mixIn 95 = .ok (.getfield 19, 3) := by decide +kernel
theorem dX3_mixIn_98 : decode cX3_mixIn 98 = .ok (.iload_n 3, 1) := by decide +kernel
theorem dX3_mixIn_99 : decode cX3_mixIn 99 = .ok (.iaload, 1) := by decide +kernel
theorem dX3_mixIn_100 : decode cX3_mixIn 100 = .ok (.iload_n 2, 1) := by decide +kernel
theorem dX3_mixIn_101 : decode cX3_mixIn 101 = .ok (.aload_n 1, 1) := by decide +kernel
theorem dX3_mixIn_102 : decode cX3_mixIn 102 = .ok (.getfield 19, 3) := by decide +kernel
theorem dX3_mixIn_105 : decode cX3_mixIn 105 = .ok (.iload_n 3, 1) := by decide +kernel
theorem dX3_mixIn_106 : decode cX3_mixIn 106 = .ok (.iaload, 1) := by decide +kernel
theorem dX3_mixIn_107 : decode cX3_mixIn 107 = .ok (.imul, 1) := by decide +kernel
theorem dX3_mixIn_108 : decode cX3_mixIn 108 = .ok (.iadd, 1) := by decide +kernel
theorem dX3_mixIn_109 : decode cX3_mixIn 109 = .ok (.iastore, 1) := by decide +kernel
theorem dX3_mixIn_110 : decode cX3_mixIn 110 = .ok (.iinc 3 1, 3) := by decide +kernel
theorem dX3_mixIn_113 : decode cX3_mixIn 113 = .ok (.goto (-70), 3) := by decide +kernel
theorem dX3_mixIn_116 : decode cX3_mixIn 116 = .ok (.return_, 1) := by decide +kernel
theorem dX3_plan_0 : decode cX3_plan 0 = .ok (.iload_n 3, 1) := by decide +kernel
theorem dX3_plan_1 : decode cX3_plan 1 = .ok (.iconst 1, 1) := by decide +kernel
theorem dX3_plan_2 : decode cX3_plan 2 = .ok (.isub, 1) := by decide +kernel
theorem dX3_plan_3 : decode cX3_plan 3 = .ok (.istore 4, 2) := by decide +kernel
theorem dX3_plan_5 : decode cX3_plan 5 = .ok (.iload 4, 2) := by decide +kernel
theorem dX3_plan_7 : decode cX3_plan 7 = .ok (.iload_n 2, 1) := by decide +kernel
theorem dX3_plan_8 : decode cX3_plan 8 = .ok (.if_icmp .lt 71, 3) := by decide +kernel
theorem dX3_plan_11 : decode cX3_plan 11 = .ok (.aload_n 0, 1) := by decide +kernel
theorem dX3_plan_12 : decode cX3_plan 12 = .ok (.getfield 22, 3) := by decide +kernel
theorem dX3_plan_15 : decode cX3_plan 15 = .ok (.astore 5, 2) := by decide +kernel
theorem dX3_plan_17 : decode cX3_plan 17 = .ok (.aload_n 0, 1) := by decide +kernel
theorem dX3_plan_18 : decode cX3_plan 18 = .ok (.aload_n 0, 1) := by decide +kernel
theorem dX3_plan_19 : decode cX3_plan 19 = .ok (.getfield 19, 3) := by decide +kernel
theorem dX3_plan_22 : decode cX3_plan 22 = .ok (.putfield 22, 3) := by decide +kernel
theorem dX3_plan_25 : decode cX3_plan 25 = .ok (.aload_n 0, 1) := by decide +kernel
theorem dX3_plan_26 : decode cX3_plan 26 = .ok (.aload 5, 2) := by decide +kernel
theorem dX3_plan_28 : decode cX3_plan 28 = .ok (.putfield 19, 3) := by decide +kernel
theorem dX3_plan_31 : decode cX3_plan 31 = .ok (.aload_n 0, 1) := by decide +kernel
theorem dX3_plan_32 : decode cX3_plan 32 = .ok (.getfield 19, 3) := by decide +kernel
theorem dX3_plan_35 : decode cX3_plan 35 = .ok (.ldc 34, 2) := by decide +kernel
theorem dX3_plan_37 : decode cX3_plan 37 = .ok (.invokestatic 28, 3) := by decide +kernel
theorem dX3_plan_40 : decode cX3_plan 40 = .ok (.aload_n 0, 1) := by decide +kernel
theorem dX3_plan_41 : decode cX3_plan 41 = .ok (.getfield 25, 3) := by decide +kernel
theorem dX3_plan_44 : decode cX3_plan 44 = .ok (.iconst (-1), 1) := by decide +kernel
theorem dX3_plan_45 : decode cX3_plan 45 = .ok (.invokestatic 28, 3) := by decide +kernel
theorem dX3_plan_48 : decode cX3_plan 48 = .ok (.iconst 0, 1) := by decide +kernel
theorem dX3_plan_49 : decode cX3_plan 49 = .ok (.istore 6, 2) := by decide +kernel
theorem dX3_plan_51 : decode cX3_plan 51 = .ok (.iload 6, 2) := by decide +kernel
theorem dX3_plan_53 : decode cX3_plan 53 = .ok (.bipush 9, 2) := by decide +kernel
theorem dX3_plan_55 : decode cX3_plan 55 = .ok (.if_icmp .ge 18, 3) := by decide +kernel
theorem dX3_plan_58 : decode cX3_plan 58 = .ok (.aload_n 0, 1) := by decide +kernel
theorem dX3_plan_59 : decode cX3_plan 59 = .ok (.aload_n 1, 1) := by decide +kernel
theorem dX3_plan_60 : decode cX3_plan 60 = .ok (.iload 4, 2) := by decide +kernel
theorem dX3_plan_62 : decode cX3_plan 62 = .ok (.iload 6, 2) := by decide +kernel
theorem dX3_plan_64 : decode cX3_plan 64 = .ok (.invokevirtual 35, 3) := by decide +kernel
theorem dX3_plan_67 : decode cX3_plan 67 = .ok (.iinc 6 1, 3) := by decide +kernel
theorem dX3_plan_70 : decode cX3_plan 70 = .ok (.goto (-19), 3) := by decide +kernel
theorem dX3_plan_73 : decode cX3_plan 73 = .ok (.iinc 4 (-1), 3) := by decide +kernel
theorem dX3_plan_76 : decode cX3_plan 76 = .ok (.goto (-71), 3) := by decide +kernel
theorem dX3_plan_79 : decode cX3_plan 79 = .ok (.return_, 1) := by decide +kernel
theorem dX3_tryFromAllModes_0 : decode cX3_tryFromAllModes 0 = .ok (.aload_n 0, 1) := by decide +kernel
theorem dX3_tryFromAllModes_1 : decode cX3_tryFromAllModes 1 = .ok (.getfield 9, 3) := by decide +kernel
theorem dX3_tryFromAllModes_4 : decode cX3_tryFromAllModes 4 = .ok (.iload_n 2, 1) := by decide +kernel
theorem dX3_tryFromAllModes_5 : decode cX3_tryFromAllModes 5 = .ok (.iaload, 1) := by decide +kernel
theorem dX3_tryFromAllModes_6 : decode cX3_tryFromAllModes 6 = .ok (.aload_n 1, 1) := by decide +kernel
theorem dX3_tryFromAllModes_7 : decode cX3_tryFromAllModes 7 = .ok (.getfield 39, 3) := by decide +kernel
theorem dX3_tryFromAllModes_10 : decode cX3_tryFromAllModes 10 = .ok (.iload_n 2, 1) := by decide +kernel
theorem dX3_tryFromAllModes_11 : decode cX3_tryFromAllModes 11 = .ok (.bipush 9, 2) := by decide +kernel
theorem dX3_tryFromAllModes_13 : decode cX3_tryFromAllModes 13 = .ok (.imul, 1) := by decide +kernel
theorem dX3_tryFromAllModes_14 : decode cX3_tryFromAllModes 14 = .ok (.iload_n 3, 1) := by decide +kernel
theorem dX3_tryFromAllModes_15 : decode cX3_tryFromAllModes 15 = .ok (.iadd, 1) := by decide +kernel
theorem dX3_tryFromAllModes_16 : decode cX3_tryFromAllModes 16 = .ok (.iaload, 1) := by decide +kernel
theorem dX3_tryFromAllModes_17 : decode cX3_tryFromAllModes 17 = .ok (.imul, 1) := by decide +kernel
theorem dX3_tryFromAllModes_18 : decode cX3_tryFromAllModes 18 = .ok (.istore 4, 2) := by decide +kernel
theorem dX3_tryFromAllModes_20 : decode cX3_tryFromAllModes 20 = .ok (.iconst 0, 1) := by decide +kernel
theorem dX3_tryFromAllModes_21 : decode cX3_tryFromAllModes 21 = .ok (.istore 5, 2) := by decide +kernel
theorem dX3_tryFromAllModes_23 : decode cX3_tryFromAllModes 23 = .ok (.iload 5, 2) := by decide +kernel
theorem dX3_tryFromAllModes_25 : decode cX3_tryFromAllModes 25 = .ok (.bipush 9, 2) := by decide +kernel
theorem dX3_tryFromAllModes_27 : decode cX3_tryFromAllModes 27 = .ok (.if_icmp .ge 48, 3) := by decide +kernel
theorem dX3_tryFromAllModes_30 : decode cX3_tryFromAllModes 30 = .ok (.aload_n 1, 1) := by decide +kernel
theorem dX3_tryFromAllModes_31 : decode cX3_tryFromAllModes 31 = .ok (.getfield 44, 3) := by decide +kernel
theorem dX3_tryFromAllModes_34 : decode cX3_tryFromAllModes 34 = .ok (.iload_n 3, 1) := by decide +kernel
theorem dX3_tryFromAllModes_35 : decode cX3_tryFromAllModes 35 = .ok (.bipush 9, 2) := by decide +kernel
theorem dX3_tryFromAllModes_37 : decode cX3_tryFromAllModes 37 = .ok (.imul, 1) := by decide +kernel
theorem dX3_tryFromAllModes_38 : decode cX3_tryFromAllModes 38 = .ok (.iload 5, 2) := by decide +kernel
theorem dX3_tryFromAllModes_40 : decode cX3_tryFromAllModes 40 = .ok (.iadd, 1) := by decide +kernel
theorem dX3_tryFromAllModes_41 : decode cX3_tryFromAllModes 41 = .ok (.iaload, 1) := by decide +kernel
theorem dX3_tryFromAllModes_42 : decode cX3_tryFromAllModes 42 = .ok (.istore 6, 2) := by decide +kernel
theorem dX3_tryFromAllModes_44 : decode cX3_tryFromAllModes 44 = .ok (.iload 6, 2) := by decide +kernel
theorem dX3_tryFromAllModes_46 : decode cX3_tryFromAllModes 46 = .ok (.iconst (-1), 1) := by decide +kernel
theorem dX3_tryFromAllModes_47 : decode cX3_tryFromAllModes 47 = .ok (.if_icmp .eq 22, 3) := by decide +kernel
theorem dX3_tryFromAllModes_50 : decode cX3_tryFromAllModes 50 = .ok (.aload_n 0, 1) := by decide +kernel
theorem dX3_tryFromAllModes_51 : decode cX3_tryFromAllModes 51 = .ok (.aload_n 1, 1) := by decide +kernel
theorem dX3_tryFromAllModes_52 : decode cX3_tryFromAllModes 52 = .ok (.iload_n 2, 1) := by decide +kernel
theorem dX3_tryFromAllModes_53 : decode cX3_tryFromAllModes 53 = .ok (.iload_n 3, 1) := by decide +kernel
theorem dX3_tryFromAllModes_54 : decode cX3_tryFromAllModes 54 = .ok (.iload 5, 2) := by decide +kernel
theorem dX3_tryFromAllModes_56 : decode cX3_tryFromAllModes 56 = .ok (.iload 4, 2) := by decide +kernel
theorem dX3_tryFromAllModes_58 : decode cX3_tryFromAllModes 58 = .ok (.iload 6, 2) := by decide +kernel
theorem dX3_tryFromAllModes_60 : decode cX3_tryFromAllModes 60 = .ok (.aload_n 0, 1) := by decide +kernel
theorem dX3_tryFromAllModes_61 : decode cX3_tryFromAllModes 61 = .ok (.getfield 15, 3) := by decide +kernel
theorem dX3_tryFromAllModes_64 : decode cX3_tryFromAllModes 64 = .ok (.imul, 1) := by decide +kernel
theorem dX3_tryFromAllModes_65 : decode cX3_tryFromAllModes 65 = .ok (.isub, 1) := by decide +kernel
theorem dX3_tryFromAllModes_66 : decode cX3_tryFromAllModes 66 = .ok (.invokevirtual 47, 3) := by decide +kernel
theorem dX3_tryFromAllModes_69 : decode cX3_tryFromAllModes 69 = .ok (.iinc 5 1, 3) := by decide +kernel
theorem dX3_tryFromAllModes_72 : decode cX3_tryFromAllModes 72 = .ok (.goto (-49), 3) := by decide +kernel
theorem dX3_tryFromAllModes_75 : decode cX3_tryFromAllModes 75 = .ok (.return_, 1) := by decide +kernel
theorem dX3_tryAtAllLevels_0 : decode cX3_tryAtAllLevels 0 = .ok (.aload_n 1, 1) := by decide +kernel
theorem dX3_tryAtAllLevels_1 : decode cX3_tryAtAllLevels 1 = .ok (.getfield 51, 3) := by decide +kernel
theorem dX3_tryAtAllLevels_4 : decode cX3_tryAtAllLevels 4 = .ok (.iload_n 2, 1) := by decide +kernel
theorem dX3_tryAtAllLevels_5 : decode cX3_tryAtAllLevels 5 = .ok (.bipush 9, 2) := by decide +kernel
theorem dX3_tryAtAllLevels_7 : decode cX3_tryAtAllLevels 7 = .ok (.imul, 1) := by decide +kernel
theorem dX3_tryAtAllLevels_8 : decode cX3_tryAtAllLevels 8 = .ok (.iload_n 3, 1) := by decide +kernel
theorem dX3_tryAtAllLevels_9 : decode cX3_tryAtAllLevels 9 = .ok (.iadd, 1) := by decide +kernel
theorem dX3_tryAtAllLevels_10 : decode cX3_tryAtAllLevels 10 = .ok (.iaload, 1) := by decide +kernel
theorem dX3_tryAtAllLevels_11 : decode cX3_tryAtAllLevels 11 = .ok (.istore 6, 2) := by decide +kernel
theorem dX3_tryAtAllLevels_13 : decode cX3_tryAtAllLevels 13 = .ok (.aload_n 1, 1) := by decide +kernel
theorem dX3_tryAtAllLevels_14 : decode cX3_tryAtAllLevels 14 = .ok (.getfield 54, 3) := by decide +kernel
theorem dX3_tryAtAllLevels_17 : decode cX3_tryAtAllLevels 17 = .ok (.iload_n 2, 1) := by decide +kernel
theorem dX3_tryAtAllLevels_18 : decode cX3_tryAtAllLevels 18 = .ok (.bipush 9, 2) := by decide +kernel
theorem dX3_tryAtAllLevels_20 : decode cX3_tryAtAllLevels 20 = .ok (.imul, 1) := by decide +kernel
theorem dX3_tryAtAllLevels_21 : decode cX3_tryAtAllLevels 21 = .ok (.iload_n 3, 1) := by decide +kernel
theorem dX3_tryAtAllLevels_22 : decode cX3_tryAtAllLevels 22 = .ok (.iadd, 1) := by decide +kernel
theorem dX3_tryAtAllLevels_23 : decode cX3_tryAtAllLevels 23 = .ok (.iaload, 1) := by decide +kernel
theorem dX3_tryAtAllLevels_24 : decode cX3_tryAtAllLevels 24 = .ok (.istore 7, 2) := by decide +kernel
theorem dX3_tryAtAllLevels_26 : decode cX3_tryAtAllLevels 26 = .ok (.aload_n 1, 1) := by decide +kernel
theorem dX3_tryAtAllLevels_27 : decode cX3_tryAtAllLevels 27 = .ok (.getfield 57, 3) := by decide +kernel
theorem dX3_tryAtAllLevels_30 : decode cX3_tryAtAllLevels 30 = .ok (.iload_n 2, 1) := by decide +kernel
theorem dX3_tryAtAllLevels_31 : decode cX3_tryAtAllLevels 31 = .ok (.bipush 9, 2) := by decide +kernel
theorem dX3_tryAtAllLevels_33 : decode cX3_tryAtAllLevels 33 = .ok (.imul, 1) := by decide +kernel
theorem dX3_tryAtAllLevels_34 : decode cX3_tryAtAllLevels 34 = .ok (.iload_n 3, 1) := by decide +kernel
theorem dX3_tryAtAllLevels_35 : decode cX3_tryAtAllLevels 35 = .ok (.iadd, 1) := by decide +kernel
theorem dX3_tryAtAllLevels_36 : decode cX3_tryAtAllLevels 36 = .ok (.iaload, 1) := by decide +kernel
theorem dX3_tryAtAllLevels_37 : decode cX3_tryAtAllLevels 37 = .ok (.istore 8, 2) := by decide +kernel
theorem dX3_tryAtAllLevels_39 : decode cX3_tryAtAllLevels 39 = .ok (.iload 8, 2) := by decide +kernel
theorem dX3_tryAtAllLevels_41 : decode cX3_tryAtAllLevels 41 = .ok (.iload 7, 2) := by decide +kernel
theorem dX3_tryAtAllLevels_43 : decode cX3_tryAtAllLevels 43 = .ok (.if_icmp .gt 78, 3) := by decide +kernel
theorem dX3_tryAtAllLevels_46 : decode cX3_tryAtAllLevels 46 = .ok (.aload_n 0, 1) := by decide +kernel
theorem dX3_tryAtAllLevels_47 : decode cX3_tryAtAllLevels 47 = .ok (.getfield 22, 3) := by decide +kernel
theorem dX3_tryAtAllLevels_50 : decode cX3_tryAtAllLevels 50 = .ok (.iload 8, 2) := by decide +kernel
theorem dX3_tryAtAllLevels_52 : decode cX3_tryAtAllLevels 52 = .ok (.iload 6, 2) := by decide +kernel
theorem dX3_tryAtAllLevels_54 : decode cX3_tryAtAllLevels 54 = .ok (.iadd, 1) := by decide +kernel
theorem dX3_tryAtAllLevels_55 : decode cX3_tryAtAllLevels 55 = .ok (.bipush 9, 2) := by decide +kernel
theorem dX3_tryAtAllLevels_57 : decode cX3_tryAtAllLevels 57 = .ok (.imul, 1) := by decide +kernel
theorem dX3_tryAtAllLevels_58 : decode cX3_tryAtAllLevels 58 = .ok (.iload_n 3, 1) := by decide +kernel
theorem dX3_tryAtAllLevels_59 : decode cX3_tryAtAllLevels 59 = .ok (.iadd, 1) := by decide +kernel
theorem dX3_tryAtAllLevels_60 : decode cX3_tryAtAllLevels 60 = .ok (.iaload, 1) := by decide +kernel
theorem dX3_tryAtAllLevels_61 : decode cX3_tryAtAllLevels 61 = .ok (.istore 9, 2) := by decide +kernel
theorem dX3_tryAtAllLevels_63 : decode cX3_tryAtAllLevels 63 = .ok (.iload 8, 2) := by decide +kernel
theorem dX3_tryAtAllLevels_65 : decode cX3_tryAtAllLevels 65 = .ok (.bipush 9, 2) := by decide +kernel
theorem dX3_tryAtAllLevels_67 : decode cX3_tryAtAllLevels 67 = .ok (.imul, 1) := by decide +kernel
theorem dX3_tryAtAllLevels_68 : decode cX3_tryAtAllLevels 68 = .ok (.iload 4, 2) := by decide +kernel
theorem dX3_tryAtAllLevels_70 : decode cX3_tryAtAllLevels 70 = .ok (.iadd, 1) := by decide +kernel
theorem dX3_tryAtAllLevels_71 : decode cX3_tryAtAllLevels 71 = .ok (.istore 10, 2) := by decide +kernel
theorem dX3_tryAtAllLevels_73 : decode cX3_tryAtAllLevels 73 = .ok (.iload 9, 2) := by decide +kernel
theorem dX3_tryAtAllLevels_75 : decode cX3_tryAtAllLevels 75 = .ok (.ldc 34, 2) := by decide +kernel
theorem dX3_tryAtAllLevels_77 : decode cX3_tryAtAllLevels 77 = .ok (.if_icmp .eq 38, 3) := by decide +kernel
theorem dX3_tryAtAllLevels_80 : decode cX3_tryAtAllLevels 80 = .ok (.iload 5, 2) := by decide +kernel
theorem dX3_tryAtAllLevels_82 : decode cX3_tryAtAllLevels 82 = .ok (.iload 9, 2) := by decide +kernel
theorem dX3_tryAtAllLevels_84 : decode cX3_tryAtAllLevels 84 = .ok (.iadd, 1) := by decide +kernel
theorem dX3_tryAtAllLevels_85 : decode cX3_tryAtAllLevels 85 = .ok (.aload_n 0, 1) := by decide +kernel
theorem dX3_tryAtAllLevels_86 : decode cX3_tryAtAllLevels 86 = .ok (.getfield 19, 3) := by decide +kernel
theorem dX3_tryAtAllLevels_89 : decode cX3_tryAtAllLevels 89 = .ok (.iload 10, 2) := by decide +kernel
theorem dX3_tryAtAllLevels_91 : decode cX3_tryAtAllLevels 91 = .ok (.iaload, 1) := by decide +kernel
theorem dX3_tryAtAllLevels_92 : decode cX3_tryAtAllLevels 92 = .ok (.if_icmp .le 23, 3) := by decide +kernel
theorem dX3_tryAtAllLevels_95 : decode cX3_tryAtAllLevels 95 = .ok (.aload_n 0, 1) := by decide +kernel
theorem dX3_tryAtAllLevels_96 : decode cX3_tryAtAllLevels 96 = .ok (.getfield 19, 3) := by decide +kernel
theorem dX3_tryAtAllLevels_99 : decode cX3_tryAtAllLevels 99 = .ok (.iload 10, 2) := by decide +kernel
theorem dX3_tryAtAllLevels_101 : decode cX3_tryAtAllLevels 101 = .ok (.iload 5, 2) := by decide +kernel
theorem dX3_tryAtAllLevels_103 : decode cX3_tryAtAllLevels 103 = .ok (.iload 9, 2) := by decide +kernel
theorem dX3_tryAtAllLevels_105 : decode cX3_tryAtAllLevels 105 = .ok (.iadd, 1) := by decide +kernel
theorem dX3_tryAtAllLevels_106 : decode cX3_tryAtAllLevels 106 = .ok (.iastore, 1) := by decide +kernel
theorem dX3_tryAtAllLevels_107 : decode cX3_tryAtAllLevels 107 = .ok (.aload_n 0, 1) := by decide +kernel
theorem dX3_tryAtAllLevels_108 : decode cX3_tryAtAllLevels 108 = .ok (.getfield 25, 3) := by decide +kernel
theorem dX3_tryAtAllLevels_111 : decode cX3_tryAtAllLevels 111 = .ok (.iload 10, 2) := by decide +kernel
theorem dX3_tryAtAllLevels_113 : decode cX3_tryAtAllLevels 113 = .ok (.iload_n 3, 1) := by decide +kernel
theorem dX3_tryAtAllLevels_114 : decode cX3_tryAtAllLevels 114 = .ok (.iastore, 1) := by decide +kernel
theorem dX3_tryAtAllLevels_115 : decode cX3_tryAtAllLevels 115 = .ok (.iinc 8 1, 3) := by decide +kernel
theorem dX3_tryAtAllLevels_118 : decode cX3_tryAtAllLevels 118 = .ok (.goto (-79), 3) := by decide +kernel
theorem dX3_tryAtAllLevels_121 : decode cX3_tryAtAllLevels 121 = .ok (.return_, 1) := by decide +kernel
