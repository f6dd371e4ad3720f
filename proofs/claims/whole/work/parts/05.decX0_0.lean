theorem dX0_init_0 : decode cX0_init 0 = .ok (.aload_n 0, 1) := by decide +kernel
theorem dX0_init_1 : decode cX0_init 1 = .ok (.invokespecial 3, 3) := by decide +kernel
theorem dX0_init_4 : decode cX0_init 4 = .ok (.aload_n 0, 1) := by decide +kernel
theorem dX0_init_5 : decode cX0_init 5 = .ok (.sipush 216, 3) := by decide +kernel
theorem dX0_init_8 : decode cX0_init 8 = .ok (.newarray .int, 2) := by decide +kernel
theorem dX0_init_10 : decode cX0_init 10 = .ok (.putfield 9, 3) := by decide +kernel
theorem dX0_init_13 : decode cX0_init 13 = .ok (.aload_n 0, 1) := by decide +kernel
theorem dX0_init_14 : decode cX0_init 14 = .ok (.sipush 216, 3) := by decide +kernel
theorem dX0_init_17 : decode cX0_init 17 = .ok (.newarray .int, 2) := by decide +kernel
theorem dX0_init_19 : decode cX0_init 19 = .ok (.putfield 15, 3) := by decide +kernel
theorem dX0_init_22 : decode cX0_init 22 = .ok (.aload_n 0, 1) := by decide +kernel
theorem dX0_init_23 : decode cX0_init 23 = .ok (.sipush 216, 3) := by decide +kernel
theorem dX0_init_26 : decode cX0_init 26 = .ok (.newarray .int, 2) := by decide +kernel
theorem dX0_init_28 : decode cX0_init 28 = .ok (.putfield 18, 3) := by decide +kernel
theorem dX0_init_31 : decode cX0_init 31 = .ok (.aload_n 0, 1) := by decide +kernel
theorem dX0_init_32 : decode cX0_init 32 = .ok (.sipush 216, 3) := by decide +kernel
theorem dX0_init_35 : decode cX0_init 35 = .ok (.newarray .int, 2) := by decide +kernel
theorem dX0_init_37 : decode cX0_init 37 = .ok (.putfield 21, 3) := by decide +kernel
theorem dX0_init_40 : decode cX0_init 40 = .ok (.aload_n 0, 1) := by decide +kernel
theorem dX0_init_41 : decode cX0_init 41 = .ok (.sipush 216, 3) := by decide +kernel
theorem dX0_init_44 : decode cX0_init 44 = .ok (.newarray .int, 2) := by decide +kernel
theorem dX0_init_46 : decode cX0_init 46 = .ok (.putfield 24, 3) := by decide +kernel
theorem dX0_init_49 : decode cX0_init 49 = .ok (.aload_n 0, 1) := by decide +kernel
theorem dX0_init_50 : decode cX0_init 50 = .ok (.bipush 81, 2) := by decide +kernel
theorem dX0_init_52 : decode cX0_init 52 = .ok (.newarray .int, 2) := by decide +kernel
theorem dX0_init_54 : decode cX0_init 54 = .ok (.putfield 27, 3) := by decide +kernel
theorem dX0_init_57 : decode cX0_init 57 = .ok (.aload_n 0, 1) := by decide +kernel
theorem dX0_init_58 : decode cX0_init 58 = .ok (.aload_n 1, 1) := by decide +kernel
theorem dX0_init_59 : decode cX0_init 59 = .ok (.putfield 30, 3) := by decide +kernel
theorem dX0_init_62 : decode cX0_init 62 = .ok (.aload_n 0, 1) := by decide +kernel
theorem dX0_init_63 : decode cX0_init 63 = .ok (.aload_n 2, 1) := by decide +kernel
theorem dX0_init_64 : decode cX0_init 64 = .ok (.putfield 34, 3) := by decide +kernel
theorem dX0_init_67 : decode cX0_init 67 = .ok (.aload_n 0, 1) := by decide +kernel
theorem dX0_init_68 : decode cX0_init 68 = .ok (.aload_n 3, 1) := by decide +kernel
theorem dX0_init_69 : decode cX0_init 69 = .ok (.putfield 38, 3) := by decide +kernel
theorem dX0_init_72 : decode cX0_init 72 = .ok (.return_, 1) := by decide +kernel
theorem dX0_foresee_0 : decode cX0_foresee 0 = .ok (.iload_n 2, 1) := by decide +kernel
theorem dX0_foresee_1 : decode cX0_foresee 1 = .ok (.istore_n 3, 1) := by decide +kernel
theorem dX0_foresee_2 : decode cX0_foresee 2 = .ok (.iload_n 1, 1) := by decide +kernel
theorem dX0_foresee_3 : decode cX0_foresee 3 = .ok (.istore 4, 2) := by decide +kernel
theorem dX0_foresee_5 : decode cX0_foresee 5 = .ok (.iload 4, 2) := by decide +kernel
theorem dX0_foresee_7 : decode cX0_foresee 7 = .ok (.bipush 24, 2) := by decide +kernel
theorem dX0_foresee_9 : decode cX0_foresee 9 = .ok (.if_icmp .ge 40, 3) := by decide +kernel
theorem dX0_foresee_12 : decode cX0_foresee 12 = .ok (.aload_n 0, 1) := by decide +kernel
theorem dX0_foresee_13 : decode cX0_foresee 13 = .ok (.iload 4, 2) := by decide +kernel
theorem dX0_foresee_15 : decode cX0_foresee 15 = .ok (.iload_n 3, 1) := by decide +kernel
theorem dX0_foresee_16 : decode cX0_foresee 16 = .ok (.invokevirtual 41, 3) := by decide +kernel
theorem dX0_foresee_19 : decode cX0_foresee 19 = .ok (.iload_n 3, 1) := by decide +kernel
theorem dX0_foresee_20 : decode cX0_foresee 20 = .ok (.aload_n 0, 1) := by decide +kernel
theorem dX0_foresee_21 : decode cX0_foresee 21 = .ok (.getfield 30, 3) := by decide +kernel
theorem dX0_foresee_24 : decode cX0_foresee 24 = .ok (.getfield 45, 3) := by decide +kernel
theorem dX0_foresee_27 : decode cX0_foresee 27 = .ok (.iload 4, 2) := by decide +kernel
theorem dX0_foresee_29 : decode cX0_foresee 29 = .ok (.iaload, 1) := by decide +kernel
theorem dX0_foresee_30 : decode cX0_foresee 30 = .ok (.aload_n 0, 1) := by decide +kernel
theorem dX0_foresee_31 : decode cX0_foresee 31 = .ok (.getfield 30, 3) := by decide +kernel
theorem dX0_foresee_34 : decode cX0_foresee 34 = .ok (.getfield 50, 3) := by decide +kernel
theorem dX0_foresee_37 : decode cX0_foresee 37 = .ok (.iload 4, 2) := by decide +kernel
theorem dX0_foresee_39 : decode cX0_foresee 39 = .ok (.iaload, 1) := by decide +kernel
theorem dX0_foresee_40 : decode cX0_foresee 40 = .ok (.isub, 1) := by decide +kernel
theorem dX0_foresee_41 : decode cX0_foresee 41 = .ok (.iadd, 1) := by decide +kernel
theorem dX0_foresee_42 : decode cX0_foresee 42 = .ok (.istore_n 3, 1) := by decide +kernel
theorem dX0_foresee_43 : decode cX0_foresee 43 = .ok (.iinc 4 1, 3) := by decide +kernel
theorem dX0_foresee_46 : decode cX0_foresee 46 = .ok (.goto (-41), 3) := by decide +kernel
theorem dX0_foresee_49 : decode cX0_foresee 49 = .ok (.aload_n 0, 1) := by decide +kernel
theorem dX0_foresee_50 : decode cX0_foresee 50 = .ok (.invokevirtual 53, 3) := by decide +kernel
theorem dX0_foresee_53 : decode cX0_foresee 53 = .ok (.return_, 1) := by decide +kernel
theorem dX0_lookAt_0 : decode cX0_lookAt 0 = .ok (.iload_n 2, 1) := by decide +kernel
theorem dX0_lookAt_1 : decode cX0_lookAt 1 = .ok (.aload_n 0, 1) := by decide +kernel
theorem dX0_lookAt_2 : decode cX0_lookAt 2 = .ok (.getfield 30, 3) := by decide +kernel
theorem dX0_lookAt_5 : decode cX0_lookAt 5 = .ok (.getfield 45, 3) := by decide +kernel
theorem dX0_lookAt_8 : decode cX0_lookAt 8 = .ok (.iload_n 1, 1) := by decide +kernel
theorem dX0_lookAt_9 : decode cX0_lookAt 9 = .ok (.iaload, 1) := by decide +kernel
theorem dX0_lookAt_10 : decode cX0_lookAt 10 = .ok (.iadd, 1) := by decide +kernel
theorem dX0_lookAt_11 : decode cX0_lookAt 11 = .ok (.aload_n 0, 1) := by decide +kernel
theorem dX0_lookAt_12 : decode cX0_lookAt 12 = .ok (.getfield 30, 3) := by decide +kernel
theorem dX0_lookAt_15 : decode cX0_lookAt 15 = .ok (.getfield 50, 3) := by decide +kernel
theorem dX0_lookAt_18 : decode cX0_lookAt 18 = .ok (.iload_n 1, 1) := by decide +kernel
theorem dX0_lookAt_19 : decode cX0_lookAt 19 = .ok (.iaload, 1) := by decide +kernel
theorem dX0_lookAt_20 : decode cX0_lookAt 20 = .ok (.isub, 1) := by decide +kernel
theorem dX0_lookAt_21 : decode cX0_lookAt 21 = .ok (.istore_n 3, 1) := by decide +kernel
theorem dX0_lookAt_22 : decode cX0_lookAt 22 = .ok (.iconst 0, 1) := by decide +kernel
theorem dX0_lookAt_23 : decode cX0_lookAt 23 = .ok (.istore 4, 2) := by decide +kernel
theorem dX0_lookAt_25 : decode cX0_lookAt 25 = .ok (.iload 4, 2) := by decide +kernel
theorem dX0_lookAt_27 : decode cX0_lookAt 27 = .ok (.bipush 9, 2) := by decide +kernel
theorem dX0_lookAt_29 : decode cX0_lookAt 29 = .ok (.if_icmp .ge 135, 3) := by decide +kernel
theorem dX0_lookAt_32 : decode cX0_lookAt 32 = .ok (.iload_n 1, 1) := by decide +kernel
theorem dX0_lookAt_33 : decode cX0_lookAt 33 = .ok (.bipush 9, 2) := by decide +kernel
theorem dX0_lookAt_35 : decode cX0_lookAt 35 = .ok (.imul, 1) := by decide +kernel
theorem dX0_lookAt_36 : decode cX0_lookAt 36 = .ok (.iload 4, 2) := by decide +kernel
theorem dX0_lookAt_38 : decode cX0_lookAt 38 = .ok (.iadd, 1) := by decide +kernel
theorem dX0_lookAt_39 : decode cX0_lookAt 39 = .ok (.istore 5, 2) := by decide +kernel
theorem dX0_lookAt_41 : decode cX0_lookAt 41 = .ok (.aload_n 0, 1) := by decide +kernel
theorem dX0_lookAt_42 : decode cX0_lookAt 42 = .ok (.iload_n 1, 1) := by decide +kernel
theorem dX0_lookAt_43 : decode cX0_lookAt 43 = .ok (.iload 4, 2) := by decide +kernel
theorem dX0_lookAt_45 : decode cX0_lookAt 45 = .ok (.invokevirtual 56, 3) := by decide +kernel
theorem dX0_lookAt_48 : decode cX0_lookAt 48 = .ok (.aload_n 0, 1) := by decide +kernel
theorem dX0_lookAt_49 : decode cX0_lookAt 49 = .ok (.iload_n 1, 1) := by decide +kernel
theorem dX0_lookAt_50 : decode cX0_lookAt 50 = .ok (.iload 4, 2) := by decide +kernel
theorem dX0_lookAt_52 : decode cX0_lookAt 52 = .ok (.invokevirtual 59, 3) := by decide +kernel
theorem dX0_lookAt_55 : decode cX0_lookAt 55 = .ok (.ifCond .eq 22, 3) := by decide +kernel
theorem dX0_lookAt_58 : decode cX0_lookAt 58 = .ok (.aload_n 0, 1) := by decide +kernel
theorem dX0_lookAt_59 : decode cX0_lookAt 59 = .ok (.getfield 21, 3) := by decide +kernel
theorem dX0_lookAt_62 : decode cX0_lookAt 62 = .ok (.iload 5, 2) := by decide +kernel
theorem dX0_lookAt_64 : decode cX0_lookAt 64 = .ok (.iconst 1, 1) := by decide +kernel
theorem dX0_lookAt_65 : decode cX0_lookAt 65 = .ok (.iastore, 1) := by decide +kernel
theorem dX0_lookAt_66 : decode cX0_lookAt 66 = .ok (.aload_n 0, 1) := by decide +kernel
theorem dX0_lookAt_67 : decode cX0_lookAt 67 = .ok (.getfield 24, 3) := by decide +kernel
theorem dX0_lookAt_70 : decode cX0_lookAt 70 = .ok (.iload 5, 2) := by decide +kernel
theorem dX0_lookAt_72 : decode cX0_lookAt 72 = .ok (.iconst 0, 1) := by decide +kernel
theorem dX0_lookAt_73 : decode cX0_lookAt 73 = .ok (.iastore, 1) := by decide +kernel
theorem dX0_lookAt_74 : decode cX0_lookAt 74 = .ok (.goto 84, 3) := by decide +kernel
theorem dX0_lookAt_77 : decode cX0_lookAt 77 = .ok (.aload_n 0, 1) := by decide +kernel
theorem dX0_lookAt_78 : decode cX0_lookAt 78 = .ok (.getfield 15, 3) := by decide +kernel
theorem dX0_lookAt_81 : decode cX0_lookAt 81 = .ok (.iload 5, 2) := by decide +kernel
theorem dX0_lookAt_83 : decode cX0_lookAt 83 = .ok (.iaload, 1) := by decide +kernel
theorem dX0_lookAt_84 : decode cX0_lookAt 84 = .ok (.istore 6, 2) := by decide +kernel
theorem dX0_lookAt_86 : decode cX0_lookAt 86 = .ok (.aload_n 0, 1) := by decide +kernel
theorem dX0_lookAt_87 : decode cX0_lookAt 87 = .ok (.getfield 30, 3) := by decide +kernel
theorem dX0_lookAt_90 : decode cX0_lookAt 90 = .ok (.iload_n 2, 1) := by decide +kernel
theorem dX0_lookAt_91 : decode cX0_lookAt 91 = .ok (.invokevirtual 63, 3) := by decide +kernel
theorem dX0_lookAt_94 : decode cX0_lookAt 94 = .ok (.aload_n 0, 1) := by decide +kernel
theorem dX0_lookAt_95 : decode cX0_lookAt 95 = .ok (.getfield 30, 3) := by decide +kernel
theorem dX0_lookAt_98 : decode cX0_lookAt 98 = .ok (.iload_n 3, 1) := by decide +kernel
theorem dX0_lookAt_99 : decode cX0_lookAt 99 = .ok (.invokevirtual 63, 3) := by decide +kernel
theorem dX0_lookAt_102 : decode cX0_lookAt 102 = .ok (.iload 6, 2) := by decide +kernel
theorem dX0_lookAt_104 : decode cX0_lookAt 104 = .ok (.isub, 1) := by decide +kernel
theorem dX0_lookAt_105 : decode cX0_lookAt 105 = .ok (.invokestatic 67, 3) := by decide +kernel
theorem dX0_lookAt_108 : decode cX0_lookAt 108 = .ok (.istore 7, 2) := by decide +kernel
theorem dX0_lookAt_110 : decode cX0_lookAt 110 = .ok (.aload_n 0, 1) := by decide +kernel
theorem dX0_lookAt_111 : decode cX0_lookAt 111 = .ok (.getfield 21, 3) := by decide +kernel
theorem dX0_lookAt_114 : decode cX0_lookAt 114 = .ok (.iload 5, 2) := by decide +kernel
theorem dX0_lookAt_116 : decode cX0_lookAt 116 = .ok (.iload 7, 2) := by decide +kernel
theorem dX0_lookAt_118 : decode cX0_lookAt 118 = .ok (.aload_n 0, 1) := by decide +kernel
theorem dX0_lookAt_119 : decode cX0_lookAt 119 = .ok (.iload_n 1, 1) := by decide +kernel
theorem dX0_lookAt_120 : decode cX0_lookAt 120 = .ok (.iload 4, 2) := by decide +kernel
theorem dX0_lookAt_122 : decode cX0_lookAt 122 = .ok (.invokevirtual 73, 3) := by decide +kernel
theorem dX0_lookAt_125 : decode cX0_lookAt 125 = .ok (.invokestatic 67, 3) := by decide +kernel
theorem dX0_lookAt_128 : decode cX0_lookAt 128 = .ok (.iastore, 1) := by decide +kernel
theorem dX0_lookAt_129 : decode cX0_lookAt 129 = .ok (.aload_n 0, 1) := by decide +kernel
theorem dX0_lookAt_130 : decode cX0_lookAt 130 = .ok (.getfield 24, 3) := by decide +kernel
theorem dX0_lookAt_133 : decode cX0_lookAt 133 = .ok (.iload 5, 2) := by decide +kernel
theorem dX0_lookAt_135 : decode cX0_lookAt 135 = .ok (.aload_n 0, 1) := by decide +kernel
theorem dX0_lookAt_136 : decode cX0_lookAt 136 = .ok (.getfield 30, 3) := by decide +kernel
theorem dX0_lookAt_139 : decode cX0_lookAt 139 = .ok (.iload_n 2, 1) := by decide +kernel
theorem dX0_lookAt_140 : decode cX0_lookAt 140 = .ok (.invokevirtual 76, 3) := by decide +kernel
theorem dX0_lookAt_143 : decode cX0_lookAt 143 = .ok (.aload_n 0, 1) := by decide +kernel
theorem dX0_lookAt_144 : decode cX0_lookAt 144 = .ok (.getfield 30, 3) := by decide +kernel
theorem dX0_lookAt_147 : decode cX0_lookAt 147 = .ok (.iload_n 3, 1) := by decide +kernel
theorem dX0_lookAt_148 : decode cX0_lookAt 148 = .ok (.invokevirtual 76, 3) := by decide +kernel
theorem dX0_lookAt_151 : decode cX0_lookAt 151 = .ok (.iload 6, 2) := by decide +kernel
theorem dX0_lookAt_153 : decode cX0_lookAt 153 = .ok (.isub, 1) := by decide +kernel
theorem dX0_lookAt_154 : decode cX0_lookAt 154 = .ok (.invokestatic 79, 3) := by decide +kernel
theorem dX0_lookAt_157 : decode cX0_lookAt 157 = .ok (.iastore, 1) := by decide +kernel
theorem dX0_lookAt_158 : decode cX0_lookAt 158 = .ok (.iinc 4 1, 3) := by decide +kernel
theorem dX0_lookAt_161 : decode cX0_lookAt 161 = .ok (.goto (-136), 3) := by decide +kernel
theorem dX0_lookAt_164 : decode cX0_lookAt 164 = .ok (.return_, 1) := by decide +kernel
theorem dX0_isOpen_0 : decode cX0_isOpen 0 = .ok (.iload_n 2, 1) := by decide +kernel
theorem dX0_isOpen_1 : decode cX0_isOpen 1 = .ok (.aload_n 0, 1) := by decide +kernel
theorem dX0_isOpen_2 : decode cX0_isOpen 2 = .ok (.getfield 21, 3) := by decide +kernel
theorem dX0_isOpen_5 : decode cX0_isOpen 5 = .ok (.iload_n 1, 1) := by decide +kernel
theorem dX0_isOpen_6 : decode cX0_isOpen 6 = .ok (.iaload, 1) := by decide +kernel
theorem dX0_isOpen_7 : decode cX0_isOpen 7 = .ok (.if_icmp .lt 17, 3) := by decide +kernel
theorem dX0_isOpen_10 : decode cX0_isOpen 10 = .ok (.iload_n 2, 1) := by decide +kernel
theorem dX0_isOpen_11 : decode cX0_isOpen 11 = .ok (.aload_n 0, 1) := by decide +kernel
theorem dX0_isOpen_12 : decode cX0_isOpen 12 = .ok (.getfield 24, 3) := by decide +kernel
theorem dX0_isOpen_15 : decode cX0_isOpen 15 = .ok (.iload_n 1, 1) := by decide +kernel
theorem dX0_isOpen_16 : decode cX0_isOpen 16 = .ok (.iaload, 1) := by decide +kernel
theorem dX0_isOpen_17 : decode cX0_isOpen 17 = .ok (.if_icmp .gt 7, 3) := by decide +kernel
theorem dX0_isOpen_20 : decode cX0_isOpen 20 = .ok (.iconst 1, 1) := by decide +kernel
theorem dX0_isOpen_21 : decode cX0_isOpen 21 = .ok (.goto 4, 3) := by decide +kernel
theorem dX0_isOpen_24 : decode cX0_isOpen 24 = .ok (.iconst 0, 1) := by decide +kernel
theorem dX0_isOpen_25 : decode cX0_isOpen 25 = .ok (.ireturn, 1) := by decide +kernel
theorem dX0_measure_0 : decode cX0_measure 0 = .ok (.iload_n 1, 1) := by decide +kernel
theorem dX0_measure_1 : decode cX0_measure 1 = .ok (.bipush 9, 2) := by decide +kernel
theorem dX0_measure_3 : decode cX0_measure 3 = .ok (.imul, 1) := by decide +kernel
theorem dX0_measure_4 : decode cX0_measure 4 = .ok (.iload_n 2, 1) := by decide +kernel
theorem dX0_measure_5 : decode cX0_measure 5 = .ok (.iadd, 1) := by decide +kernel
theorem dX0_measure_6 : decode cX0_measure 6 = .ok (.istore_n 3, 1) := by decide +kernel
theorem dX0_measure_7 : decode cX0_measure 7 = .ok (.iload_n 2, 1) := by decide +kernel
theorem dX0_measure_8 : decode cX0_measure 8 = .ok (.iconst 3, 1) := by decide +kernel
theorem dX0_measure_9 : decode cX0_measure 9 = .ok (.idiv, 1) := by decide +kernel
theorem dX0_measure_10 : decode cX0_measure 10 = .ok (.istore 4, 2) := by decide +kernel
theorem dX0_measure_12 : decode cX0_measure 12 = .ok (.iload_n 2, 1) := by decide +kernel
theorem dX0_measure_13 : decode cX0_measure 13 = .ok (.iconst 3, 1) := by decide +kernel
theorem dX0_measure_14 : decode cX0_measure 14 = .ok (.irem, 1) := by decide +kernel
theorem dX0_measure_15 : decode cX0_measure 15 = .ok (.istore 5, 2) := by decide +kernel
theorem dX0_measure_17 : decode cX0_measure 17 = .ok (.aload_n 0, 1) := by decide +kernel
theorem dX0_measure_18 : decode cX0_measure 18 = .ok (.getfield 34, 3) := by decide +kernel
theorem dX0_measure_21 : decode cX0_measure 21 = .ok (.iload 4, 2) := by decide +kernel
theorem dX0_measure_23 : decode cX0_measure 23 = .ok (.invokevirtual 82, 3) := by decide +kernel
theorem dX0_measure_26 : decode cX0_measure 26 = .ok (.aload_n 0, 1) := by decide +kernel
theorem dX0_measure_27 : decode cX0_measure 27 = .ok (.getfield 38, 3) := by decide +kernel
theorem dX0_measure_30 : decode cX0_measure 30 = .ok (.iload 5, 2) := by decide +kernel
theorem dX0_measure_32 : decode cX0_measure 32 = .ok (.invokevirtual 82, 3) := by decide +kernel
theorem dX0_measure_35 : decode cX0_measure 35 = .ok (.iadd, 1) := by decide +kernel
theorem dX0_measure_36 : decode cX0_measure 36 = .ok (.istore 6, 2) := by decide +kernel
theorem dX0_measure_38 : decode cX0_measure 38 = .ok (.aload_n 0, 1) := by decide +kernel
theorem dX0_measure_39 : decode cX0_measure 39 = .ok (.getfield 9, 3) := by decide +kernel
theorem dX0_measure_42 : decode cX0_measure 42 = .ok (.iload_n 3, 1) := by decide +kernel
theorem dX0_measure_43 : decode cX0_measure 43 = .ok (.aload_n 0, 1) := by decide +kernel
theorem dX0_measure_44 : decode cX0_measure 44 = .ok (.getfield 34, 3) := by decide +kernel
theorem dX0_measure_47 : decode cX0_measure 47 = .ok (.iload 4, 2) := by decide +kernel
theorem dX0_measure_49 : decode cX0_measure 49 = .ok (.invokevirtual 87, 3) := by decide +kernel
theorem dX0_measure_52 : decode cX0_measure 52 = .ok (.aload_n 0, 1) := by decide +kernel
theorem dX0_measure_53 : decode cX0_measure 53 = .ok (.getfield 38, 3) := by decide +kernel
theorem dX0_measure_56 : decode cX0_measure 56 = .ok (.iload 5, 2) := by decide +kernel
theorem dX0_measure_58 : decode cX0_measure 58 = .ok (.invokevirtual 87, 3) := by decide +kernel
theorem dX0_measure_61 : decode cX0_measure 61 = .ok (.iadd, 1) := by decide +kernel
theorem dX0_measure_62 : decode cX0_measure 62 = .ok (.iastore, 1) := by decide +kernel
theorem dX0_measure_63 : decode cX0_measure 63 = .ok (.aload_n 0, 1) := by decide +kernel
theorem dX0_measure_64 : decode cX0_measure 64 = .ok (.getfield 15, 3) := by decide +kernel
theorem dX0_measure_67 : decode cX0_measure 67 = .ok (.iload_n 3, 1) := by decide +kernel
theorem dX0_measure_68 : decode cX0_measure 68 = .ok (.aload_n 0, 1) := by decide +kernel
theorem dX0_measure_69 : decode cX0_measure 69 = .ok (.getfield 30, 3) := by decide +kernel
theorem dX0_measure_72 : decode cX0_measure 72 = .ok (.getfield 45, 3) := by decide +kernel
theorem dX0_measure_75 : decode cX0_measure 75 = .ok (.iload_n 1, 1) := by decide +kernel
theorem dX0_measure_76 : decode cX0_measure 76 = .ok (.iaload, 1) := by decide +kernel
theorem dX0_measure_77 : decode cX0_measure 77 = .ok (.iload 6, 2) := by decide +kernel
theorem dX0_measure_79 : decode cX0_measure 79 = .ok (.isub, 1) := by decide +kernel
theorem dX0_measure_80 : decode cX0_measure 80 = .ok (.iastore, 1) := by decide +kernel
theorem dX0_measure_81 : decode cX0_measure 81 = .ok (.aload_n 0, 1) := by decide +kernel
theorem dX0_measure_82 : decode cX0_measure 82 = .ok (.getfield 18, 3) := by decide +kernel
theorem dX0_measure_85 : decode cX0_measure 85 = .ok (.iload_n 3, 1) := by decide +kernel
theorem dX0_measure_86 : decode cX0_measure 86 = .ok (.iload 6, 2) := by decide +kernel
theorem dX0_measure_88 : decode cX0_measure 88 = .ok (.aload_n 0, 1) := by decide +kernel
theorem dX0_measure_89 : decode cX0_measure 89 = .ok (.getfield 30, 3) := by decide +kernel
theorem dX0_measure_92 : decode cX0_measure 92 = .ok (.getfield 50, 3) := by decide +kernel
theorem dX0_measure_95 : decode cX0_measure 95 = .ok (.iload_n 1, 1) := by decide +kernel
theorem dX0_measure_96 : decode cX0_measure 96 = .ok (.iaload, 1) := by decide +kernel
theorem dX0_measure_97 : decode cX0_measure 97 = .ok (.isub, 1) := by decide +kernel
theorem dX0_measure_98 : decode cX0_measure 98 = .ok (.iastore, 1) := by decide +kernel
theorem dX0_measure_99 : decode cX0_measure 99 = .ok (.return_, 1) := by decide +kernel
theorem dX0_isForbidden_0 : decode cX0_isForbidden 0 = .ok (.iload_n 1, 1) := by decide +kernel
theorem dX0_isForbidden_1 : decode cX0_isForbidden 1 = .ok (.bipush 9, 2) := by decide +kernel
theorem dX0_isForbidden_3 : decode cX0_isForbidden 3 = .ok (.imul, 1) := by decide +kernel
theorem dX0_isForbidden_4 : decode cX0_isForbidden 4 = .ok (.iload_n 2, 1) := by decide +kernel
theorem dX0_isForbidden_5 : decode cX0_isForbidden 5 = .ok (.iadd, 1) := by decide +kernel
theorem dX0_isForbidden_6 : decode cX0_isForbidden 6 = .ok (.istore_n 3, 1) := by decide +kernel
theorem dX0_isForbidden_7 : decode cX0_isForbidden 7 = .ok (.iload_n 2, 1) := by decide +kernel
theorem dX0_isForbidden_8 : decode cX0_isForbidden 8 = .ok (.iconst 3, 1) := by decide +kernel
theorem dX0_isForbidden_9 : decode cX0_isForbidden 9 = .ok (.idiv, 1) := by decide +kernel
theorem dX0_isForbidden_10 : decode cX0_isForbidden 10 = .ok (.istore 4, 2) := by decide +kernel
theorem dX0_isForbidden_12 : decode cX0_isForbidden 12 = .ok (.iload_n 2, 1) := by decide +kernel
theorem dX0_isForbidden_13 : decode cX0_isForbidden 13 = .ok (.iconst 3, 1) := by decide +kernel
theorem dX0_isForbidden_14 : decode cX0_isForbidden 14 = .ok (.irem, 1) := by decide +kernel
theorem dX0_isForbidden_15 : decode cX0_isForbidden 15 = .ok (.istore 5, 2) := by decide +kernel
theorem dX0_isForbidden_17 : decode cX0_isForbidden 17 = .ok (.aload_n 0, 1) := by decide +kernel
theorem dX0_isForbidden_18 : decode cX0_isForbidden 18 = .ok (.getfield 34, 3) := by decide +kernel
theorem dX0_isForbidden_21 : decode cX0_isForbidden 21 = .ok (.iload 4, 2) := by decide +kernel
theorem dX0_isForbidden_23 : decode cX0_isForbidden 23 = .ok (.iload_n 1, 1) := by decide +kernel
theorem dX0_isForbidden_24 : decode cX0_isForbidden 24 = .ok (.invokevirtual 90, 3) := by decide +kernel
theorem dX0_isForbidden_27 : decode cX0_isForbidden 27 = .ok (.ifCond .eq 16, 3) := by decide +kernel
theorem dX0_isForbidden_30 : decode cX0_isForbidden 30 = .ok (.aload_n 0, 1) := by decide +kernel
theorem dX0_isForbidden_31 : decode cX0_isForbidden 31 = .ok (.getfield 38, 3) := by decide +kernel
theorem dX0_isForbidden_34 : decode cX0_isForbidden 34 = .ok (.iload 5, 2) := by decide +kernel
theorem dX0_isForbidden_36 : decode cX0_isForbidden 36 = .ok (.iload_n 1, 1) := by decide +kernel
theorem dX0_isForbidden_37 : decode cX0_isForbidden 37 = .ok (.invokevirtual 90, 3) := by decide +kernel
theorem dX0_isForbidden_40 : decode cX0_isForbidden 40 = .ok (.ifCond .ne 5, 3) := by decide +kernel
theorem dX0_isForbidden_43 : decode cX0_isForbidden 43 = .ok (.iconst 1, 1) := by decide +kernel
theorem dX0_isForbidden_44 : decode cX0_isForbidden 44 = .ok (.ireturn, 1) := by decide +kernel
theorem dX0_isForbidden_45 : decode cX0_isForbidden 45 = .ok (.aload_n 0, 1) := by decide +kernel
theorem dX0_isForbidden_46 : decode cX0_isForbidden 46 = .ok (.getfield 15, 3) := by decide +kernel
theorem dX0_isForbidden_49 : decode cX0_isForbidden 49 = .ok (.iload_n 3, 1) := by decide +kernel
theorem dX0_isForbidden_50 : decode cX0_isForbidden 50 = .ok (.iaload, 1) := by decide +kernel
theorem dX0_isForbidden_51 : decode cX0_isForbidden 51 = .ok (.invokestatic 93, 3) := by decide +kernel
theorem dX0_isForbidden_54 : decode cX0_isForbidden 54 = .ok (.aload_n 0, 1) := by decide +kernel
theorem dX0_isForbidden_55 : decode cX0_isForbidden 55 = .ok (.getfield 30, 3) := by decide +kernel
theorem dX0_isForbidden_58 : decode cX0_isForbidden 58 = .ok (.getfield 96, 3) := by decide +kernel
theorem dX0_isForbidden_61 : decode cX0_isForbidden 61 = .ok (.if_icmp .gt 22, 3) := by decide +kernel
theorem dX0_isForbidden_64 : decode cX0_isForbidden 64 = .ok (.aload_n 0, 1) := by decide +kernel
theorem dX0_isForbidden_65 : decode cX0_isForbidden 65 = .ok (.getfield 18, 3) := by decide +kernel
theorem dX0_isForbidden_68 : decode cX0_isForbidden 68 = .ok (.iload_n 3, 1) := by decide +kernel
theorem dX0_isForbidden_69 : decode cX0_isForbidden 69 = .ok (.iaload, 1) := by decide +kernel
theorem dX0_isForbidden_70 : decode cX0_isForbidden 70 = .ok (.invokestatic 93, 3) := by decide +kernel
theorem dX0_isForbidden_73 : decode cX0_isForbidden 73 = .ok (.aload_n 0, 1) := by decide +kernel
theorem dX0_isForbidden_74 : decode cX0_isForbidden 74 = .ok (.getfield 30, 3) := by decide +kernel
theorem dX0_isForbidden_77 : decode cX0_isForbidden 77 = .ok (.getfield 100, 3) := by decide +kernel
theorem dX0_isForbidden_80 : decode cX0_isForbidden 80 = .ok (.if_icmp .le 5, 3) := by decide +kernel
theorem dX0_isForbidden_83 : decode cX0_isForbidden 83 = .ok (.iconst 1, 1) := by decide +kernel
theorem dX0_isForbidden_84 : decode cX0_isForbidden 84 = .ok (.ireturn, 1) := by decide +kernel
theorem dX0_isForbidden_85 : decode cX0_isForbidden 85 = .ok (.aload_n 0, 1) := by decide +kernel
theorem dX0_isForbidden_86 : decode cX0_isForbidden 86 = .ok (.getfield 34, 3) := by decide +kernel
theorem dX0_isForbidden_89 : decode cX0_isForbidden 89 = .ok (.iload 4, 2) := by decide +kernel
theorem dX0_isForbidden_91 : decode cX0_isForbidden 91 = .ok (.iload_n 1, 1) := by decide +kernel
theorem dX0_isForbidden_92 : decode cX0_isForbidden 92 = .ok (.invokevirtual 103, 3) := by decide +kernel
theorem dX0_isForbidden_95 : decode cX0_isForbidden 95 = .ok (.aload_n 0, 1) := by decide +kernel
theorem dX0_isForbidden_96 : decode cX0_isForbidden 96 = .ok (.getfield 38, 3) := by decide +kernel
theorem dX0_isForbidden_99 : decode cX0_isForbidden 99 = .ok (.iload 5, 2) := by decide +kernel
theorem dX0_isForbidden_101 : decode cX0_isForbidden 101 = .ok (.iload_n 1, 1) := by decide +kernel
theorem dX0_isForbidden_102 : decode cX0_isForbidden 102 = .ok (.invokevirtual 103, 3) := by decide +kernel
theorem dX0_isForbidden_105 : decode cX0_isForbidden 105 = .ok (.iadd, 1) := by decide +kernel
theorem dX0_isForbidden_106 : decode cX0_isForbidden 106 = .ok (.aload_n 0, 1) := by decide +kernel
theorem dX0_isForbidden_107 : decode cX0_isForbidden 107 = .ok (.getfield 30, 3) := by decide +kernel
theorem dX0_isForbidden_110 : decode cX0_isForbidden 110 = .ok (.getfield 106, 3) := by decide +kernel
theorem dX0_isForbidden_113 : decode cX0_isForbidden 113 = .ok (.iload_n 1, 1) := by decide +kernel
theorem dX0_isForbidden_114 : decode cX0_isForbidden 114 = .ok (.iaload, 1) := by decide +kernel
theorem dX0_isForbidden_115 : decode cX0_isForbidden 115 = .ok (.if_icmp .ge 7, 3) := by decide +kernel
theorem dX0_isForbidden_118 : decode cX0_isForbidden 118 = .ok (.iconst 1, 1) := by decide +kernel
theorem dX0_isForbidden_119 : decode cX0_isForbidden 119 = .ok (.goto 4, 3) := by decide +kernel
theorem dX0_isForbidden_122 : decode cX0_isForbidden 122 = .ok (.iconst 0, 1) := by decide +kernel
theorem dX0_isForbidden_123 : decode cX0_isForbidden 123 = .ok (.ireturn, 1) := by decide +kernel
theorem dX0_unitsNeeded_0 : decode cX0_unitsNeeded 0 = .ok (.aload_n 0, 1) := by decide +kernel
theorem dX0_unitsNeeded_1 : decode cX0_unitsNeeded 1 = .ok (.getfield 30, 3) := by decide +kernel
theorem dX0_unitsNeeded_4 : decode cX0_unitsNeeded 4 = .ok (.getfield 106, 3) := by decide +kernel
theorem dX0_unitsNeeded_7 : decode cX0_unitsNeeded 7 = .ok (.iload_n 1, 1) := by decide +kernel
theorem dX0_unitsNeeded_8 : decode cX0_unitsNeeded 8 = .ok (.iaload, 1) := by decide +kernel
theorem dX0_unitsNeeded_9 : decode cX0_unitsNeeded 9 = .ok (.ifCond .ne 5, 3) := by decide +kernel
theorem dX0_unitsNeeded_12 : decode cX0_unitsNeeded 12 = .ok (.iconst 0, 1) := by decide +kernel
theorem dX0_unitsNeeded_13 : decode cX0_unitsNeeded 13 = .ok (.ireturn, 1) := by decide +kernel
theorem dX0_unitsNeeded_14 : decode cX0_unitsNeeded 14 = .ok (.aload_n 0, 1) := by decide +kernel
theorem dX0_unitsNeeded_15 : decode cX0_unitsNeeded 15 = .ok (.getfield 34, 3) := by decide +kernel
theorem dX0_unitsNeeded_18 : decode cX0_unitsNeeded 18 = .ok (.iload_n 2, 1) := by decide +kernel
theorem dX0_unitsNeeded_19 : decode cX0_unitsNeeded 19 = .ok (.iconst 3, 1) := by decide +kernel
theorem dX0_unitsNeeded_20 : decode cX0_unitsNeeded 20 = .ok (.idiv, 1) := by decide +kernel
theorem dX0_unitsNeeded_21 : decode cX0_unitsNeeded 21 = .ok (.iload_n 1, 1) := by decide +kernel
theorem dX0_unitsNeeded_22 : decode cX0_unitsNeeded 22 = .ok (.invokevirtual 109, 3) := by decide +kernel
theorem dX0_unitsNeeded_25 : decode cX0_unitsNeeded 25 = .ok (.aload_n 0, 1) := by decide +kernel
theorem dX0_unitsNeeded_26 : decode cX0_unitsNeeded 26 = .ok (.getfield 38, 3) := by decide +kernel
theorem dX0_unitsNeeded_29 : decode cX0_unitsNeeded 29 = .ok (.iload_n 2, 1) := by decide +kernel
theorem dX0_unitsNeeded_30 : decode cX0_unitsNeeded 30 = .ok (.iconst 3, 1) := by decide +kernel
theorem dX0_unitsNeeded_31 : decode cX0_unitsNeeded 31 = .ok (.irem, 1) := by decide +kernel
theorem dX0_unitsNeeded_32 : decode cX0_unitsNeeded 32 = .ok (.iload_n 1, 1) := by decide +kernel
theorem dX0_unitsNeeded_33 : decode cX0_unitsNeeded 33 = .ok (.invokevirtual 109, 3) := by decide +kernel
theorem dX0_unitsNeeded_36 : decode cX0_unitsNeeded 36 = .ok (.iadd, 1) := by decide +kernel
theorem dX0_unitsNeeded_37 : decode cX0_unitsNeeded 37 = .ok (.ireturn, 1) := by decide +kernel
theorem dX0_startCost_0 : decode cX0_startCost 0 = .ok (.iload_n 1, 1) := by decide +kernel
theorem dX0_startCost_1 : decode cX0_startCost 1 = .ok (.iconst 3, 1) := by decide +kernel
theorem dX0_startCost_2 : decode cX0_startCost 2 = .ok (.idiv, 1) := by decide +kernel
theorem dX0_startCost_3 : decode cX0_startCost 3 = .ok (.istore_n 3, 1) := by decide +kernel
theorem dX0_startCost_4 : decode cX0_startCost 4 = .ok (.iload_n 1, 1) := by decide +kernel
theorem dX0_startCost_5 : decode cX0_startCost 5 = .ok (.iconst 3, 1) := by decide +kernel
theorem dX0_startCost_6 : decode cX0_startCost 6 = .ok (.irem, 1) := by decide +kernel
theorem dX0_startCost_7 : decode cX0_startCost 7 = .ok (.istore 4, 2) := by decide +kernel
theorem dX0_startCost_9 : decode cX0_startCost 9 = .ok (.iload_n 2, 1) := by decide +kernel
theorem dX0_startCost_10 : decode cX0_startCost 10 = .ok (.iconst 3, 1) := by decide +kernel
theorem dX0_startCost_11 : decode cX0_startCost 11 = .ok (.idiv, 1) := by decide +kernel
theorem dX0_startCost_12 : decode cX0_startCost 12 = .ok (.istore 5, 2) := by decide +kernel
theorem dX0_startCost_14 : decode cX0_startCost 14 = .ok (.iload_n 2, 1) := by decide +kernel
theorem dX0_startCost_15 : decode cX0_startCost 15 = .ok (.iconst 3, 1) := by decide +kernel
theorem dX0_startCost_16 : decode cX0_startCost 16 = .ok (.irem, 1) := by decide +kernel
theorem dX0_startCost_17 : decode cX0_startCost 17 = .ok (.istore 6, 2) := by decide +kernel
theorem dX0_startCost_19 : decode cX0_startCost 19 = .ok (.iload_n 3, 1) := by decide +kernel
theorem dX0_startCost_20 : decode cX0_startCost 20 = .ok (.iload 5, 2) := by decide +kernel
theorem dX0_startCost_22 : decode cX0_startCost 22 = .ok (.invokestatic 112, 3) := by decide +kernel
theorem dX0_startCost_25 : decode cX0_startCost 25 = .ok (.ifCond .eq 13, 3) := by decide +kernel
theorem dX0_startCost_28 : decode cX0_startCost 28 = .ok (.iload 4, 2) := by decide +kernel
theorem dX0_startCost_30 : decode cX0_startCost 30 = .ok (.iload 6, 2) := by decide +kernel
theorem dX0_startCost_32 : decode cX0_startCost 32 = .ok (.invokestatic 112, 3) := by decide +kernel
theorem dX0_startCost_35 : decode cX0_startCost 35 = .ok (.ifCond .ne 5, 3) := by decide +kernel
theorem dX0_startCost_38 : decode cX0_startCost 38 = .ok (.iconst (-1), 1) := by decide +kernel
theorem dX0_startCost_39 : decode cX0_startCost 39 = .ok (.ireturn, 1) := by decide +kernel
theorem dX0_startCost_40 : decode cX0_startCost 40 = .ok (.iload_n 3, 1) := by decide +kernel
theorem dX0_startCost_41 : decode cX0_startCost 41 = .ok (.iload 5, 2) := by decide +kernel
theorem dX0_startCost_43 : decode cX0_startCost 43 = .ok (.invokestatic 115, 3) := by decide +kernel
theorem dX0_startCost_46 : decode cX0_startCost 46 = .ok (.ifCond .eq 13, 3) := by decide +kernel
theorem dX0_startCost_49 : decode cX0_startCost 49 = .ok (.aload_n 0, 1) := by decide +kernel
theorem dX0_startCost_50 : decode cX0_startCost 50 = .ok (.getfield 34, 3) := by decide +kernel
theorem dX0_startCost_53 : decode cX0_startCost 53 = .ok (.getfield 118, 3) := by decide +kernel
theorem dX0_startCost_56 : decode cX0_startCost 56 = .ok (.goto 4, 3) := by decide +kernel
theorem dX0_startCost_59 : decode cX0_startCost 59 = .ok (.iconst 0, 1) := by decide +kernel
theorem dX0_startCost_60 : decode cX0_startCost 60 = .ok (.istore 7, 2) := by decide +kernel
theorem dX0_startCost_62 : decode cX0_startCost 62 = .ok (.iload 4, 2) := by decide +kernel
theorem dX0_startCost_64 : decode cX0_startCost 64 = .ok (.iload 6, 2) := by decide +kernel
theorem dX0_startCost_66 : decode cX0_startCost 66 = .ok (.invokestatic 115, 3) := by decide +kernel
theorem dX0_startCost_69 : decode cX0_startCost 69 = .ok (.ifCond .eq 16, 3) := by decide +kernel
theorem dX0_startCost_72 : decode cX0_startCost 72 = .ok (.iload 7, 2) := by decide +kernel
theorem dX0_startCost_74 : decode cX0_startCost 74 = .ok (.aload_n 0, 1) := by decide +kernel
theorem dX0_startCost_75 : decode cX0_startCost 75 = .ok (.getfield 38, 3) := by decide +kernel
theorem dX0_startCost_78 : decode cX0_startCost 78 = .ok (.getfield 118, 3) := by decide +kernel
theorem dX0_startCost_81 : decode cX0_startCost 81 = .ok (.iadd, 1) := by decide +kernel
theorem dX0_startCost_82 : decode cX0_startCost 82 = .ok (.goto 5, 3) := by decide +kernel
theorem dX0_startCost_85 : decode cX0_startCost 85 = .ok (.iload 7, 2) := by decide +kernel
theorem dX0_startCost_87 : decode cX0_startCost 87 = .ok (.ireturn, 1) := by decide +kernel
theorem dX0_countStarts_0 : decode cX0_countStarts 0 = .ok (.iconst 0, 1) := by decide +kernel
theorem dX0_countStarts_1 : decode cX0_countStarts 1 = .ok (.istore_n 1, 1) := by decide +kernel
theorem dX0_countStarts_2 : decode cX0_countStarts 2 = .ok (.iload_n 1, 1) := by decide +kernel
theorem dX0_countStarts_3 : decode cX0_countStarts 3 = .ok (.bipush 9, 2) := by decide +kernel
theorem dX0_countStarts_5 : decode cX0_countStarts 5 = .ok (.if_icmp .ge 40, 3) := by decide +kernel
theorem dX0_countStarts_8 : decode cX0_countStarts 8 = .ok (.iconst 0, 1) := by decide +kernel
theorem dX0_countStarts_9 : decode cX0_countStarts 9 = .ok (.istore_n 2, 1) := by decide +kernel
theorem dX0_countStarts_10 : decode cX0_countStarts 10 = .ok (.iload_n 2, 1) := by decide +kernel
theorem dX0_countStarts_11 : decode cX0_countStarts 11 = .ok (.bipush 9, 2) := by decide +kernel
theorem dX0_countStarts_13 : decode cX0_countStarts 13 = .ok (.if_icmp .ge 26, 3) := by decide +kernel
theorem dX0_countStarts_16 : decode cX0_countStarts 16 = .ok (.aload_n 0, 1) := by decide +kernel
theorem dX0_countStarts_17 : decode cX0_countStarts 17 = .ok (.getfield 27, 3) := by decide +kernel
theorem dX0_countStarts_20 : decode cX0_countStarts 20 = .ok (.iload_n 1, 1) := by decide +kernel
theorem dX0_countStarts_21 : decode cX0_countStarts 21 = .ok (.bipush 9, 2) := by decide +kernel
theorem dX0_countStarts_23 : decode cX0_countStarts 23 = .ok (.imul, 1) := by decide +kernel
theorem dX0_countStarts_24 : decode cX0_countStarts 24 = .ok (.iload_n 2, 1) := by decide +kernel
theorem dX0_countStarts_25 : decode cX0_countStarts 25 = .ok (.iadd, 1) := by decide +kernel
theorem dX0_countStarts_26 : decode cX0_countStarts 26 = .ok (.aload_n 0, 1) := by decide +kernel
theorem dX0_countStarts_27 : decode cX0_countStarts 27 = .ok (.iload_n 2, 1) := by decide +kernel
theorem dX0_countStarts_28 : decode cX0_countStarts 28 = .ok (.iload_n 1, 1) := by decide +kernel
theorem dX0_countStarts_29 : decode cX0_countStarts 29 = .ok (.invokevirtual 121, 3) := by decide +kernel
theorem dX0_countStarts_32 : decode cX0_countStarts 32 = .ok (.iastore, 1) := by decide +kernel
theorem dX0_countStarts_33 : decode cX0_countStarts 33 = .ok (.iinc 2 1, 3) := by decide +kernel
theorem dX0_countStarts_36 : decode cX0_countStarts 36 = .ok (.goto (-26), 3) := by decide +kernel
theorem dX0_countStarts_39 : decode cX0_countStarts 39 = .ok (.iinc 1 1, 3) := by decide +kernel
theorem dX0_countStarts_42 : decode cX0_countStarts 42 = .ok (.goto (-40), 3) := by decide +kernel
theorem dX0_countStarts_45 : decode cX0_countStarts 45 = .ok (.return_, 1) := by decide +kernel
