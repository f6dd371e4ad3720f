theorem dX4_carryOut_26 : decode cX4_carryOut 26 = .ok (.aload_n 0, 1) := by decide +kernel
theorem dX4_carryOut_27 : decode cX4_carryOut 27 = .ok (.getfield 63, 3) := by decide +kernel
theorem dX4_carryOut_30 : decode cX4_carryOut 30 = .ok (.bipush 9, 2) := by decide +kernel
theorem dX4_carryOut_32 : decode cX4_carryOut 32 = .ok (.imul, 1) := by decide +kernel
theorem dX4_carryOut_33 : decode cX4_carryOut 33 = .ok (.iload_n 1, 1) := by decide +kernel
theorem dX4_carryOut_34 : decode cX4_carryOut 34 = .ok (.iadd, 1) := by decide +kernel
theorem dX4_carryOut_35 : decode cX4_carryOut 35 = .ok (.istore_n 3, 1) := by decide +kernel
theorem dX4_carryOut_36 : decode cX4_carryOut 36 = .ok (.aload_n 0, 1) := by decide +kernel
theorem dX4_carryOut_37 : decode cX4_carryOut 37 = .ok (.getfield 37, 3) := by decide +kernel
theorem dX4_carryOut_40 : decode cX4_carryOut 40 = .ok (.iload_n 2, 1) := by decide +kernel
theorem dX4_carryOut_41 : decode cX4_carryOut 41 = .ok (.aaload, 1) := by decide +kernel
theorem dX4_carryOut_42 : decode cX4_carryOut 42 = .ok (.getfield 147, 3) := by decide +kernel
theorem dX4_carryOut_45 : decode cX4_carryOut 45 = .ok (.aload_n 0, 1) := by decide +kernel
theorem dX4_carryOut_46 : decode cX4_carryOut 46 = .ok (.getfield 63, 3) := by decide +kernel
theorem dX4_carryOut_49 : decode cX4_carryOut 49 = .ok (.iaload, 1) := by decide +kernel
theorem dX4_carryOut_50 : decode cX4_carryOut 50 = .ok (.aload_n 0, 1) := by decide +kernel
theorem dX4_carryOut_51 : decode cX4_carryOut 51 = .ok (.getfield 31, 3) := by decide +kernel
theorem dX4_carryOut_54 : decode cX4_carryOut 54 = .ok (.getfield 197, 3) := by decide +kernel
theorem dX4_carryOut_57 : decode cX4_carryOut 57 = .ok (.iload_n 3, 1) := by decide +kernel
theorem dX4_carryOut_58 : decode cX4_carryOut 58 = .ok (.iaload, 1) := by decide +kernel
theorem dX4_carryOut_59 : decode cX4_carryOut 59 = .ok (.imul, 1) := by decide +kernel
theorem dX4_carryOut_60 : decode cX4_carryOut 60 = .ok (.aload_n 0, 1) := by decide +kernel
theorem dX4_carryOut_61 : decode cX4_carryOut 61 = .ok (.getfield 31, 3) := by decide +kernel
theorem dX4_carryOut_64 : decode cX4_carryOut 64 = .ok (.aload_n 0, 1) := by decide +kernel
theorem dX4_carryOut_65 : decode cX4_carryOut 65 = .ok (.invokevirtual 187, 3) := by decide +kernel
theorem dX4_carryOut_68 : decode cX4_carryOut 68 = .ok (.iload_n 1, 1) := by decide +kernel
theorem dX4_carryOut_69 : decode cX4_carryOut 69 = .ok (.invokevirtual 191, 3) := by decide +kernel
theorem dX4_carryOut_72 : decode cX4_carryOut 72 = .ok (.isub, 1) := by decide +kernel
theorem dX4_carryOut_73 : decode cX4_carryOut 73 = .ok (.istore 4, 2) := by decide +kernel
theorem dX4_carryOut_75 : decode cX4_carryOut 75 = .ok (.aload_n 0, 1) := by decide +kernel
theorem dX4_carryOut_76 : decode cX4_carryOut 76 = .ok (.getfield 10, 3) := by decide +kernel
theorem dX4_carryOut_79 : decode cX4_carryOut 79 = .ok (.dup, 1) := by decide +kernel
theorem dX4_carryOut_80 : decode cX4_carryOut 80 = .ok (.getfield 86, 3) := by decide +kernel
theorem dX4_carryOut_83 : decode cX4_carryOut 83 = .ok (.aload_n 0, 1) := by decide +kernel
theorem dX4_carryOut_84 : decode cX4_carryOut 84 = .ok (.getfield 31, 3) := by decide +kernel
theorem dX4_carryOut_87 : decode cX4_carryOut 87 = .ok (.getfield 200, 3) := by decide +kernel
theorem dX4_carryOut_90 : decode cX4_carryOut 90 = .ok (.iload_n 3, 1) := by decide +kernel
theorem dX4_carryOut_91 : decode cX4_carryOut 91 = .ok (.iaload, 1) := by decide +kernel
theorem dX4_carryOut_92 : decode cX4_carryOut 92 = .ok (.iadd, 1) := by decide +kernel
theorem dX4_carryOut_93 : decode cX4_carryOut 93 = .ok (.putfield 86, 3) := by decide +kernel
theorem dX4_carryOut_96 : decode cX4_carryOut 96 = .ok (.aload_n 0, 1) := by decide +kernel
theorem dX4_carryOut_97 : decode cX4_carryOut 97 = .ok (.getfield 10, 3) := by decide +kernel
theorem dX4_carryOut_100 : decode cX4_carryOut 100 = .ok (.dup, 1) := by decide +kernel
theorem dX4_carryOut_101 : decode cX4_carryOut 101 = .ok (.getfield 89, 3) := by decide +kernel
theorem dX4_carryOut_104 : decode cX4_carryOut 104 = .ok (.aload_n 0, 1) := by decide +kernel
theorem dX4_carryOut_105 : decode cX4_carryOut 105 = .ok (.getfield 31, 3) := by decide +kernel
theorem dX4_carryOut_108 : decode cX4_carryOut 108 = .ok (.getfield 203, 3) := by decide +kernel
theorem dX4_carryOut_111 : decode cX4_carryOut 111 = .ok (.iload_n 3, 1) := by decide +kernel
theorem dX4_carryOut_112 : decode cX4_carryOut 112 = .ok (.iaload, 1) := by decide +kernel
theorem dX4_carryOut_113 : decode cX4_carryOut 113 = .ok (.iadd, 1) := by decide +kernel
theorem dX4_carryOut_114 : decode cX4_carryOut 114 = .ok (.putfield 89, 3) := by decide +kernel
theorem dX4_carryOut_117 : decode cX4_carryOut 117 = .ok (.aload_n 0, 1) := by decide +kernel
theorem dX4_carryOut_118 : decode cX4_carryOut 118 = .ok (.getfield 19, 3) := by decide +kernel
theorem dX4_carryOut_121 : decode cX4_carryOut 121 = .ok (.iload_n 1, 1) := by decide +kernel
theorem dX4_carryOut_122 : decode cX4_carryOut 122 = .ok (.iconst 3, 1) := by decide +kernel
theorem dX4_carryOut_123 : decode cX4_carryOut 123 = .ok (.idiv, 1) := by decide +kernel
theorem dX4_carryOut_124 : decode cX4_carryOut 124 = .ok (.invokevirtual 206, 3) := by decide +kernel
theorem dX4_carryOut_127 : decode cX4_carryOut 127 = .ok (.aload_n 0, 1) := by decide +kernel
theorem dX4_carryOut_128 : decode cX4_carryOut 128 = .ok (.getfield 23, 3) := by decide +kernel
theorem dX4_carryOut_131 : decode cX4_carryOut 131 = .ok (.iload_n 1, 1) := by decide +kernel
theorem dX4_carryOut_132 : decode cX4_carryOut 132 = .ok (.iconst 3, 1) := by decide +kernel
theorem dX4_carryOut_133 : decode cX4_carryOut 133 = .ok (.irem, 1) := by decide +kernel
theorem dX4_carryOut_134 : decode cX4_carryOut 134 = .ok (.invokevirtual 206, 3) := by decide +kernel
theorem dX4_carryOut_137 : decode cX4_carryOut 137 = .ok (.aload_n 0, 1) := by decide +kernel
theorem dX4_carryOut_138 : decode cX4_carryOut 138 = .ok (.dup, 1) := by decide +kernel
theorem dX4_carryOut_139 : decode cX4_carryOut 139 = .ok (.getfield 66, 3) := by decide +kernel
theorem dX4_carryOut_142 : decode cX4_carryOut 142 = .ok (.iload 4, 2) := by decide +kernel
theorem dX4_carryOut_144 : decode cX4_carryOut 144 = .ok (.iadd, 1) := by decide +kernel
theorem dX4_carryOut_145 : decode cX4_carryOut 145 = .ok (.putfield 66, 3) := by decide +kernel
theorem dX4_carryOut_148 : decode cX4_carryOut 148 = .ok (.aload_n 0, 1) := by decide +kernel
theorem dX4_carryOut_149 : decode cX4_carryOut 149 = .ok (.dup, 1) := by decide +kernel
theorem dX4_carryOut_150 : decode cX4_carryOut 150 = .ok (.getfield 63, 3) := by decide +kernel
theorem dX4_carryOut_153 : decode cX4_carryOut 153 = .ok (.iconst 1, 1) := by decide +kernel
theorem dX4_carryOut_154 : decode cX4_carryOut 154 = .ok (.iadd, 1) := by decide +kernel
theorem dX4_carryOut_155 : decode cX4_carryOut 155 = .ok (.putfield 63, 3) := by decide +kernel
theorem dX4_carryOut_158 : decode cX4_carryOut 158 = .ok (.aload_n 0, 1) := by decide +kernel
theorem dX4_carryOut_159 : decode cX4_carryOut 159 = .ok (.invokevirtual 92, 3) := by decide +kernel
theorem dX4_carryOut_162 : decode cX4_carryOut 162 = .ok (.pop, 1) := by decide +kernel
theorem dX4_carryOut_163 : decode cX4_carryOut 163 = .ok (.iload 4, 2) := by decide +kernel
theorem dX4_carryOut_165 : decode cX4_carryOut 165 = .ok (.ireturn, 1) := by decide +kernel
theorem dX4_worthWith_0 : decode cX4_worthWith 0 = .ok (.aload_n 0, 1) := by decide +kernel
theorem dX4_worthWith_1 : decode cX4_worthWith 1 = .ok (.getfield 50, 3) := by decide +kernel
theorem dX4_worthWith_4 : decode cX4_worthWith 4 = .ok (.iload_n 1, 1) := by decide +kernel
theorem dX4_worthWith_5 : decode cX4_worthWith 5 = .ok (.iaload, 1) := by decide +kernel
theorem dX4_worthWith_6 : decode cX4_worthWith 6 = .ok (.ldc 69, 2) := by decide +kernel
theorem dX4_worthWith_8 : decode cX4_worthWith 8 = .ok (.if_icmp .ne 31, 3) := by decide +kernel
theorem dX4_worthWith_11 : decode cX4_worthWith 11 = .ok (.aload_n 0, 1) := by decide +kernel
theorem dX4_worthWith_12 : decode cX4_worthWith 12 = .ok (.iload_n 1, 1) := by decide +kernel
theorem dX4_worthWith_13 : decode cX4_worthWith 13 = .ok (.invokevirtual 210, 3) := by decide +kernel
theorem dX4_worthWith_16 : decode cX4_worthWith 16 = .ok (.aload_n 0, 1) := by decide +kernel
theorem dX4_worthWith_17 : decode cX4_worthWith 17 = .ok (.getfield 50, 3) := by decide +kernel
theorem dX4_worthWith_20 : decode cX4_worthWith 20 = .ok (.iload_n 1, 1) := by decide +kernel
theorem dX4_worthWith_21 : decode cX4_worthWith 21 = .ok (.aload_n 0, 1) := by decide +kernel
theorem dX4_worthWith_22 : decode cX4_worthWith 22 = .ok (.getfield 42, 3) := by decide +kernel
theorem dX4_worthWith_25 : decode cX4_worthWith 25 = .ok (.getfield 213, 3) := by decide +kernel
theorem dX4_worthWith_28 : decode cX4_worthWith 28 = .ok (.iload_n 1, 1) := by decide +kernel
theorem dX4_worthWith_29 : decode cX4_worthWith 29 = .ok (.bipush 9, 2) := by decide +kernel
theorem dX4_worthWith_31 : decode cX4_worthWith 31 = .ok (.imul, 1) := by decide +kernel
theorem dX4_worthWith_32 : decode cX4_worthWith 32 = .ok (.aload_n 0, 1) := by decide +kernel
theorem dX4_worthWith_33 : decode cX4_worthWith 33 = .ok (.invokevirtual 187, 3) := by decide +kernel
theorem dX4_worthWith_36 : decode cX4_worthWith 36 = .ok (.iadd, 1) := by decide +kernel
theorem dX4_worthWith_37 : decode cX4_worthWith 37 = .ok (.iaload, 1) := by decide +kernel
theorem dX4_worthWith_38 : decode cX4_worthWith 38 = .ok (.iastore, 1) := by decide +kernel
theorem dX4_worthWith_39 : decode cX4_worthWith 39 = .ok (.aload_n 0, 1) := by decide +kernel
theorem dX4_worthWith_40 : decode cX4_worthWith 40 = .ok (.getfield 50, 3) := by decide +kernel
theorem dX4_worthWith_43 : decode cX4_worthWith 43 = .ok (.iload_n 1, 1) := by decide +kernel
theorem dX4_worthWith_44 : decode cX4_worthWith 44 = .ok (.iaload, 1) := by decide +kernel
theorem dX4_worthWith_45 : decode cX4_worthWith 45 = .ok (.ireturn, 1) := by decide +kernel
theorem dX4_bestDoing_0 : decode cX4_bestDoing 0 = .ok (.aload_n 0, 1) := by decide +kernel
theorem dX4_bestDoing_1 : decode cX4_bestDoing 1 = .ok (.getfield 63, 3) := by decide +kernel
theorem dX4_bestDoing_4 : decode cX4_bestDoing 4 = .ok (.aload_n 0, 1) := by decide +kernel
theorem dX4_bestDoing_5 : decode cX4_bestDoing 5 = .ok (.getfield 56, 3) := by decide +kernel
theorem dX4_bestDoing_8 : decode cX4_bestDoing 8 = .ok (.if_icmp .ge 7, 3) := by decide +kernel
theorem dX4_bestDoing_11 : decode cX4_bestDoing 11 = .ok (.iconst 1, 1) := by decide +kernel
theorem dX4_bestDoing_12 : decode cX4_bestDoing 12 = .ok (.goto 4, 3) := by decide +kernel
theorem dX4_bestDoing_15 : decode cX4_bestDoing 15 = .ok (.iconst 0, 1) := by decide +kernel
theorem dX4_bestDoing_16 : decode cX4_bestDoing 16 = .ok (.istore_n 2, 1) := by decide +kernel
theorem dX4_bestDoing_17 : decode cX4_bestDoing 17 = .ok (.iload_n 2, 1) := by decide +kernel
theorem dX4_bestDoing_18 : decode cX4_bestDoing 18 = .ok (.ifCond .eq 7, 3) := by decide +kernel
theorem dX4_bestDoing_21 : decode cX4_bestDoing 21 = .ok (.iconst 0, 1) := by decide +kernel
theorem dX4_bestDoing_22 : decode cX4_bestDoing 22 = .ok (.goto 4, 3) := by decide +kernel
theorem dX4_bestDoing_25 : decode cX4_bestDoing 25 = .ok (.iload_n 1, 1) := by decide +kernel
theorem dX4_bestDoing_26 : decode cX4_bestDoing 26 = .ok (.istore_n 3, 1) := by decide +kernel
theorem dX4_bestDoing_27 : decode cX4_bestDoing 27 = .ok (.aload_n 0, 1) := by decide +kernel
theorem dX4_bestDoing_28 : decode cX4_bestDoing 28 = .ok (.getfield 53, 3) := by decide +kernel
theorem dX4_bestDoing_31 : decode cX4_bestDoing 31 = .ok (.iload_n 3, 1) := by decide +kernel
theorem dX4_bestDoing_32 : decode cX4_bestDoing 32 = .ok (.iaload, 1) := by decide +kernel
theorem dX4_bestDoing_33 : decode cX4_bestDoing 33 = .ok (.ldc 69, 2) := by decide +kernel
theorem dX4_bestDoing_35 : decode cX4_bestDoing 35 = .ok (.if_icmp .ne 98, 3) := by decide +kernel
theorem dX4_bestDoing_38 : decode cX4_bestDoing 38 = .ok (.iload_n 2, 1) := by decide +kernel
theorem dX4_bestDoing_39 : decode cX4_bestDoing 39 = .ok (.ifCond .eq 17, 3) := by decide +kernel
theorem dX4_bestDoing_42 : decode cX4_bestDoing 42 = .ok (.aload_n 0, 1) := by decide +kernel
theorem dX4_bestDoing_43 : decode cX4_bestDoing 43 = .ok (.aload_n 0, 1) := by decide +kernel
theorem dX4_bestDoing_44 : decode cX4_bestDoing 44 = .ok (.getfield 10, 3) := by decide +kernel
theorem dX4_bestDoing_47 : decode cX4_bestDoing 47 = .ok (.getfield 86, 3) := by decide +kernel
theorem dX4_bestDoing_50 : decode cX4_bestDoing 50 = .ok (.invokevirtual 210, 3) := by decide +kernel
theorem dX4_bestDoing_53 : decode cX4_bestDoing 53 = .ok (.goto 34, 3) := by decide +kernel
theorem dX4_bestDoing_56 : decode cX4_bestDoing 56 = .ok (.aload_n 0, 1) := by decide +kernel
theorem dX4_bestDoing_57 : decode cX4_bestDoing 57 = .ok (.getfield 31, 3) := by decide +kernel
theorem dX4_bestDoing_60 : decode cX4_bestDoing 60 = .ok (.aload_n 0, 1) := by decide +kernel
theorem dX4_bestDoing_61 : decode cX4_bestDoing 61 = .ok (.getfield 63, 3) := by decide +kernel
theorem dX4_bestDoing_64 : decode cX4_bestDoing 64 = .ok (.aload_n 0, 1) := by decide +kernel
theorem dX4_bestDoing_65 : decode cX4_bestDoing 65 = .ok (.getfield 10, 3) := by decide +kernel
theorem dX4_bestDoing_68 : decode cX4_bestDoing 68 = .ok (.getfield 86, 3) := by decide +kernel
theorem dX4_bestDoing_71 : decode cX4_bestDoing 71 = .ok (.aload_n 0, 1) := by decide +kernel
theorem dX4_bestDoing_72 : decode cX4_bestDoing 72 = .ok (.getfield 10, 3) := by decide +kernel
theorem dX4_bestDoing_75 : decode cX4_bestDoing 75 = .ok (.getfield 89, 3) := by decide +kernel
theorem dX4_bestDoing_78 : decode cX4_bestDoing 78 = .ok (.iadd, 1) := by decide +kernel
theorem dX4_bestDoing_79 : decode cX4_bestDoing 79 = .ok (.invokevirtual 216, 3) := by decide +kernel
theorem dX4_bestDoing_82 : decode cX4_bestDoing 82 = .ok (.aload_n 0, 1) := by decide +kernel
theorem dX4_bestDoing_83 : decode cX4_bestDoing 83 = .ok (.iload_n 1, 1) := by decide +kernel
theorem dX4_bestDoing_84 : decode cX4_bestDoing 84 = .ok (.invokevirtual 219, 3) := by decide +kernel
theorem dX4_bestDoing_87 : decode cX4_bestDoing 87 = .ok (.iload_n 2, 1) := by decide +kernel
theorem dX4_bestDoing_88 : decode cX4_bestDoing 88 = .ok (.ifCond .eq 10, 3) := by decide +kernel
theorem dX4_bestDoing_91 : decode cX4_bestDoing 91 = .ok (.aload_n 0, 1) := by decide +kernel
theorem dX4_bestDoing_92 : decode cX4_bestDoing 92 = .ok (.getfield 42, 3) := by decide +kernel
theorem dX4_bestDoing_95 : decode cX4_bestDoing 95 = .ok (.goto 9, 3) := by decide +kernel
theorem dX4_bestDoing_98 : decode cX4_bestDoing 98 = .ok (.aload_n 0, 1) := by decide +kernel
theorem dX4_bestDoing_99 : decode cX4_bestDoing 99 = .ok (.getfield 37, 3) := by decide +kernel
theorem dX4_bestDoing_102 : decode cX4_bestDoing 102 = .ok (.iload_n 1, 1) := by decide +kernel
theorem dX4_bestDoing_103 : decode cX4_bestDoing 103 = .ok (.aaload, 1) := by decide +kernel
theorem dX4_bestDoing_104 : decode cX4_bestDoing 104 = .ok (.astore 4, 2) := by decide +kernel
theorem dX4_bestDoing_106 : decode cX4_bestDoing 106 = .ok (.aload_n 0, 1) := by decide +kernel
theorem dX4_bestDoing_107 : decode cX4_bestDoing 107 = .ok (.getfield 53, 3) := by decide +kernel
theorem dX4_bestDoing_110 : decode cX4_bestDoing 110 = .ok (.iload_n 3, 1) := by decide +kernel
theorem dX4_bestDoing_111 : decode cX4_bestDoing 111 = .ok (.aload 4, 2) := by decide +kernel
theorem dX4_bestDoing_113 : decode cX4_bestDoing 113 = .ok (.getfield 222, 3) := by decide +kernel
theorem dX4_bestDoing_116 : decode cX4_bestDoing 116 = .ok (.aload_n 0, 1) := by decide +kernel
theorem dX4_bestDoing_117 : decode cX4_bestDoing 117 = .ok (.getfield 10, 3) := by decide +kernel
theorem dX4_bestDoing_120 : decode cX4_bestDoing 120 = .ok (.getfield 86, 3) := by decide +kernel
theorem dX4_bestDoing_123 : decode cX4_bestDoing 123 = .ok (.bipush 9, 2) := by decide +kernel
theorem dX4_bestDoing_125 : decode cX4_bestDoing 125 = .ok (.imul, 1) := by decide +kernel
theorem dX4_bestDoing_126 : decode cX4_bestDoing 126 = .ok (.aload_n 0, 1) := by decide +kernel
theorem dX4_bestDoing_127 : decode cX4_bestDoing 127 = .ok (.invokevirtual 187, 3) := by decide +kernel
theorem dX4_bestDoing_130 : decode cX4_bestDoing 130 = .ok (.iadd, 1) := by decide +kernel
theorem dX4_bestDoing_131 : decode cX4_bestDoing 131 = .ok (.iaload, 1) := by decide +kernel
theorem dX4_bestDoing_132 : decode cX4_bestDoing 132 = .ok (.iastore, 1) := by decide +kernel
theorem dX4_bestDoing_133 : decode cX4_bestDoing 133 = .ok (.aload_n 0, 1) := by decide +kernel
theorem dX4_bestDoing_134 : decode cX4_bestDoing 134 = .ok (.getfield 53, 3) := by decide +kernel
theorem dX4_bestDoing_137 : decode cX4_bestDoing 137 = .ok (.iload_n 3, 1) := by decide +kernel
theorem dX4_bestDoing_138 : decode cX4_bestDoing 138 = .ok (.iaload, 1) := by decide +kernel
theorem dX4_bestDoing_139 : decode cX4_bestDoing 139 = .ok (.ireturn, 1) := by decide +kernel
theorem dX4_planAll_0 : decode cX4_planAll 0 = .ok (.aload_n 0, 1) := by decide +kernel
theorem dX4_planAll_1 : decode cX4_planAll 1 = .ok (.getfield 31, 3) := by decide +kernel
theorem dX4_planAll_4 : decode cX4_planAll 4 = .ok (.aload_n 0, 1) := by decide +kernel
theorem dX4_planAll_5 : decode cX4_planAll 5 = .ok (.getfield 63, 3) := by decide +kernel
theorem dX4_planAll_8 : decode cX4_planAll 8 = .ok (.iload_n 1, 1) := by decide +kernel
theorem dX4_planAll_9 : decode cX4_planAll 9 = .ok (.aload_n 0, 1) := by decide +kernel
theorem dX4_planAll_10 : decode cX4_planAll 10 = .ok (.getfield 10, 3) := by decide +kernel
theorem dX4_planAll_13 : decode cX4_planAll 13 = .ok (.getfield 89, 3) := by decide +kernel
theorem dX4_planAll_16 : decode cX4_planAll 16 = .ok (.iadd, 1) := by decide +kernel
theorem dX4_planAll_17 : decode cX4_planAll 17 = .ok (.invokevirtual 216, 3) := by decide +kernel
theorem dX4_planAll_20 : decode cX4_planAll 20 = .ok (.iconst 0, 1) := by decide +kernel
theorem dX4_planAll_21 : decode cX4_planAll 21 = .ok (.istore_n 2, 1) := by decide +kernel
theorem dX4_planAll_22 : decode cX4_planAll 22 = .ok (.iload_n 2, 1) := by decide +kernel
theorem dX4_planAll_23 : decode cX4_planAll 23 = .ok (.iconst 3, 1) := by decide +kernel
theorem dX4_planAll_24 : decode cX4_planAll 24 = .ok (.if_icmp .ge 23, 3) := by decide +kernel
theorem dX4_planAll_27 : decode cX4_planAll 27 = .ok (.aload_n 0, 1) := by decide +kernel
theorem dX4_planAll_28 : decode cX4_planAll 28 = .ok (.getfield 46, 3) := by decide +kernel
theorem dX4_planAll_31 : decode cX4_planAll 31 = .ok (.iload_n 2, 1) := by decide +kernel
theorem dX4_planAll_32 : decode cX4_planAll 32 = .ok (.iaload, 1) := by decide +kernel
theorem dX4_planAll_33 : decode cX4_planAll 33 = .ok (.ifCond .le 8, 3) := by decide +kernel
theorem dX4_planAll_36 : decode cX4_planAll 36 = .ok (.aload_n 0, 1) := by decide +kernel
theorem dX4_planAll_37 : decode cX4_planAll 37 = .ok (.iload_n 2, 1) := by decide +kernel
theorem dX4_planAll_38 : decode cX4_planAll 38 = .ok (.invokevirtual 219, 3) := by decide +kernel
theorem dX4_planAll_41 : decode cX4_planAll 41 = .ok (.iinc 2 1, 3) := by decide +kernel
theorem dX4_planAll_44 : decode cX4_planAll 44 = .ok (.goto (-22), 3) := by decide +kernel
theorem dX4_planAll_47 : decode cX4_planAll 47 = .ok (.aload_n 0, 1) := by decide +kernel
theorem dX4_planAll_48 : decode cX4_planAll 48 = .ok (.invokevirtual 225, 3) := by decide +kernel
theorem dX4_planAll_51 : decode cX4_planAll 51 = .ok (.aload_n 0, 1) := by decide +kernel
theorem dX4_planAll_52 : decode cX4_planAll 52 = .ok (.getfield 42, 3) := by decide +kernel
theorem dX4_planAll_55 : decode cX4_planAll 55 = .ok (.aload_n 0, 1) := by decide +kernel
theorem dX4_planAll_56 : decode cX4_planAll 56 = .ok (.getfield 31, 3) := by decide +kernel
theorem dX4_planAll_59 : decode cX4_planAll 59 = .ok (.aload_n 0, 1) := by decide +kernel
theorem dX4_planAll_60 : decode cX4_planAll 60 = .ok (.getfield 63, 3) := by decide +kernel
theorem dX4_planAll_63 : decode cX4_planAll 63 = .ok (.aload_n 0, 1) := by decide +kernel
theorem dX4_planAll_64 : decode cX4_planAll 64 = .ok (.getfield 56, 3) := by decide +kernel
theorem dX4_planAll_67 : decode cX4_planAll 67 = .ok (.invokevirtual 228, 3) := by decide +kernel
theorem dX4_planAll_70 : decode cX4_planAll 70 = .ok (.return_, 1) := by decide +kernel
theorem dX4_planWorld_0 : decode cX4_planWorld 0 = .ok (.aload_n 0, 1) := by decide +kernel
theorem dX4_planWorld_1 : decode cX4_planWorld 1 = .ok (.getfield 37, 3) := by decide +kernel
theorem dX4_planWorld_4 : decode cX4_planWorld 4 = .ok (.iload_n 1, 1) := by decide +kernel
theorem dX4_planWorld_5 : decode cX4_planWorld 5 = .ok (.aaload, 1) := by decide +kernel
theorem dX4_planWorld_6 : decode cX4_planWorld 6 = .ok (.aload_n 0, 1) := by decide +kernel
theorem dX4_planWorld_7 : decode cX4_planWorld 7 = .ok (.getfield 60, 3) := by decide +kernel
theorem dX4_planWorld_10 : decode cX4_planWorld 10 = .ok (.invokevirtual 232, 3) := by decide +kernel
theorem dX4_planWorld_13 : decode cX4_planWorld 13 = .ok (.aload_n 0, 1) := by decide +kernel
theorem dX4_planWorld_14 : decode cX4_planWorld 14 = .ok (.getfield 37, 3) := by decide +kernel
theorem dX4_planWorld_17 : decode cX4_planWorld 17 = .ok (.iload_n 1, 1) := by decide +kernel
theorem dX4_planWorld_18 : decode cX4_planWorld 18 = .ok (.aaload, 1) := by decide +kernel
theorem dX4_planWorld_19 : decode cX4_planWorld 19 = .ok (.aload_n 0, 1) := by decide +kernel
theorem dX4_planWorld_20 : decode cX4_planWorld 20 = .ok (.getfield 31, 3) := by decide +kernel
theorem dX4_planWorld_23 : decode cX4_planWorld 23 = .ok (.aload_n 0, 1) := by decide +kernel
theorem dX4_planWorld_24 : decode cX4_planWorld 24 = .ok (.getfield 63, 3) := by decide +kernel
theorem dX4_planWorld_27 : decode cX4_planWorld 27 = .ok (.aload_n 0, 1) := by decide +kernel
theorem dX4_planWorld_28 : decode cX4_planWorld 28 = .ok (.getfield 56, 3) := by decide +kernel
theorem dX4_planWorld_31 : decode cX4_planWorld 31 = .ok (.invokestatic 235, 3) := by decide +kernel
theorem dX4_planWorld_34 : decode cX4_planWorld 34 = .ok (.bipush 24, 2) := by decide +kernel
theorem dX4_planWorld_36 : decode cX4_planWorld 36 = .ok (.invokevirtual 228, 3) := by decide +kernel
theorem dX4_planWorld_39 : decode cX4_planWorld 39 = .ok (.return_, 1) := by decide +kernel
theorem dX4_mixWorlds_0 : decode cX4_mixWorlds 0 = .ok (.aload_n 0, 1) := by decide +kernel
theorem dX4_mixWorlds_1 : decode cX4_mixWorlds 1 = .ok (.getfield 42, 3) := by decide +kernel
theorem dX4_mixWorlds_4 : decode cX4_mixWorlds 4 = .ok (.iconst 0, 1) := by decide +kernel
theorem dX4_mixWorlds_5 : decode cX4_mixWorlds 5 = .ok (.putfield 240, 3) := by decide +kernel
theorem dX4_mixWorlds_8 : decode cX4_mixWorlds 8 = .ok (.aload_n 0, 1) := by decide +kernel
theorem dX4_mixWorlds_9 : decode cX4_mixWorlds 9 = .ok (.getfield 42, 3) := by decide +kernel
theorem dX4_mixWorlds_12 : decode cX4_mixWorlds 12 = .ok (.getfield 147, 3) := by decide +kernel
theorem dX4_mixWorlds_15 : decode cX4_mixWorlds 15 = .ok (.iconst 0, 1) := by decide +kernel
theorem dX4_mixWorlds_16 : decode cX4_mixWorlds 16 = .ok (.invokestatic 70, 3) := by decide +kernel
theorem dX4_mixWorlds_19 : decode cX4_mixWorlds 19 = .ok (.aload_n 0, 1) := by decide +kernel
theorem dX4_mixWorlds_20 : decode cX4_mixWorlds 20 = .ok (.getfield 42, 3) := by decide +kernel
theorem dX4_mixWorlds_23 : decode cX4_mixWorlds 23 = .ok (.getfield 213, 3) := by decide +kernel
theorem dX4_mixWorlds_26 : decode cX4_mixWorlds 26 = .ok (.iconst 0, 1) := by decide +kernel
theorem dX4_mixWorlds_27 : decode cX4_mixWorlds 27 = .ok (.invokestatic 70, 3) := by decide +kernel
theorem dX4_mixWorlds_30 : decode cX4_mixWorlds 30 = .ok (.iconst 0, 1) := by decide +kernel
theorem dX4_mixWorlds_31 : decode cX4_mixWorlds 31 = .ok (.istore_n 1, 1) := by decide +kernel
theorem dX4_mixWorlds_32 : decode cX4_mixWorlds 32 = .ok (.iload_n 1, 1) := by decide +kernel
theorem dX4_mixWorlds_33 : decode cX4_mixWorlds 33 = .ok (.iconst 3, 1) := by decide +kernel
theorem dX4_mixWorlds_34 : decode cX4_mixWorlds 34 = .ok (.if_icmp .ge 37, 3) := by decide +kernel
theorem dX4_mixWorlds_37 : decode cX4_mixWorlds 37 = .ok (.aload_n 0, 1) := by decide +kernel
theorem dX4_mixWorlds_38 : decode cX4_mixWorlds 38 = .ok (.getfield 46, 3) := by decide +kernel
theorem dX4_mixWorlds_41 : decode cX4_mixWorlds 41 = .ok (.iload_n 1, 1) := by decide +kernel
theorem dX4_mixWorlds_42 : decode cX4_mixWorlds 42 = .ok (.iaload, 1) := by decide +kernel
theorem dX4_mixWorlds_43 : decode cX4_mixWorlds 43 = .ok (.ifCond .le 22, 3) := by decide +kernel
theorem dX4_mixWorlds_46 : decode cX4_mixWorlds 46 = .ok (.aload_n 0, 1) := by decide +kernel
theorem dX4_mixWorlds_47 : decode cX4_mixWorlds 47 = .ok (.getfield 42, 3) := by decide +kernel
theorem dX4_mixWorlds_50 : decode cX4_mixWorlds 50 = .ok (.aload_n 0, 1) := by decide +kernel
theorem dX4_mixWorlds_51 : decode cX4_mixWorlds 51 = .ok (.getfield 37, 3) := by decide +kernel
theorem dX4_mixWorlds_54 : decode cX4_mixWorlds 54 = .ok (.iload_n 1, 1) := by decide +kernel
theorem dX4_mixWorlds_55 : decode cX4_mixWorlds 55 = .ok (.aaload, 1) := by decide +kernel
theorem dX4_mixWorlds_56 : decode cX4_mixWorlds 56 = .ok (.aload_n 0, 1) := by decide +kernel
theorem dX4_mixWorlds_57 : decode cX4_mixWorlds 57 = .ok (.getfield 46, 3) := by decide +kernel
theorem dX4_mixWorlds_60 : decode cX4_mixWorlds 60 = .ok (.iload_n 1, 1) := by decide +kernel
theorem dX4_mixWorlds_61 : decode cX4_mixWorlds 61 = .ok (.iaload, 1) := by decide +kernel
theorem dX4_mixWorlds_62 : decode cX4_mixWorlds 62 = .ok (.invokevirtual 243, 3) := by decide +kernel
theorem dX4_mixWorlds_65 : decode cX4_mixWorlds 65 = .ok (.iinc 1 1, 3) := by decide +kernel
theorem dX4_mixWorlds_68 : decode cX4_mixWorlds 68 = .ok (.goto (-36), 3) := by decide +kernel
theorem dX4_mixWorlds_71 : decode cX4_mixWorlds 71 = .ok (.return_, 1) := by decide +kernel
