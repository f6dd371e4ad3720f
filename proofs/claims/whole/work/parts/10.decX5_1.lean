theorem dX5_isLegal_100 : decode cX5_isLegal 100 = .ok (.aload_n 0, 1) := by decide +kernel
theorem dX5_isLegal_101 : decode cX5_isLegal 101 = .ok (.iconst 0, 1) := by decide +kernel
theorem dX5_isLegal_102 : decode cX5_isLegal 102 = .ok (.iload_n 1, 1) := by decide +kernel
theorem dX5_isLegal_103 : decode cX5_isLegal 103 = .ok (.iload 4, 2) := by decide +kernel
theorem dX5_isLegal_105 : decode cX5_isLegal 105 = .ok (.iload 6, 2) := by decide +kernel
theorem dX5_isLegal_107 : decode cX5_isLegal 107 = .ok (.invokevirtual 108, 3) := by decide +kernel
theorem dX5_isLegal_110 : decode cX5_isLegal 110 = .ok (.ifCond .eq 33, 3) := by decide +kernel
theorem dX5_isLegal_113 : decode cX5_isLegal 113 = .ok (.aload_n 0, 1) := by decide +kernel
theorem dX5_isLegal_114 : decode cX5_isLegal 114 = .ok (.iconst 1, 1) := by decide +kernel
theorem dX5_isLegal_115 : decode cX5_isLegal 115 = .ok (.iload_n 1, 1) := by decide +kernel
theorem dX5_isLegal_116 : decode cX5_isLegal 116 = .ok (.iload 5, 2) := by decide +kernel
theorem dX5_isLegal_118 : decode cX5_isLegal 118 = .ok (.iload 7, 2) := by decide +kernel
theorem dX5_isLegal_120 : decode cX5_isLegal 120 = .ok (.invokevirtual 108, 3) := by decide +kernel
theorem dX5_isLegal_123 : decode cX5_isLegal 123 = .ok (.ifCond .eq 20, 3) := by decide +kernel
theorem dX5_isLegal_126 : decode cX5_isLegal 126 = .ok (.aload_n 0, 1) := by decide +kernel
theorem dX5_isLegal_127 : decode cX5_isLegal 127 = .ok (.iload_n 1, 1) := by decide +kernel
theorem dX5_isLegal_128 : decode cX5_isLegal 128 = .ok (.iload_n 2, 1) := by decide +kernel
theorem dX5_isLegal_129 : decode cX5_isLegal 129 = .ok (.iload 6, 2) := by decide +kernel
theorem dX5_isLegal_131 : decode cX5_isLegal 131 = .ok (.iload 7, 2) := by decide +kernel
theorem dX5_isLegal_133 : decode cX5_isLegal 133 = .ok (.invokevirtual 112, 3) := by decide +kernel
theorem dX5_isLegal_136 : decode cX5_isLegal 136 = .ok (.ifCond .eq 7, 3) := by decide +kernel
theorem dX5_isLegal_139 : decode cX5_isLegal 139 = .ok (.iconst 1, 1) := by decide +kernel
theorem dX5_isLegal_140 : decode cX5_isLegal 140 = .ok (.goto 4, 3) := by decide +kernel
theorem dX5_isLegal_143 : decode cX5_isLegal 143 = .ok (.iconst 0, 1) := by decide +kernel
theorem dX5_isLegal_144 : decode cX5_isLegal 144 = .ok (.ireturn, 1) := by decide +kernel
theorem dX5_money_0 : decode cX5_money 0 = .ok (.iload 5, 2) := by decide +kernel
theorem dX5_money_2 : decode cX5_money 2 = .ok (.iconst 1, 1) := by decide +kernel
theorem dX5_money_3 : decode cX5_money 3 = .ok (.if_icmp .ne 12, 3) := by decide +kernel
theorem dX5_money_6 : decode cX5_money 6 = .ok (.aload_n 0, 1) := by decide +kernel
theorem dX5_money_7 : decode cX5_money 7 = .ok (.getfield 41, 3) := by decide +kernel
theorem dX5_money_10 : decode cX5_money 10 = .ok (.iconst 0, 1) := by decide +kernel
theorem dX5_money_11 : decode cX5_money 11 = .ok (.iaload, 1) := by decide +kernel
theorem dX5_money_12 : decode cX5_money 12 = .ok (.goto 20, 3) := by decide +kernel
theorem dX5_money_15 : decode cX5_money 15 = .ok (.iload 5, 2) := by decide +kernel
theorem dX5_money_17 : decode cX5_money 17 = .ok (.iconst 2, 1) := by decide +kernel
theorem dX5_money_18 : decode cX5_money 18 = .ok (.if_icmp .ne 13, 3) := by decide +kernel
theorem dX5_money_21 : decode cX5_money 21 = .ok (.aload_n 0, 1) := by decide +kernel
theorem dX5_money_22 : decode cX5_money 22 = .ok (.getfield 47, 3) := by decide +kernel
theorem dX5_money_25 : decode cX5_money 25 = .ok (.iconst 0, 1) := by decide +kernel
theorem dX5_money_26 : decode cX5_money 26 = .ok (.iaload, 1) := by decide +kernel
theorem dX5_money_27 : decode cX5_money 27 = .ok (.ineg, 1) := by decide +kernel
theorem dX5_money_28 : decode cX5_money 28 = .ok (.goto 4, 3) := by decide +kernel
theorem dX5_money_31 : decode cX5_money 31 = .ok (.iconst 0, 1) := by decide +kernel
theorem dX5_money_32 : decode cX5_money 32 = .ok (.iload 6, 2) := by decide +kernel
theorem dX5_money_34 : decode cX5_money 34 = .ok (.iconst 1, 1) := by decide +kernel
theorem dX5_money_35 : decode cX5_money 35 = .ok (.if_icmp .ne 12, 3) := by decide +kernel
theorem dX5_money_38 : decode cX5_money 38 = .ok (.aload_n 0, 1) := by decide +kernel
theorem dX5_money_39 : decode cX5_money 39 = .ok (.getfield 41, 3) := by decide +kernel
theorem dX5_money_42 : decode cX5_money 42 = .ok (.iconst 1, 1) := by decide +kernel
theorem dX5_money_43 : decode cX5_money 43 = .ok (.iaload, 1) := by decide +kernel
theorem dX5_money_44 : decode cX5_money 44 = .ok (.goto 20, 3) := by decide +kernel
theorem dX5_money_47 : decode cX5_money 47 = .ok (.iload 6, 2) := by decide +kernel
theorem dX5_money_49 : decode cX5_money 49 = .ok (.iconst 2, 1) := by decide +kernel
theorem dX5_money_50 : decode cX5_money 50 = .ok (.if_icmp .ne 13, 3) := by decide +kernel
theorem dX5_money_53 : decode cX5_money 53 = .ok (.aload_n 0, 1) := by decide +kernel
theorem dX5_money_54 : decode cX5_money 54 = .ok (.getfield 47, 3) := by decide +kernel
theorem dX5_money_57 : decode cX5_money 57 = .ok (.iconst 1, 1) := by decide +kernel
theorem dX5_money_58 : decode cX5_money 58 = .ok (.iaload, 1) := by decide +kernel
theorem dX5_money_59 : decode cX5_money 59 = .ok (.ineg, 1) := by decide +kernel
theorem dX5_money_60 : decode cX5_money 60 = .ok (.goto 4, 3) := by decide +kernel
theorem dX5_money_63 : decode cX5_money 63 = .ok (.iconst 0, 1) := by decide +kernel
theorem dX5_money_64 : decode cX5_money 64 = .ok (.iadd, 1) := by decide +kernel
theorem dX5_money_65 : decode cX5_money 65 = .ok (.istore 7, 2) := by decide +kernel
theorem dX5_money_67 : decode cX5_money 67 = .ok (.iload_n 3, 1) := by decide +kernel
theorem dX5_money_68 : decode cX5_money 68 = .ok (.ifCond .ne 17, 3) := by decide +kernel
theorem dX5_money_71 : decode cX5_money 71 = .ok (.iload 5, 2) := by decide +kernel
theorem dX5_money_73 : decode cX5_money 73 = .ok (.ifCond .eq 12, 3) := by decide +kernel
theorem dX5_money_76 : decode cX5_money 76 = .ok (.aload_n 0, 1) := by decide +kernel
theorem dX5_money_77 : decode cX5_money 77 = .ok (.getfield 50, 3) := by decide +kernel
theorem dX5_money_80 : decode cX5_money 80 = .ok (.iconst 0, 1) := by decide +kernel
theorem dX5_money_81 : decode cX5_money 81 = .ok (.iaload, 1) := by decide +kernel
theorem dX5_money_82 : decode cX5_money 82 = .ok (.goto 4, 3) := by decide +kernel
theorem dX5_money_85 : decode cX5_money 85 = .ok (.iconst 0, 1) := by decide +kernel
theorem dX5_money_86 : decode cX5_money 86 = .ok (.iload 4, 2) := by decide +kernel
theorem dX5_money_88 : decode cX5_money 88 = .ok (.ifCond .ne 17, 3) := by decide +kernel
theorem dX5_money_91 : decode cX5_money 91 = .ok (.iload 6, 2) := by decide +kernel
theorem dX5_money_93 : decode cX5_money 93 = .ok (.ifCond .eq 12, 3) := by decide +kernel
theorem dX5_money_96 : decode cX5_money 96 = .ok (.aload_n 0, 1) := by decide +kernel
theorem dX5_money_97 : decode cX5_money 97 = .ok (.getfield 50, 3) := by decide +kernel
theorem dX5_money_100 : decode cX5_money 100 = .ok (.iconst 1, 1) := by decide +kernel
theorem dX5_money_101 : decode cX5_money 101 = .ok (.iaload, 1) := by decide +kernel
theorem dX5_money_102 : decode cX5_money 102 = .ok (.goto 4, 3) := by decide +kernel
theorem dX5_money_105 : decode cX5_money 105 = .ok (.iconst 0, 1) := by decide +kernel
theorem dX5_money_106 : decode cX5_money 106 = .ok (.iadd, 1) := by decide +kernel
theorem dX5_money_107 : decode cX5_money 107 = .ok (.istore 8, 2) := by decide +kernel
theorem dX5_money_109 : decode cX5_money 109 = .ok (.aload_n 0, 1) := by decide +kernel
theorem dX5_money_110 : decode cX5_money 110 = .ok (.getfield 60, 3) := by decide +kernel
theorem dX5_money_113 : decode cX5_money 113 = .ok (.bipush 24, 2) := by decide +kernel
theorem dX5_money_115 : decode cX5_money 115 = .ok (.iload_n 1, 1) := by decide +kernel
theorem dX5_money_116 : decode cX5_money 116 = .ok (.imul, 1) := by decide +kernel
theorem dX5_money_117 : decode cX5_money 117 = .ok (.iload_n 2, 1) := by decide +kernel
theorem dX5_money_118 : decode cX5_money 118 = .ok (.iadd, 1) := by decide +kernel
theorem dX5_money_119 : decode cX5_money 119 = .ok (.iaload, 1) := by decide +kernel
theorem dX5_money_120 : decode cX5_money 120 = .ok (.iload 7, 2) := by decide +kernel
theorem dX5_money_122 : decode cX5_money 122 = .ok (.imul, 1) := by decide +kernel
theorem dX5_money_123 : decode cX5_money 123 = .ok (.iload 8, 2) := by decide +kernel
theorem dX5_money_125 : decode cX5_money 125 = .ok (.isub, 1) := by decide +kernel
theorem dX5_money_126 : decode cX5_money 126 = .ok (.ireturn, 1) := by decide +kernel
theorem dX5_laysOut_0 : decode cX5_laysOut 0 = .ok (.bipush 25, 2) := by decide +kernel
theorem dX5_laysOut_2 : decode cX5_laysOut 2 = .ok (.newarray .int, 2) := by decide +kernel
theorem dX5_laysOut_4 : decode cX5_laysOut 4 = .ok (.astore_n 2, 1) := by decide +kernel
theorem dX5_laysOut_5 : decode cX5_laysOut 5 = .ok (.aload_n 2, 1) := by decide +kernel
theorem dX5_laysOut_6 : decode cX5_laysOut 6 = .ok (.aload_n 0, 1) := by decide +kernel
theorem dX5_laysOut_7 : decode cX5_laysOut 7 = .ok (.getfield 78, 3) := by decide +kernel
theorem dX5_laysOut_10 : decode cX5_laysOut 10 = .ok (.iload_n 1, 1) := by decide +kernel
theorem dX5_laysOut_11 : decode cX5_laysOut 11 = .ok (.iastore, 1) := by decide +kernel
theorem dX5_laysOut_12 : decode cX5_laysOut 12 = .ok (.aload_n 0, 1) := by decide +kernel
theorem dX5_laysOut_13 : decode cX5_laysOut 13 = .ok (.getfield 78, 3) := by decide +kernel
theorem dX5_laysOut_16 : decode cX5_laysOut 16 = .ok (.istore_n 3, 1) := by decide +kernel
theorem dX5_laysOut_17 : decode cX5_laysOut 17 = .ok (.iload_n 3, 1) := by decide +kernel
theorem dX5_laysOut_18 : decode cX5_laysOut 18 = .ok (.bipush 24, 2) := by decide +kernel
theorem dX5_laysOut_20 : decode cX5_laysOut 20 = .ok (.if_icmp .ge 31, 3) := by decide +kernel
theorem dX5_laysOut_23 : decode cX5_laysOut 23 = .ok (.aload_n 2, 1) := by decide +kernel
theorem dX5_laysOut_24 : decode cX5_laysOut 24 = .ok (.iload_n 3, 1) := by decide +kernel
theorem dX5_laysOut_25 : decode cX5_laysOut 25 = .ok (.iconst 1, 1) := by decide +kernel
theorem dX5_laysOut_26 : decode cX5_laysOut 26 = .ok (.iadd, 1) := by decide +kernel
theorem dX5_laysOut_27 : decode cX5_laysOut 27 = .ok (.aload_n 2, 1) := by decide +kernel
theorem dX5_laysOut_28 : decode cX5_laysOut 28 = .ok (.iload_n 3, 1) := by decide +kernel
theorem dX5_laysOut_29 : decode cX5_laysOut 29 = .ok (.iaload, 1) := by decide +kernel
theorem dX5_laysOut_30 : decode cX5_laysOut 30 = .ok (.aload_n 0, 1) := by decide +kernel
theorem dX5_laysOut_31 : decode cX5_laysOut 31 = .ok (.getfield 28, 3) := by decide +kernel
theorem dX5_laysOut_34 : decode cX5_laysOut 34 = .ok (.iload_n 3, 1) := by decide +kernel
theorem dX5_laysOut_35 : decode cX5_laysOut 35 = .ok (.iaload, 1) := by decide +kernel
theorem dX5_laysOut_36 : decode cX5_laysOut 36 = .ok (.iadd, 1) := by decide +kernel
theorem dX5_laysOut_37 : decode cX5_laysOut 37 = .ok (.aload_n 0, 1) := by decide +kernel
theorem dX5_laysOut_38 : decode cX5_laysOut 38 = .ok (.getfield 32, 3) := by decide +kernel
theorem dX5_laysOut_41 : decode cX5_laysOut 41 = .ok (.iload_n 3, 1) := by decide +kernel
theorem dX5_laysOut_42 : decode cX5_laysOut 42 = .ok (.iaload, 1) := by decide +kernel
theorem dX5_laysOut_43 : decode cX5_laysOut 43 = .ok (.isub, 1) := by decide +kernel
theorem dX5_laysOut_44 : decode cX5_laysOut 44 = .ok (.iastore, 1) := by decide +kernel
theorem dX5_laysOut_45 : decode cX5_laysOut 45 = .ok (.iinc 3 1, 3) := by decide +kernel
theorem dX5_laysOut_48 : decode cX5_laysOut 48 = .ok (.goto (-31), 3) := by decide +kernel
theorem dX5_laysOut_51 : decode cX5_laysOut 51 = .ok (.bipush 24, 2) := by decide +kernel
theorem dX5_laysOut_53 : decode cX5_laysOut 53 = .ok (.istore_n 3, 1) := by decide +kernel
theorem dX5_laysOut_54 : decode cX5_laysOut 54 = .ok (.iload_n 3, 1) := by decide +kernel
theorem dX5_laysOut_55 : decode cX5_laysOut 55 = .ok (.aload_n 0, 1) := by decide +kernel
theorem dX5_laysOut_56 : decode cX5_laysOut 56 = .ok (.getfield 78, 3) := by decide +kernel
theorem dX5_laysOut_59 : decode cX5_laysOut 59 = .ok (.if_icmp .lt 140, 3) := by decide +kernel
theorem dX5_laysOut_62 : decode cX5_laysOut 62 = .ok (.iconst 0, 1) := by decide +kernel
theorem dX5_laysOut_63 : decode cX5_laysOut 63 = .ok (.istore 4, 2) := by decide +kernel
theorem dX5_laysOut_65 : decode cX5_laysOut 65 = .ok (.iload 4, 2) := by decide +kernel
theorem dX5_laysOut_67 : decode cX5_laysOut 67 = .ok (.sipush 369, 3) := by decide +kernel
theorem dX5_laysOut_70 : decode cX5_laysOut 70 = .ok (.if_icmp .ge 123, 3) := by decide +kernel
theorem dX5_laysOut_73 : decode cX5_laysOut 73 = .ok (.iconst 0, 1) := by decide +kernel
theorem dX5_laysOut_74 : decode cX5_laysOut 74 = .ok (.istore 5, 2) := by decide +kernel
theorem dX5_laysOut_76 : decode cX5_laysOut 76 = .ok (.iload 5, 2) := by decide +kernel
theorem dX5_laysOut_78 : decode cX5_laysOut 78 = .ok (.iconst 3, 1) := by decide +kernel
theorem dX5_laysOut_79 : decode cX5_laysOut 79 = .ok (.if_icmp .ge 60, 3) := by decide +kernel
theorem dX5_laysOut_82 : decode cX5_laysOut 82 = .ok (.aload_n 0, 1) := by decide +kernel
theorem dX5_laysOut_83 : decode cX5_laysOut 83 = .ok (.getfield 69, 3) := by decide +kernel
theorem dX5_laysOut_86 : decode cX5_laysOut 86 = .ok (.sipush 9225, 3) := by decide +kernel
theorem dX5_laysOut_89 : decode cX5_laysOut 89 = .ok (.iload 5, 2) := by decide +kernel
theorem dX5_laysOut_91 : decode cX5_laysOut 91 = .ok (.imul, 1) := by decide +kernel
theorem dX5_laysOut_92 : decode cX5_laysOut 92 = .ok (.sipush 369, 3) := by decide +kernel
theorem dX5_laysOut_95 : decode cX5_laysOut 95 = .ok (.iload_n 3, 1) := by decide +kernel
theorem dX5_laysOut_96 : decode cX5_laysOut 96 = .ok (.imul, 1) := by decide +kernel
theorem dX5_laysOut_97 : decode cX5_laysOut 97 = .ok (.iadd, 1) := by decide +kernel
theorem dX5_laysOut_98 : decode cX5_laysOut 98 = .ok (.iload 4, 2) := by decide +kernel
theorem dX5_laysOut_100 : decode cX5_laysOut 100 = .ok (.iadd, 1) := by decide +kernel
theorem dX5_laysOut_101 : decode cX5_laysOut 101 = .ok (.iload_n 3, 1) := by decide +kernel
theorem dX5_laysOut_102 : decode cX5_laysOut 102 = .ok (.bipush 24, 2) := by decide +kernel
theorem dX5_laysOut_104 : decode cX5_laysOut 104 = .ok (.if_icmp .ne 16, 3) := by decide +kernel
theorem dX5_laysOut_107 : decode cX5_laysOut 107 = .ok (.iload 4, 2) := by decide +kernel
theorem dX5_laysOut_109 : decode cX5_laysOut 109 = .ok (.bipush 9, 2) := by decide +kernel
theorem dX5_laysOut_111 : decode cX5_laysOut 111 = .ok (.idiv, 1) := by decide +kernel
theorem dX5_laysOut_112 : decode cX5_laysOut 112 = .ok (.aload_n 0, 1) := by decide +kernel
theorem dX5_laysOut_113 : decode cX5_laysOut 113 = .ok (.getfield 95, 3) := by decide +kernel
theorem dX5_laysOut_116 : decode cX5_laysOut 116 = .ok (.imul, 1) := by decide +kernel
theorem dX5_laysOut_117 : decode cX5_laysOut 117 = .ok (.goto 15, 3) := by decide +kernel
theorem dX5_laysOut_120 : decode cX5_laysOut 120 = .ok (.aload_n 0, 1) := by decide +kernel
theorem dX5_laysOut_121 : decode cX5_laysOut 121 = .ok (.iload 5, 2) := by decide +kernel
theorem dX5_laysOut_123 : decode cX5_laysOut 123 = .ok (.iload_n 3, 1) := by decide +kernel
theorem dX5_laysOut_124 : decode cX5_laysOut 124 = .ok (.iload 4, 2) := by decide +kernel
theorem dX5_laysOut_126 : decode cX5_laysOut 126 = .ok (.aload_n 2, 1) := by decide +kernel
theorem dX5_laysOut_127 : decode cX5_laysOut 127 = .ok (.iload_n 3, 1) := by decide +kernel
theorem dX5_laysOut_128 : decode cX5_laysOut 128 = .ok (.iaload, 1) := by decide +kernel
theorem dX5_laysOut_129 : decode cX5_laysOut 129 = .ok (.invokevirtual 115, 3) := by decide +kernel
theorem dX5_laysOut_132 : decode cX5_laysOut 132 = .ok (.iastore, 1) := by decide +kernel
theorem dX5_laysOut_133 : decode cX5_laysOut 133 = .ok (.iinc 5 1, 3) := by decide +kernel
theorem dX5_laysOut_136 : decode cX5_laysOut 136 = .ok (.goto (-60), 3) := by decide +kernel
theorem dX5_laysOut_139 : decode cX5_laysOut 139 = .ok (.aload_n 0, 1) := by decide +kernel
theorem dX5_laysOut_140 : decode cX5_laysOut 140 = .ok (.getfield 72, 3) := by decide +kernel
theorem dX5_laysOut_143 : decode cX5_laysOut 143 = .ok (.sipush 369, 3) := by decide +kernel
theorem dX5_laysOut_146 : decode cX5_laysOut 146 = .ok (.iload_n 3, 1) := by decide +kernel
theorem dX5_laysOut_147 : decode cX5_laysOut 147 = .ok (.imul, 1) := by decide +kernel
theorem dX5_laysOut_148 : decode cX5_laysOut 148 = .ok (.iload 4, 2) := by decide +kernel
theorem dX5_laysOut_150 : decode cX5_laysOut 150 = .ok (.iadd, 1) := by decide +kernel
theorem dX5_laysOut_151 : decode cX5_laysOut 151 = .ok (.iload_n 3, 1) := by decide +kernel
theorem dX5_laysOut_152 : decode cX5_laysOut 152 = .ok (.bipush 24, 2) := by decide +kernel
theorem dX5_laysOut_154 : decode cX5_laysOut 154 = .ok (.if_icmp .eq 11, 3) := by decide +kernel
theorem dX5_laysOut_157 : decode cX5_laysOut 157 = .ok (.iload_n 3, 1) := by decide +kernel
theorem dX5_laysOut_158 : decode cX5_laysOut 158 = .ok (.aload_n 0, 1) := by decide +kernel
theorem dX5_laysOut_159 : decode cX5_laysOut 159 = .ok (.getfield 92, 3) := by decide +kernel
theorem dX5_laysOut_162 : decode cX5_laysOut 162 = .ok (.if_icmp .lt 13, 3) := by decide +kernel
theorem dX5_laysOut_165 : decode cX5_laysOut 165 = .ok (.aload_n 0, 1) := by decide +kernel
theorem dX5_laysOut_166 : decode cX5_laysOut 166 = .ok (.iload_n 3, 1) := by decide +kernel
theorem dX5_laysOut_167 : decode cX5_laysOut 167 = .ok (.iload 4, 2) := by decide +kernel
theorem dX5_laysOut_169 : decode cX5_laysOut 169 = .ok (.invokevirtual 119, 3) := by decide +kernel
theorem dX5_laysOut_172 : decode cX5_laysOut 172 = .ok (.goto 14, 3) := by decide +kernel
theorem dX5_laysOut_175 : decode cX5_laysOut 175 = .ok (.aload_n 0, 1) := by decide +kernel
theorem dX5_laysOut_176 : decode cX5_laysOut 176 = .ok (.iconst (-1), 1) := by decide +kernel
theorem dX5_laysOut_177 : decode cX5_laysOut 177 = .ok (.iload_n 3, 1) := by decide +kernel
theorem dX5_laysOut_178 : decode cX5_laysOut 178 = .ok (.iload 4, 2) := by decide +kernel
theorem dX5_laysOut_180 : decode cX5_laysOut 180 = .ok (.aload_n 2, 1) := by decide +kernel
theorem dX5_laysOut_181 : decode cX5_laysOut 181 = .ok (.iload_n 3, 1) := by decide +kernel
theorem dX5_laysOut_182 : decode cX5_laysOut 182 = .ok (.iaload, 1) := by decide +kernel
theorem dX5_laysOut_183 : decode cX5_laysOut 183 = .ok (.invokevirtual 115, 3) := by decide +kernel
theorem dX5_laysOut_186 : decode cX5_laysOut 186 = .ok (.iastore, 1) := by decide +kernel
theorem dX5_laysOut_187 : decode cX5_laysOut 187 = .ok (.iinc 4 1, 3) := by decide +kernel
theorem dX5_laysOut_190 : decode cX5_laysOut 190 = .ok (.goto (-125), 3) := by decide +kernel
theorem dX5_laysOut_193 : decode cX5_laysOut 193 = .ok (.iinc 3 (-1), 3) := by decide +kernel
theorem dX5_laysOut_196 : decode cX5_laysOut 196 = .ok (.goto (-142), 3) := by decide +kernel
theorem dX5_laysOut_199 : decode cX5_laysOut 199 = .ok (.return_, 1) := by decide +kernel
theorem dX5_weighed_0 : decode cX5_weighed 0 = .ok (.iconst 0, 1) := by decide +kernel
theorem dX5_weighed_1 : decode cX5_weighed 1 = .ok (.istore_n 3, 1) := by decide +kernel
theorem dX5_weighed_2 : decode cX5_weighed 2 = .ok (.iconst 0, 1) := by decide +kernel
theorem dX5_weighed_3 : decode cX5_weighed 3 = .ok (.istore 4, 2) := by decide +kernel
theorem dX5_weighed_5 : decode cX5_weighed 5 = .ok (.iload 4, 2) := by decide +kernel
theorem dX5_weighed_7 : decode cX5_weighed 7 = .ok (.iconst 3, 1) := by decide +kernel
theorem dX5_weighed_8 : decode cX5_weighed 8 = .ok (.if_icmp .ge 53, 3) := by decide +kernel
theorem dX5_weighed_11 : decode cX5_weighed 11 = .ok (.aload_n 0, 1) := by decide +kernel
theorem dX5_weighed_12 : decode cX5_weighed 12 = .ok (.getfield 69, 3) := by decide +kernel
theorem dX5_weighed_15 : decode cX5_weighed 15 = .ok (.sipush 9225, 3) := by decide +kernel
theorem dX5_weighed_18 : decode cX5_weighed 18 = .ok (.iload 4, 2) := by decide +kernel
theorem dX5_weighed_20 : decode cX5_weighed 20 = .ok (.imul, 1) := by decide +kernel
theorem dX5_weighed_21 : decode cX5_weighed 21 = .ok (.sipush 369, 3) := by decide +kernel
theorem dX5_weighed_24 : decode cX5_weighed 24 = .ok (.iload_n 1, 1) := by decide +kernel
theorem dX5_weighed_25 : decode cX5_weighed 25 = .ok (.imul, 1) := by decide +kernel
theorem dX5_weighed_26 : decode cX5_weighed 26 = .ok (.iadd, 1) := by decide +kernel
theorem dX5_weighed_27 : decode cX5_weighed 27 = .ok (.iload_n 2, 1) := by decide +kernel
theorem dX5_weighed_28 : decode cX5_weighed 28 = .ok (.iadd, 1) := by decide +kernel
theorem dX5_weighed_29 : decode cX5_weighed 29 = .ok (.iaload, 1) := by decide +kernel
theorem dX5_weighed_30 : decode cX5_weighed 30 = .ok (.istore 5, 2) := by decide +kernel
theorem dX5_weighed_32 : decode cX5_weighed 32 = .ok (.iload 5, 2) := by decide +kernel
theorem dX5_weighed_34 : decode cX5_weighed 34 = .ok (.ldc 122, 2) := by decide +kernel
theorem dX5_weighed_36 : decode cX5_weighed 36 = .ok (.if_icmp .ne 6, 3) := by decide +kernel
theorem dX5_weighed_39 : decode cX5_weighed 39 = .ok (.ldc 122, 2) := by decide +kernel
theorem dX5_weighed_41 : decode cX5_weighed 41 = .ok (.ireturn, 1) := by decide +kernel
theorem dX5_weighed_42 : decode cX5_weighed 42 = .ok (.iload_n 3, 1) := by decide +kernel
theorem dX5_weighed_43 : decode cX5_weighed 43 = .ok (.aload_n 0, 1) := by decide +kernel
theorem dX5_weighed_44 : decode cX5_weighed 44 = .ok (.getfield 57, 3) := by decide +kernel
theorem dX5_weighed_47 : decode cX5_weighed 47 = .ok (.iload 4, 2) := by decide +kernel
theorem dX5_weighed_49 : decode cX5_weighed 49 = .ok (.iaload, 1) := by decide +kernel
theorem dX5_weighed_50 : decode cX5_weighed 50 = .ok (.iload 5, 2) := by decide +kernel
theorem dX5_weighed_52 : decode cX5_weighed 52 = .ok (.imul, 1) := by decide +kernel
theorem dX5_weighed_53 : decode cX5_weighed 53 = .ok (.iadd, 1) := by decide +kernel
theorem dX5_weighed_54 : decode cX5_weighed 54 = .ok (.istore_n 3, 1) := by decide +kernel
theorem dX5_weighed_55 : decode cX5_weighed 55 = .ok (.iinc 4 1, 3) := by decide +kernel
theorem dX5_weighed_58 : decode cX5_weighed 58 = .ok (.goto (-53), 3) := by decide +kernel
theorem dX5_weighed_61 : decode cX5_weighed 61 = .ok (.iload_n 3, 1) := by decide +kernel
theorem dX5_weighed_62 : decode cX5_weighed 62 = .ok (.ireturn, 1) := by decide +kernel
theorem dX5_brings_0 : decode cX5_brings 0 = .ok (.iload_n 3, 1) := by decide +kernel
theorem dX5_brings_1 : decode cX5_brings 1 = .ok (.bipush 9, 2) := by decide +kernel
theorem dX5_brings_3 : decode cX5_brings 3 = .ok (.idiv, 1) := by decide +kernel
theorem dX5_brings_4 : decode cX5_brings 4 = .ok (.istore 7, 2) := by decide +kernel
theorem dX5_brings_6 : decode cX5_brings 6 = .ok (.iload_n 3, 1) := by decide +kernel
theorem dX5_brings_7 : decode cX5_brings 7 = .ok (.iconst 3, 1) := by decide +kernel
theorem dX5_brings_8 : decode cX5_brings 8 = .ok (.idiv, 1) := by decide +kernel
theorem dX5_brings_9 : decode cX5_brings 9 = .ok (.iconst 3, 1) := by decide +kernel
theorem dX5_brings_10 : decode cX5_brings 10 = .ok (.irem, 1) := by decide +kernel
theorem dX5_brings_11 : decode cX5_brings 11 = .ok (.istore 8, 2) := by decide +kernel
theorem dX5_brings_13 : decode cX5_brings 13 = .ok (.iload_n 3, 1) := by decide +kernel
theorem dX5_brings_14 : decode cX5_brings 14 = .ok (.iconst 3, 1) := by decide +kernel
theorem dX5_brings_15 : decode cX5_brings 15 = .ok (.irem, 1) := by decide +kernel
theorem dX5_brings_16 : decode cX5_brings 16 = .ok (.istore 9, 2) := by decide +kernel
theorem dX5_brings_18 : decode cX5_brings 18 = .ok (.aload_n 0, 1) := by decide +kernel
theorem dX5_brings_19 : decode cX5_brings 19 = .ok (.iload_n 2, 1) := by decide +kernel
theorem dX5_brings_20 : decode cX5_brings 20 = .ok (.iload 7, 2) := by decide +kernel
theorem dX5_brings_22 : decode cX5_brings 22 = .ok (.iload 4, 2) := by decide +kernel
theorem dX5_brings_24 : decode cX5_brings 24 = .ok (.iload 7, 2) := by decide +kernel
theorem dX5_brings_26 : decode cX5_brings 26 = .ok (.isub, 1) := by decide +kernel
theorem dX5_brings_27 : decode cX5_brings 27 = .ok (.iload 8, 2) := by decide +kernel
theorem dX5_brings_29 : decode cX5_brings 29 = .ok (.iload 9, 2) := by decide +kernel
theorem dX5_brings_31 : decode cX5_brings 31 = .ok (.iload 5, 2) := by decide +kernel
theorem dX5_brings_33 : decode cX5_brings 33 = .ok (.iload 6, 2) := by decide +kernel
theorem dX5_brings_35 : decode cX5_brings 35 = .ok (.invokevirtual 123, 3) := by decide +kernel
theorem dX5_brings_38 : decode cX5_brings 38 = .ok (.ifCond .ne 6, 3) := by decide +kernel
theorem dX5_brings_41 : decode cX5_brings 41 = .ok (.ldc 122, 2) := by decide +kernel
theorem dX5_brings_43 : decode cX5_brings 43 = .ok (.ireturn, 1) := by decide +kernel
theorem dX5_brings_44 : decode cX5_brings 44 = .ok (.bipush 9, 2) := by decide +kernel
theorem dX5_brings_46 : decode cX5_brings 46 = .ok (.iload 7, 2) := by decide +kernel
theorem dX5_brings_48 : decode cX5_brings 48 = .ok (.aload_n 0, 1) := by decide +kernel
theorem dX5_brings_49 : decode cX5_brings 49 = .ok (.getfield 28, 3) := by decide +kernel
theorem dX5_brings_52 : decode cX5_brings 52 = .ok (.iload_n 2, 1) := by decide +kernel
theorem dX5_brings_53 : decode cX5_brings 53 = .ok (.iaload, 1) := by decide +kernel
theorem dX5_brings_54 : decode cX5_brings 54 = .ok (.iadd, 1) := by decide +kernel
theorem dX5_brings_55 : decode cX5_brings 55 = .ok (.aload_n 0, 1) := by decide +kernel
theorem dX5_brings_56 : decode cX5_brings 56 = .ok (.iload 5, 2) := by decide +kernel
theorem dX5_brings_58 : decode cX5_brings 58 = .ok (.iload 6, 2) := by decide +kernel
theorem dX5_brings_60 : decode cX5_brings 60 = .ok (.invokevirtual 101, 3) := by decide +kernel
theorem dX5_brings_63 : decode cX5_brings 63 = .ok (.isub, 1) := by decide +kernel
theorem dX5_brings_64 : decode cX5_brings 64 = .ok (.imul, 1) := by decide +kernel
theorem dX5_brings_65 : decode cX5_brings 65 = .ok (.iconst 3, 1) := by decide +kernel
theorem dX5_brings_66 : decode cX5_brings 66 = .ok (.iload 5, 2) := by decide +kernel
theorem dX5_brings_68 : decode cX5_brings 68 = .ok (.imul, 1) := by decide +kernel
theorem dX5_brings_69 : decode cX5_brings 69 = .ok (.iadd, 1) := by decide +kernel
theorem dX5_brings_70 : decode cX5_brings 70 = .ok (.iload 6, 2) := by decide +kernel
theorem dX5_brings_72 : decode cX5_brings 72 = .ok (.iadd, 1) := by decide +kernel
theorem dX5_brings_73 : decode cX5_brings 73 = .ok (.istore 10, 2) := by decide +kernel
theorem dX5_brings_75 : decode cX5_brings 75 = .ok (.iload_n 1, 1) := by decide +kernel
theorem dX5_brings_76 : decode cX5_brings 76 = .ok (.ifCond .lt 56, 3) := by decide +kernel
theorem dX5_brings_79 : decode cX5_brings 79 = .ok (.aload_n 0, 1) := by decide +kernel
theorem dX5_brings_80 : decode cX5_brings 80 = .ok (.getfield 69, 3) := by decide +kernel
theorem dX5_brings_83 : decode cX5_brings 83 = .ok (.sipush 9225, 3) := by decide +kernel
theorem dX5_brings_86 : decode cX5_brings 86 = .ok (.iload_n 1, 1) := by decide +kernel
theorem dX5_brings_87 : decode cX5_brings 87 = .ok (.imul, 1) := by decide +kernel
theorem dX5_brings_88 : decode cX5_brings 88 = .ok (.sipush 369, 3) := by decide +kernel
theorem dX5_brings_91 : decode cX5_brings 91 = .ok (.iload_n 2, 1) := by decide +kernel
theorem dX5_brings_92 : decode cX5_brings 92 = .ok (.iconst 1, 1) := by decide +kernel
theorem dX5_brings_93 : decode cX5_brings 93 = .ok (.iadd, 1) := by decide +kernel
theorem dX5_brings_94 : decode cX5_brings 94 = .ok (.imul, 1) := by decide +kernel
theorem dX5_brings_95 : decode cX5_brings 95 = .ok (.iadd, 1) := by decide +kernel
theorem dX5_brings_96 : decode cX5_brings 96 = .ok (.iload 10, 2) := by decide +kernel
theorem dX5_brings_98 : decode cX5_brings 98 = .ok (.iadd, 1) := by decide +kernel
theorem dX5_brings_99 : decode cX5_brings 99 = .ok (.iaload, 1) := by decide +kernel
theorem dX5_brings_100 : decode cX5_brings 100 = .ok (.istore 11, 2) := by decide +kernel
theorem dX5_brings_102 : decode cX5_brings 102 = .ok (.iload 11, 2) := by decide +kernel
theorem dX5_brings_104 : decode cX5_brings 104 = .ok (.ldc 122, 2) := by decide +kernel
theorem dX5_brings_106 : decode cX5_brings 106 = .ok (.if_icmp .ne 8, 3) := by decide +kernel
theorem dX5_brings_109 : decode cX5_brings 109 = .ok (.ldc 122, 2) := by decide +kernel
theorem dX5_brings_111 : decode cX5_brings 111 = .ok (.goto 20, 3) := by decide +kernel
theorem dX5_brings_114 : decode cX5_brings 114 = .ok (.iload 11, 2) := by decide +kernel
theorem dX5_brings_116 : decode cX5_brings 116 = .ok (.aload_n 0, 1) := by decide +kernel
theorem dX5_brings_117 : decode cX5_brings 117 = .ok (.iload_n 1, 1) := by decide +kernel
theorem dX5_brings_118 : decode cX5_brings 118 = .ok (.iload_n 2, 1) := by decide +kernel
theorem dX5_brings_119 : decode cX5_brings 119 = .ok (.iload 8, 2) := by decide +kernel
theorem dX5_brings_121 : decode cX5_brings 121 = .ok (.iload 9, 2) := by decide +kernel
theorem dX5_brings_123 : decode cX5_brings 123 = .ok (.iload 5, 2) := by decide +kernel
theorem dX5_brings_125 : decode cX5_brings 125 = .ok (.iload 6, 2) := by decide +kernel
theorem dX5_brings_127 : decode cX5_brings 127 = .ok (.invokevirtual 127, 3) := by decide +kernel
theorem dX5_brings_130 : decode cX5_brings 130 = .ok (.iadd, 1) := by decide +kernel
theorem dX5_brings_131 : decode cX5_brings 131 = .ok (.ireturn, 1) := by decide +kernel
theorem dX5_brings_132 : decode cX5_brings 132 = .ok (.aload_n 0, 1) := by decide +kernel
theorem dX5_brings_133 : decode cX5_brings 133 = .ok (.getfield 72, 3) := by decide +kernel
theorem dX5_brings_136 : decode cX5_brings 136 = .ok (.sipush 369, 3) := by decide +kernel
theorem dX5_brings_139 : decode cX5_brings 139 = .ok (.iload_n 2, 1) := by decide +kernel
theorem dX5_brings_140 : decode cX5_brings 140 = .ok (.iconst 1, 1) := by decide +kernel
theorem dX5_brings_141 : decode cX5_brings 141 = .ok (.iadd, 1) := by decide +kernel
theorem dX5_brings_142 : decode cX5_brings 142 = .ok (.imul, 1) := by decide +kernel
theorem dX5_brings_143 : decode cX5_brings 143 = .ok (.iload 10, 2) := by decide +kernel
theorem dX5_brings_145 : decode cX5_brings 145 = .ok (.iadd, 1) := by decide +kernel
theorem dX5_brings_146 : decode cX5_brings 146 = .ok (.iaload, 1) := by decide +kernel
theorem dX5_brings_147 : decode cX5_brings 147 = .ok (.istore 11, 2) := by decide +kernel
theorem dX5_brings_149 : decode cX5_brings 149 = .ok (.iload 11, 2) := by decide +kernel
theorem dX5_brings_151 : decode cX5_brings 151 = .ok (.ldc 122, 2) := by decide +kernel
theorem dX5_brings_153 : decode cX5_brings 153 = .ok (.if_icmp .ne 6, 3) := by decide +kernel
theorem dX5_brings_156 : decode cX5_brings 156 = .ok (.ldc 122, 2) := by decide +kernel
theorem dX5_brings_158 : decode cX5_brings 158 = .ok (.ireturn, 1) := by decide +kernel
theorem dX5_brings_159 : decode cX5_brings 159 = .ok (.iconst 0, 1) := by decide +kernel
theorem dX5_brings_160 : decode cX5_brings 160 = .ok (.istore 12, 2) := by decide +kernel
theorem dX5_brings_162 : decode cX5_brings 162 = .ok (.iload 12, 2) := by decide +kernel
theorem dX5_brings_164 : decode cX5_brings 164 = .ok (.iconst 3, 1) := by decide +kernel
theorem dX5_brings_165 : decode cX5_brings 165 = .ok (.if_icmp .ge 37, 3) := by decide +kernel
theorem dX5_brings_168 : decode cX5_brings 168 = .ok (.iload 11, 2) := by decide +kernel
theorem dX5_brings_170 : decode cX5_brings 170 = .ok (.aload_n 0, 1) := by decide +kernel
theorem dX5_brings_171 : decode cX5_brings 171 = .ok (.getfield 57, 3) := by decide +kernel
theorem dX5_brings_174 : decode cX5_brings 174 = .ok (.iload 12, 2) := by decide +kernel
theorem dX5_brings_176 : decode cX5_brings 176 = .ok (.iaload, 1) := by decide +kernel
theorem dX5_brings_177 : decode cX5_brings 177 = .ok (.aload_n 0, 1) := by decide +kernel
theorem dX5_brings_178 : decode cX5_brings 178 = .ok (.iload 12, 2) := by decide +kernel
theorem dX5_brings_180 : decode cX5_brings 180 = .ok (.iload_n 2, 1) := by decide +kernel
theorem dX5_brings_181 : decode cX5_brings 181 = .ok (.iload 8, 2) := by decide +kernel
theorem dX5_brings_183 : decode cX5_brings 183 = .ok (.iload 9, 2) := by decide +kernel
theorem dX5_brings_185 : decode cX5_brings 185 = .ok (.iload 5, 2) := by decide +kernel
theorem dX5_brings_187 : decode cX5_brings 187 = .ok (.iload 6, 2) := by decide +kernel
theorem dX5_brings_189 : decode cX5_brings 189 = .ok (.invokevirtual 127, 3) := by decide +kernel
theorem dX5_brings_192 : decode cX5_brings 192 = .ok (.imul, 1) := by decide +kernel
theorem dX5_brings_193 : decode cX5_brings 193 = .ok (.iadd, 1) := by decide +kernel
theorem dX5_brings_194 : decode cX5_brings 194 = .ok (.istore 11, 2) := by decide +kernel
theorem dX5_brings_196 : decode cX5_brings 196 = .ok (.iinc 12 1, 3) := by decide +kernel
theorem dX5_brings_199 : decode cX5_brings 199 = .ok (.goto (-37), 3) := by decide +kernel
theorem dX5_brings_202 : decode cX5_brings 202 = .ok (.iload 11, 2) := by decide +kernel
theorem dX5_brings_204 : decode cX5_brings 204 = .ok (.ireturn, 1) := by decide +kernel
theorem dX5_bestOf_0 : decode cX5_bestOf 0 = .ok (.ldc 122, 2) := by decide +kernel
theorem dX5_bestOf_2 : decode cX5_bestOf 2 = .ok (.istore 5, 2) := by decide +kernel
theorem dX5_bestOf_4 : decode cX5_bestOf 4 = .ok (.iconst 0, 1) := by decide +kernel
theorem dX5_bestOf_5 : decode cX5_bestOf 5 = .ok (.istore 6, 2) := by decide +kernel
theorem dX5_bestOf_7 : decode cX5_bestOf 7 = .ok (.iload 6, 2) := by decide +kernel
theorem dX5_bestOf_9 : decode cX5_bestOf 9 = .ok (.iconst 3, 1) := by decide +kernel
theorem dX5_bestOf_10 : decode cX5_bestOf 10 = .ok (.if_icmp .ge 55, 3) := by decide +kernel
theorem dX5_bestOf_13 : decode cX5_bestOf 13 = .ok (.iconst 0, 1) := by decide +kernel
theorem dX5_bestOf_14 : decode cX5_bestOf 14 = .ok (.istore 7, 2) := by decide +kernel
theorem dX5_bestOf_16 : decode cX5_bestOf 16 = .ok (.iload 7, 2) := by decide +kernel
theorem dX5_bestOf_18 : decode cX5_bestOf 18 = .ok (.iconst 3, 1) := by decide +kernel
theorem dX5_bestOf_19 : decode cX5_bestOf 19 = .ok (.if_icmp .ge 40, 3) := by decide +kernel
theorem dX5_bestOf_22 : decode cX5_bestOf 22 = .ok (.aload_n 0, 1) := by decide +kernel
theorem dX5_bestOf_23 : decode cX5_bestOf 23 = .ok (.iload_n 1, 1) := by decide +kernel
theorem dX5_bestOf_24 : decode cX5_bestOf 24 = .ok (.iload_n 2, 1) := by decide +kernel
theorem dX5_bestOf_25 : decode cX5_bestOf 25 = .ok (.iload_n 3, 1) := by decide +kernel
theorem dX5_bestOf_26 : decode cX5_bestOf 26 = .ok (.iload 4, 2) := by decide +kernel
theorem dX5_bestOf_28 : decode cX5_bestOf 28 = .ok (.iload 6, 2) := by decide +kernel
theorem dX5_bestOf_30 : decode cX5_bestOf 30 = .ok (.iload 7, 2) := by decide +kernel
theorem dX5_bestOf_32 : decode cX5_bestOf 32 = .ok (.invokevirtual 131, 3) := by decide +kernel
theorem dX5_bestOf_35 : decode cX5_bestOf 35 = .ok (.istore 8, 2) := by decide +kernel
theorem dX5_bestOf_37 : decode cX5_bestOf 37 = .ok (.iload 8, 2) := by decide +kernel
theorem dX5_bestOf_39 : decode cX5_bestOf 39 = .ok (.iload 5, 2) := by decide +kernel
theorem dX5_bestOf_41 : decode cX5_bestOf 41 = .ok (.if_icmp .le 8, 3) := by decide +kernel
theorem dX5_bestOf_44 : decode cX5_bestOf 44 = .ok (.iload 8, 2) := by decide +kernel
theorem dX5_bestOf_46 : decode cX5_bestOf 46 = .ok (.goto 5, 3) := by decide +kernel
theorem dX5_bestOf_49 : decode cX5_bestOf 49 = .ok (.iload 5, 2) := by decide +kernel
theorem dX5_bestOf_51 : decode cX5_bestOf 51 = .ok (.istore 5, 2) := by decide +kernel
theorem dX5_bestOf_53 : decode cX5_bestOf 53 = .ok (.iinc 7 1, 3) := by decide +kernel
theorem dX5_bestOf_56 : decode cX5_bestOf 56 = .ok (.goto (-40), 3) := by decide +kernel
theorem dX5_bestOf_59 : decode cX5_bestOf 59 = .ok (.iinc 6 1, 3) := by decide +kernel
theorem dX5_bestOf_62 : decode cX5_bestOf 62 = .ok (.goto (-55), 3) := by decide +kernel
theorem dX5_bestOf_65 : decode cX5_bestOf 65 = .ok (.iload 5, 2) := by decide +kernel
theorem dX5_bestOf_67 : decode cX5_bestOf 67 = .ok (.ireturn, 1) := by decide +kernel
theorem dX5_stateNow_0 : decode cX5_stateNow 0 = .ok (.bipush 9, 2) := by decide +kernel
theorem dX5_stateNow_2 : decode cX5_stateNow 2 = .ok (.aload_n 0, 1) := by decide +kernel
theorem dX5_stateNow_3 : decode cX5_stateNow 3 = .ok (.getfield 16, 3) := by decide +kernel
theorem dX5_stateNow_6 : decode cX5_stateNow 6 = .ok (.imul, 1) := by decide +kernel
theorem dX5_stateNow_7 : decode cX5_stateNow 7 = .ok (.iconst 3, 1) := by decide +kernel
theorem dX5_stateNow_8 : decode cX5_stateNow 8 = .ok (.aload_n 0, 1) := by decide +kernel
theorem dX5_stateNow_9 : decode cX5_stateNow 9 = .ok (.getfield 63, 3) := by decide +kernel
theorem dX5_stateNow_12 : decode cX5_stateNow 12 = .ok (.iconst 0, 1) := by decide +kernel
theorem dX5_stateNow_13 : decode cX5_stateNow 13 = .ok (.iaload, 1) := by decide +kernel
theorem dX5_stateNow_14 : decode cX5_stateNow 14 = .ok (.imul, 1) := by decide +kernel
theorem dX5_stateNow_15 : decode cX5_stateNow 15 = .ok (.iadd, 1) := by decide +kernel
theorem dX5_stateNow_16 : decode cX5_stateNow 16 = .ok (.aload_n 0, 1) := by decide +kernel
theorem dX5_stateNow_17 : decode cX5_stateNow 17 = .ok (.getfield 63, 3) := by decide +kernel
theorem dX5_stateNow_20 : decode cX5_stateNow 20 = .ok (.iconst 1, 1) := by decide +kernel
theorem dX5_stateNow_21 : decode cX5_stateNow 21 = .ok (.iaload, 1) := by decide +kernel
theorem dX5_stateNow_22 : decode cX5_stateNow 22 = .ok (.iadd, 1) := by decide +kernel
theorem dX5_stateNow_23 : decode cX5_stateNow 23 = .ok (.ireturn, 1) := by decide +kernel
theorem dX5_worthNow_0 : decode cX5_worthNow 0 = .ok (.aload_n 0, 1) := by decide +kernel
theorem dX5_worthNow_1 : decode cX5_worthNow 1 = .ok (.aload_n 0, 1) := by decide +kernel
theorem dX5_worthNow_2 : decode cX5_worthNow 2 = .ok (.getfield 16, 3) := by decide +kernel
theorem dX5_worthNow_5 : decode cX5_worthNow 5 = .ok (.aload_n 0, 1) := by decide +kernel
theorem dX5_worthNow_6 : decode cX5_worthNow 6 = .ok (.getfield 19, 3) := by decide +kernel
theorem dX5_worthNow_9 : decode cX5_worthNow 9 = .ok (.iadd, 1) := by decide +kernel
theorem dX5_worthNow_10 : decode cX5_worthNow 10 = .ok (.invokevirtual 134, 3) := by decide +kernel
theorem dX5_worthNow_13 : decode cX5_worthNow 13 = .ok (.aload_n 0, 1) := by decide +kernel
theorem dX5_worthNow_14 : decode cX5_worthNow 14 = .ok (.getfield 72, 3) := by decide +kernel
theorem dX5_worthNow_17 : decode cX5_worthNow 17 = .ok (.sipush 369, 3) := by decide +kernel
theorem dX5_worthNow_20 : decode cX5_worthNow 20 = .ok (.aload_n 0, 1) := by decide +kernel
theorem dX5_worthNow_21 : decode cX5_worthNow 21 = .ok (.getfield 78, 3) := by decide +kernel
theorem dX5_worthNow_24 : decode cX5_worthNow 24 = .ok (.imul, 1) := by decide +kernel
theorem dX5_worthNow_25 : decode cX5_worthNow 25 = .ok (.aload_n 0, 1) := by decide +kernel
theorem dX5_worthNow_26 : decode cX5_worthNow 26 = .ok (.invokevirtual 138, 3) := by decide +kernel
theorem dX5_worthNow_29 : decode cX5_worthNow 29 = .ok (.iadd, 1) := by decide +kernel
theorem dX5_worthNow_30 : decode cX5_worthNow 30 = .ok (.iaload, 1) := by decide +kernel
theorem dX5_worthNow_31 : decode cX5_worthNow 31 = .ok (.ireturn, 1) := by decide +kernel
theorem dX5_worth_0 : decode cX5_worth 0 = .ok (.aload_n 0, 1) := by decide +kernel
theorem dX5_worth_1 : decode cX5_worth 1 = .ok (.iconst 0, 1) := by decide +kernel
theorem dX5_worth_2 : decode cX5_worth 2 = .ok (.putfield 75, 3) := by decide +kernel
theorem dX5_worth_5 : decode cX5_worth 5 = .ok (.aload_n 0, 1) := by decide +kernel
theorem dX5_worth_6 : decode cX5_worth 6 = .ok (.invokevirtual 142, 3) := by decide +kernel
theorem dX5_worth_9 : decode cX5_worth 9 = .ok (.ireturn, 1) := by decide +kernel
theorem dX5_doing_0 : decode cX5_doing 0 = .ok (.aload_n 0, 1) := by decide +kernel
theorem dX5_doing_1 : decode cX5_doing 1 = .ok (.aload_n 0, 1) := by decide +kernel
theorem dX5_doing_2 : decode cX5_doing 2 = .ok (.getfield 16, 3) := by decide +kernel
theorem dX5_doing_5 : decode cX5_doing 5 = .ok (.aload_n 0, 1) := by decide +kernel
theorem dX5_doing_6 : decode cX5_doing 6 = .ok (.getfield 19, 3) := by decide +kernel
theorem dX5_doing_9 : decode cX5_doing 9 = .ok (.iadd, 1) := by decide +kernel
theorem dX5_doing_10 : decode cX5_doing 10 = .ok (.invokevirtual 134, 3) := by decide +kernel
theorem dX5_doing_13 : decode cX5_doing 13 = .ok (.aload_n 0, 1) := by decide +kernel
theorem dX5_doing_14 : decode cX5_doing 14 = .ok (.getfield 78, 3) := by decide +kernel
theorem dX5_doing_17 : decode cX5_doing 17 = .ok (.aload_n 0, 1) := by decide +kernel
theorem dX5_doing_18 : decode cX5_doing 18 = .ok (.getfield 92, 3) := by decide +kernel
theorem dX5_doing_21 : decode cX5_doing 21 = .ok (.if_icmp .lt 7, 3) := by decide +kernel
theorem dX5_doing_24 : decode cX5_doing 24 = .ok (.iload_n 1, 1) := by decide +kernel
theorem dX5_doing_25 : decode cX5_doing 25 = .ok (.goto 4, 3) := by decide +kernel
theorem dX5_doing_28 : decode cX5_doing 28 = .ok (.iconst (-1), 1) := by decide +kernel
theorem dX5_doing_29 : decode cX5_doing 29 = .ok (.istore_n 2, 1) := by decide +kernel
theorem dX5_doing_30 : decode cX5_doing 30 = .ok (.aload_n 0, 1) := by decide +kernel
theorem dX5_doing_31 : decode cX5_doing 31 = .ok (.iload_n 2, 1) := by decide +kernel
theorem dX5_doing_32 : decode cX5_doing 32 = .ok (.aload_n 0, 1) := by decide +kernel
theorem dX5_doing_33 : decode cX5_doing 33 = .ok (.getfield 78, 3) := by decide +kernel
theorem dX5_doing_36 : decode cX5_doing 36 = .ok (.aload_n 0, 1) := by decide +kernel
theorem dX5_doing_37 : decode cX5_doing 37 = .ok (.invokevirtual 138, 3) := by decide +kernel
theorem dX5_doing_40 : decode cX5_doing 40 = .ok (.aload_n 0, 1) := by decide +kernel
theorem dX5_doing_41 : decode cX5_doing 41 = .ok (.getfield 16, 3) := by decide +kernel
theorem dX5_doing_44 : decode cX5_doing 44 = .ok (.aload_n 0, 1) := by decide +kernel
theorem dX5_doing_45 : decode cX5_doing 45 = .ok (.getfield 19, 3) := by decide +kernel
theorem dX5_doing_48 : decode cX5_doing 48 = .ok (.iadd, 1) := by decide +kernel
theorem dX5_doing_49 : decode cX5_doing 49 = .ok (.invokevirtual 115, 3) := by decide +kernel
theorem dX5_doing_52 : decode cX5_doing 52 = .ok (.istore_n 3, 1) := by decide +kernel
theorem dX5_doing_53 : decode cX5_doing 53 = .ok (.iconst 0, 1) := by decide +kernel
theorem dX5_doing_54 : decode cX5_doing 54 = .ok (.istore 4, 2) := by decide +kernel
theorem dX5_doing_56 : decode cX5_doing 56 = .ok (.iload 4, 2) := by decide +kernel
theorem dX5_doing_58 : decode cX5_doing 58 = .ok (.bipush 9, 2) := by decide +kernel
theorem dX5_doing_60 : decode cX5_doing 60 = .ok (.if_icmp .ge 52, 3) := by decide +kernel
theorem dX5_doing_63 : decode cX5_doing 63 = .ok (.iload_n 3, 1) := by decide +kernel
theorem dX5_doing_64 : decode cX5_doing 64 = .ok (.ldc 122, 2) := by decide +kernel
theorem dX5_doing_66 : decode cX5_doing 66 = .ok (.if_icmp .eq 46, 3) := by decide +kernel
theorem dX5_doing_69 : decode cX5_doing 69 = .ok (.aload_n 0, 1) := by decide +kernel
theorem dX5_doing_70 : decode cX5_doing 70 = .ok (.iload_n 2, 1) := by decide +kernel
theorem dX5_doing_71 : decode cX5_doing 71 = .ok (.aload_n 0, 1) := by decide +kernel
theorem dX5_doing_72 : decode cX5_doing 72 = .ok (.getfield 78, 3) := by decide +kernel
theorem dX5_doing_75 : decode cX5_doing 75 = .ok (.aload_n 0, 1) := by decide +kernel
theorem dX5_doing_76 : decode cX5_doing 76 = .ok (.invokevirtual 138, 3) := by decide +kernel
theorem dX5_doing_79 : decode cX5_doing 79 = .ok (.aload_n 0, 1) := by decide +kernel
theorem dX5_doing_80 : decode cX5_doing 80 = .ok (.getfield 16, 3) := by decide +kernel
theorem dX5_doing_83 : decode cX5_doing 83 = .ok (.aload_n 0, 1) := by decide +kernel
theorem dX5_doing_84 : decode cX5_doing 84 = .ok (.getfield 19, 3) := by decide +kernel
theorem dX5_doing_87 : decode cX5_doing 87 = .ok (.iadd, 1) := by decide +kernel
theorem dX5_doing_88 : decode cX5_doing 88 = .ok (.iload 4, 2) := by decide +kernel
theorem dX5_doing_90 : decode cX5_doing 90 = .ok (.iconst 3, 1) := by decide +kernel
theorem dX5_doing_91 : decode cX5_doing 91 = .ok (.idiv, 1) := by decide +kernel
theorem dX5_doing_92 : decode cX5_doing 92 = .ok (.iload 4, 2) := by decide +kernel
theorem dX5_doing_94 : decode cX5_doing 94 = .ok (.iconst 3, 1) := by decide +kernel
theorem dX5_doing_95 : decode cX5_doing 95 = .ok (.irem, 1) := by decide +kernel
theorem dX5_doing_96 : decode cX5_doing 96 = .ok (.invokevirtual 131, 3) := by decide +kernel
theorem dX5_doing_99 : decode cX5_doing 99 = .ok (.iload_n 3, 1) := by decide +kernel
theorem dX5_doing_100 : decode cX5_doing 100 = .ok (.if_icmp .ne 6, 3) := by decide +kernel
theorem dX5_doing_103 : decode cX5_doing 103 = .ok (.iload 4, 2) := by decide +kernel
theorem dX5_doing_105 : decode cX5_doing 105 = .ok (.ireturn, 1) := by decide +kernel
theorem dX5_doing_106 : decode cX5_doing 106 = .ok (.iinc 4 1, 3) := by decide +kernel
theorem dX5_doing_109 : decode cX5_doing 109 = .ok (.goto (-53), 3) := by decide +kernel
theorem dX5_doing_112 : decode cX5_doing 112 = .ok (.iconst (-1), 1) := by decide +kernel
theorem dX5_doing_113 : decode cX5_doing 113 = .ok (.ireturn, 1) := by decide +kernel
theorem dX5_mode_0 : decode cX5_mode 0 = .ok (.aload_n 0, 1) := by decide +kernel
theorem dX5_mode_1 : decode cX5_mode 1 = .ok (.iconst 0, 1) := by decide +kernel
theorem dX5_mode_2 : decode cX5_mode 2 = .ok (.putfield 75, 3) := by decide +kernel
theorem dX5_mode_5 : decode cX5_mode 5 = .ok (.iload_n 1, 1) := by decide +kernel
theorem dX5_mode_6 : decode cX5_mode 6 = .ok (.invokestatic 89, 3) := by decide +kernel
theorem dX5_mode_9 : decode cX5_mode 9 = .ok (.ifCond .eq 21, 3) := by decide +kernel
theorem dX5_mode_12 : decode cX5_mode 12 = .ok (.iload_n 2, 1) := by decide +kernel
theorem dX5_mode_13 : decode cX5_mode 13 = .ok (.iconst 0, 1) := by decide +kernel
theorem dX5_mode_14 : decode cX5_mode 14 = .ok (.iconst 1, 1) := by decide +kernel
theorem dX5_mode_15 : decode cX5_mode 15 = .ok (.invokestatic 81, 3) := by decide +kernel
theorem dX5_mode_18 : decode cX5_mode 18 = .ok (.ifCond .eq 12, 3) := by decide +kernel
theorem dX5_mode_21 : decode cX5_mode 21 = .ok (.aload_n 0, 1) := by decide +kernel
theorem dX5_mode_22 : decode cX5_mode 22 = .ok (.getfield 78, 3) := by decide +kernel
theorem dX5_mode_25 : decode cX5_mode 25 = .ok (.bipush 24, 2) := by decide +kernel
theorem dX5_mode_27 : decode cX5_mode 27 = .ok (.if_icmp .ne 5, 3) := by decide +kernel
theorem dX5_mode_30 : decode cX5_mode 30 = .ok (.iconst (-1), 1) := by decide +kernel
theorem dX5_mode_31 : decode cX5_mode 31 = .ok (.ireturn, 1) := by decide +kernel
theorem dX5_mode_32 : decode cX5_mode 32 = .ok (.aload_n 0, 1) := by decide +kernel
theorem dX5_mode_33 : decode cX5_mode 33 = .ok (.iload_n 1, 1) := by decide +kernel
theorem dX5_mode_34 : decode cX5_mode 34 = .ok (.invokevirtual 145, 3) := by decide +kernel
theorem dX5_mode_37 : decode cX5_mode 37 = .ok (.istore_n 3, 1) := by decide +kernel
theorem dX5_mode_38 : decode cX5_mode 38 = .ok (.iload_n 3, 1) := by decide +kernel
theorem dX5_mode_39 : decode cX5_mode 39 = .ok (.ifCond .ge 7, 3) := by decide +kernel
theorem dX5_mode_42 : decode cX5_mode 42 = .ok (.iconst (-1), 1) := by decide +kernel
theorem dX5_mode_43 : decode cX5_mode 43 = .ok (.goto 16, 3) := by decide +kernel
theorem dX5_mode_46 : decode cX5_mode 46 = .ok (.iload_n 2, 1) := by decide +kernel
theorem dX5_mode_47 : decode cX5_mode 47 = .ok (.ifCond .ne 9, 3) := by decide +kernel
theorem dX5_mode_50 : decode cX5_mode 50 = .ok (.iload_n 3, 1) := by decide +kernel
theorem dX5_mode_51 : decode cX5_mode 51 = .ok (.iconst 3, 1) := by decide +kernel
theorem dX5_mode_52 : decode cX5_mode 52 = .ok (.idiv, 1) := by decide +kernel
theorem dX5_mode_53 : decode cX5_mode 53 = .ok (.goto 6, 3) := by decide +kernel
theorem dX5_mode_56 : decode cX5_mode 56 = .ok (.iload_n 3, 1) := by decide +kernel
theorem dX5_mode_57 : decode cX5_mode 57 = .ok (.iconst 3, 1) := by decide +kernel
theorem dX5_mode_58 : decode cX5_mode 58 = .ok (.irem, 1) := by decide +kernel
theorem dX5_mode_59 : decode cX5_mode 59 = .ok (.ireturn, 1) := by decide +kernel
theorem dX5_water_0 : decode cX5_water 0 = .ok (.aload_n 0, 1) := by decide +kernel
theorem dX5_water_1 : decode cX5_water 1 = .ok (.iconst 0, 1) := by decide +kernel
theorem dX5_water_2 : decode cX5_water 2 = .ok (.putfield 75, 3) := by decide +kernel
theorem dX5_water_5 : decode cX5_water 5 = .ok (.iload_n 1, 1) := by decide +kernel
theorem dX5_water_6 : decode cX5_water 6 = .ok (.ifCond .lt 11, 3) := by decide +kernel
theorem dX5_water_9 : decode cX5_water 9 = .ok (.iload_n 1, 1) := by decide +kernel
theorem dX5_water_10 : decode cX5_water 10 = .ok (.aload_n 0, 1) := by decide +kernel
theorem dX5_water_11 : decode cX5_water 11 = .ok (.getfield 7, 3) := by decide +kernel
theorem dX5_water_14 : decode cX5_water 14 = .ok (.if_icmp .lt 6, 3) := by decide +kernel
theorem dX5_water_17 : decode cX5_water 17 = .ok (.ldc 122, 2) := by decide +kernel
theorem dX5_water_19 : decode cX5_water 19 = .ok (.ireturn, 1) := by decide +kernel
theorem dX5_water_20 : decode cX5_water 20 = .ok (.aload_n 0, 1) := by decide +kernel
theorem dX5_water_21 : decode cX5_water 21 = .ok (.iload_n 1, 1) := by decide +kernel
theorem dX5_water_22 : decode cX5_water 22 = .ok (.iconst 1, 1) := by decide +kernel
theorem dX5_water_23 : decode cX5_water 23 = .ok (.iadd, 1) := by decide +kernel
theorem dX5_water_24 : decode cX5_water 24 = .ok (.aload_n 0, 1) := by decide +kernel
theorem dX5_water_25 : decode cX5_water 25 = .ok (.getfield 19, 3) := by decide +kernel
theorem dX5_water_28 : decode cX5_water 28 = .ok (.iadd, 1) := by decide +kernel
theorem dX5_water_29 : decode cX5_water 29 = .ok (.invokevirtual 134, 3) := by decide +kernel
theorem dX5_water_32 : decode cX5_water 32 = .ok (.aload_n 0, 1) := by decide +kernel
theorem dX5_water_33 : decode cX5_water 33 = .ok (.getfield 72, 3) := by decide +kernel
theorem dX5_water_36 : decode cX5_water 36 = .ok (.sipush 369, 3) := by decide +kernel
theorem dX5_water_39 : decode cX5_water 39 = .ok (.aload_n 0, 1) := by decide +kernel
theorem dX5_water_40 : decode cX5_water 40 = .ok (.getfield 78, 3) := by decide +kernel
theorem dX5_water_43 : decode cX5_water 43 = .ok (.imul, 1) := by decide +kernel
theorem dX5_water_44 : decode cX5_water 44 = .ok (.bipush 9, 2) := by decide +kernel
theorem dX5_water_46 : decode cX5_water 46 = .ok (.iload_n 1, 1) := by decide +kernel
theorem dX5_water_47 : decode cX5_water 47 = .ok (.iconst 1, 1) := by decide +kernel
theorem dX5_water_48 : decode cX5_water 48 = .ok (.iadd, 1) := by decide +kernel
theorem dX5_water_49 : decode cX5_water 49 = .ok (.imul, 1) := by decide +kernel
theorem dX5_water_50 : decode cX5_water 50 = .ok (.iadd, 1) := by decide +kernel
theorem dX5_water_51 : decode cX5_water 51 = .ok (.iconst 3, 1) := by decide +kernel
theorem dX5_water_52 : decode cX5_water 52 = .ok (.aload_n 0, 1) := by decide +kernel
theorem dX5_water_53 : decode cX5_water 53 = .ok (.getfield 63, 3) := by decide +kernel
theorem dX5_water_56 : decode cX5_water 56 = .ok (.iconst 0, 1) := by decide +kernel
theorem dX5_water_57 : decode cX5_water 57 = .ok (.iaload, 1) := by decide +kernel
theorem dX5_water_58 : decode cX5_water 58 = .ok (.imul, 1) := by decide +kernel
theorem dX5_water_59 : decode cX5_water 59 = .ok (.iadd, 1) := by decide +kernel
theorem dX5_water_60 : decode cX5_water 60 = .ok (.aload_n 0, 1) := by decide +kernel
theorem dX5_water_61 : decode cX5_water 61 = .ok (.getfield 63, 3) := by decide +kernel
theorem dX5_water_64 : decode cX5_water 64 = .ok (.iconst 1, 1) := by decide +kernel
theorem dX5_water_65 : decode cX5_water 65 = .ok (.iaload, 1) := by decide +kernel
theorem dX5_water_66 : decode cX5_water 66 = .ok (.iadd, 1) := by decide +kernel
theorem dX5_water_67 : decode cX5_water 67 = .ok (.iaload, 1) := by decide +kernel
theorem dX5_water_68 : decode cX5_water 68 = .ok (.istore_n 2, 1) := by decide +kernel
theorem dX5_water_69 : decode cX5_water 69 = .ok (.aload_n 0, 1) := by decide +kernel
theorem dX5_water_70 : decode cX5_water 70 = .ok (.iload_n 1, 1) := by decide +kernel
theorem dX5_water_71 : decode cX5_water 71 = .ok (.aload_n 0, 1) := by decide +kernel
theorem dX5_water_72 : decode cX5_water 72 = .ok (.getfield 19, 3) := by decide +kernel
theorem dX5_water_75 : decode cX5_water 75 = .ok (.iadd, 1) := by decide +kernel
theorem dX5_water_76 : decode cX5_water 76 = .ok (.invokevirtual 134, 3) := by decide +kernel
theorem dX5_water_79 : decode cX5_water 79 = .ok (.aload_n 0, 1) := by decide +kernel
theorem dX5_water_80 : decode cX5_water 80 = .ok (.getfield 72, 3) := by decide +kernel
theorem dX5_water_83 : decode cX5_water 83 = .ok (.sipush 369, 3) := by decide +kernel
theorem dX5_water_86 : decode cX5_water 86 = .ok (.aload_n 0, 1) := by decide +kernel
theorem dX5_water_87 : decode cX5_water 87 = .ok (.getfield 78, 3) := by decide +kernel
theorem dX5_water_90 : decode cX5_water 90 = .ok (.imul, 1) := by decide +kernel
theorem dX5_water_91 : decode cX5_water 91 = .ok (.bipush 9, 2) := by decide +kernel
theorem dX5_water_93 : decode cX5_water 93 = .ok (.iload_n 1, 1) := by decide +kernel
theorem dX5_water_94 : decode cX5_water 94 = .ok (.imul, 1) := by decide +kernel
theorem dX5_water_95 : decode cX5_water 95 = .ok (.iadd, 1) := by decide +kernel
theorem dX5_water_96 : decode cX5_water 96 = .ok (.iconst 3, 1) := by decide +kernel
theorem dX5_water_97 : decode cX5_water 97 = .ok (.aload_n 0, 1) := by decide +kernel
theorem dX5_water_98 : decode cX5_water 98 = .ok (.getfield 63, 3) := by decide +kernel
theorem dX5_water_101 : decode cX5_water 101 = .ok (.iconst 0, 1) := by decide +kernel
theorem dX5_water_102 : decode cX5_water 102 = .ok (.iaload, 1) := by decide +kernel
theorem dX5_water_103 : decode cX5_water 103 = .ok (.imul, 1) := by decide +kernel
theorem dX5_water_104 : decode cX5_water 104 = .ok (.iadd, 1) := by decide +kernel
theorem dX5_water_105 : decode cX5_water 105 = .ok (.aload_n 0, 1) := by decide +kernel
theorem dX5_water_106 : decode cX5_water 106 = .ok (.getfield 63, 3) := by decide +kernel
theorem dX5_water_109 : decode cX5_water 109 = .ok (.iconst 1, 1) := by decide +kernel
theorem dX5_water_110 : decode cX5_water 110 = .ok (.iaload, 1) := by decide +kernel
theorem dX5_water_111 : decode cX5_water 111 = .ok (.iadd, 1) := by decide +kernel
theorem dX5_water_112 : decode cX5_water 112 = .ok (.iaload, 1) := by decide +kernel
theorem dX5_water_113 : decode cX5_water 113 = .ok (.istore_n 3, 1) := by decide +kernel
theorem dX5_water_114 : decode cX5_water 114 = .ok (.iload_n 2, 1) := by decide +kernel
theorem dX5_water_115 : decode cX5_water 115 = .ok (.ldc 122, 2) := by decide +kernel
theorem dX5_water_117 : decode cX5_water 117 = .ok (.if_icmp .eq 9, 3) := by decide +kernel
theorem dX5_water_120 : decode cX5_water 120 = .ok (.iload_n 3, 1) := by decide +kernel
theorem dX5_water_121 : decode cX5_water 121 = .ok (.ldc 122, 2) := by decide +kernel
theorem dX5_water_123 : decode cX5_water 123 = .ok (.if_icmp .ne 8, 3) := by decide +kernel
theorem dX5_water_126 : decode cX5_water 126 = .ok (.ldc 122, 2) := by decide +kernel
theorem dX5_water_128 : decode cX5_water 128 = .ok (.goto 6, 3) := by decide +kernel
theorem dX5_water_131 : decode cX5_water 131 = .ok (.iload_n 2, 1) := by decide +kernel
theorem dX5_water_132 : decode cX5_water 132 = .ok (.iload_n 3, 1) := by decide +kernel
theorem dX5_water_133 : decode cX5_water 133 = .ok (.isub, 1) := by decide +kernel
theorem dX5_water_134 : decode cX5_water 134 = .ok (.ireturn, 1) := by decide +kernel
theorem dX5_areModes_0 : decode cX5_areModes 0 = .ok (.iload_n 0, 1) := by decide +kernel
theorem dX5_areModes_1 : decode cX5_areModes 1 = .ok (.iconst 0, 1) := by decide +kernel
theorem dX5_areModes_2 : decode cX5_areModes 2 = .ok (.iconst 2, 1) := by decide +kernel
theorem dX5_areModes_3 : decode cX5_areModes 3 = .ok (.invokestatic 81, 3) := by decide +kernel
theorem dX5_areModes_6 : decode cX5_areModes 6 = .ok (.ifCond .eq 16, 3) := by decide +kernel
theorem dX5_areModes_9 : decode cX5_areModes 9 = .ok (.iload_n 1, 1) := by decide +kernel
theorem dX5_areModes_10 : decode cX5_areModes 10 = .ok (.iconst 0, 1) := by decide +kernel
theorem dX5_areModes_11 : decode cX5_areModes 11 = .ok (.iconst 2, 1) := by decide +kernel
theorem dX5_areModes_12 : decode cX5_areModes 12 = .ok (.invokestatic 81, 3) := by decide +kernel
theorem dX5_areModes_15 : decode cX5_areModes 15 = .ok (.ifCond .eq 7, 3) := by decide +kernel
theorem dX5_areModes_18 : decode cX5_areModes 18 = .ok (.iconst 1, 1) := by decide +kernel
theorem dX5_areModes_19 : decode cX5_areModes 19 = .ok (.goto 4, 3) := by decide +kernel
theorem dX5_areModes_22 : decode cX5_areModes 22 = .ok (.iconst 0, 1) := by decide +kernel
theorem dX5_areModes_23 : decode cX5_areModes 23 = .ok (.ireturn, 1) := by decide +kernel
theorem dX5_isLegalNow_0 : decode cX5_isLegalNow 0 = .ok (.aload_n 0, 1) := by decide +kernel
theorem dX5_isLegalNow_1 : decode cX5_isLegalNow 1 = .ok (.aload_n 0, 1) := by decide +kernel
theorem dX5_isLegalNow_2 : decode cX5_isLegalNow 2 = .ok (.getfield 78, 3) := by decide +kernel
theorem dX5_isLegalNow_5 : decode cX5_isLegalNow 5 = .ok (.aload_n 0, 1) := by decide +kernel
theorem dX5_isLegalNow_6 : decode cX5_isLegalNow 6 = .ok (.getfield 16, 3) := by decide +kernel
theorem dX5_isLegalNow_9 : decode cX5_isLegalNow 9 = .ok (.aload_n 0, 1) := by decide +kernel
theorem dX5_isLegalNow_10 : decode cX5_isLegalNow 10 = .ok (.getfield 19, 3) := by decide +kernel
theorem dX5_isLegalNow_13 : decode cX5_isLegalNow 13 = .ok (.aload_n 0, 1) := by decide +kernel
theorem dX5_isLegalNow_14 : decode cX5_isLegalNow 14 = .ok (.getfield 63, 3) := by decide +kernel
theorem dX5_isLegalNow_17 : decode cX5_isLegalNow 17 = .ok (.iconst 0, 1) := by decide +kernel
theorem dX5_isLegalNow_18 : decode cX5_isLegalNow 18 = .ok (.iaload, 1) := by decide +kernel
theorem dX5_isLegalNow_19 : decode cX5_isLegalNow 19 = .ok (.aload_n 0, 1) := by decide +kernel
theorem dX5_isLegalNow_20 : decode cX5_isLegalNow 20 = .ok (.getfield 63, 3) := by decide +kernel
theorem dX5_isLegalNow_23 : decode cX5_isLegalNow 23 = .ok (.iconst 1, 1) := by decide +kernel
theorem dX5_isLegalNow_24 : decode cX5_isLegalNow 24 = .ok (.iaload, 1) := by decide +kernel
theorem dX5_isLegalNow_25 : decode cX5_isLegalNow 25 = .ok (.iload_n 1, 1) := by decide +kernel
theorem dX5_isLegalNow_26 : decode cX5_isLegalNow 26 = .ok (.iload_n 2, 1) := by decide +kernel
theorem dX5_isLegalNow_27 : decode cX5_isLegalNow 27 = .ok (.invokevirtual 123, 3) := by decide +kernel
theorem dX5_isLegalNow_30 : decode cX5_isLegalNow 30 = .ok (.ireturn, 1) := by decide +kernel
theorem dX5_legal_0 : decode cX5_legal 0 = .ok (.aload_n 0, 1) := by decide +kernel
theorem dX5_legal_1 : decode cX5_legal 1 = .ok (.iconst 0, 1) := by decide +kernel
theorem dX5_legal_2 : decode cX5_legal 2 = .ok (.putfield 75, 3) := by decide +kernel
theorem dX5_legal_5 : decode cX5_legal 5 = .ok (.iload_n 1, 1) := by decide +kernel
theorem dX5_legal_6 : decode cX5_legal 6 = .ok (.iload_n 2, 1) := by decide +kernel
theorem dX5_legal_7 : decode cX5_legal 7 = .ok (.invokestatic 149, 3) := by decide +kernel
theorem dX5_legal_10 : decode cX5_legal 10 = .ok (.ifCond .eq 12, 3) := by decide +kernel
theorem dX5_legal_13 : decode cX5_legal 13 = .ok (.aload_n 0, 1) := by decide +kernel
theorem dX5_legal_14 : decode cX5_legal 14 = .ok (.getfield 78, 3) := by decide +kernel
theorem dX5_legal_17 : decode cX5_legal 17 = .ok (.bipush 24, 2) := by decide +kernel
theorem dX5_legal_19 : decode cX5_legal 19 = .ok (.if_icmp .ne 7, 3) := by decide +kernel
theorem dX5_legal_22 : decode cX5_legal 22 = .ok (.iconst (-1), 1) := by decide +kernel
theorem dX5_legal_23 : decode cX5_legal 23 = .ok (.goto 17, 3) := by decide +kernel
theorem dX5_legal_26 : decode cX5_legal 26 = .ok (.aload_n 0, 1) := by decide +kernel
theorem dX5_legal_27 : decode cX5_legal 27 = .ok (.iload_n 1, 1) := by decide +kernel
theorem dX5_legal_28 : decode cX5_legal 28 = .ok (.iload_n 2, 1) := by decide +kernel
theorem dX5_legal_29 : decode cX5_legal 29 = .ok (.invokevirtual 153, 3) := by decide +kernel
theorem dX5_legal_32 : decode cX5_legal 32 = .ok (.ifCond .eq 7, 3) := by decide +kernel
theorem dX5_legal_35 : decode cX5_legal 35 = .ok (.iconst 1, 1) := by decide +kernel
theorem dX5_legal_36 : decode cX5_legal 36 = .ok (.goto 4, 3) := by decide +kernel
theorem dX5_legal_39 : decode cX5_legal 39 = .ok (.iconst 0, 1) := by decide +kernel
theorem dX5_legal_40 : decode cX5_legal 40 = .ok (.ireturn, 1) := by decide +kernel
theorem dX5_does_0 : decode cX5_does 0 = .ok (.aload_n 0, 1) := by decide +kernel
theorem dX5_does_1 : decode cX5_does 1 = .ok (.iload_n 3, 1) := by decide +kernel
theorem dX5_does_2 : decode cX5_does 2 = .ok (.aload_n 0, 1) := by decide +kernel
theorem dX5_does_3 : decode cX5_does 3 = .ok (.getfield 78, 3) := by decide +kernel
theorem dX5_does_6 : decode cX5_does 6 = .ok (.aload_n 0, 1) := by decide +kernel
theorem dX5_does_7 : decode cX5_does 7 = .ok (.getfield 63, 3) := by decide +kernel
theorem dX5_does_10 : decode cX5_does 10 = .ok (.iconst 0, 1) := by decide +kernel
theorem dX5_does_11 : decode cX5_does 11 = .ok (.iaload, 1) := by decide +kernel
theorem dX5_does_12 : decode cX5_does 12 = .ok (.aload_n 0, 1) := by decide +kernel
theorem dX5_does_13 : decode cX5_does 13 = .ok (.getfield 63, 3) := by decide +kernel
theorem dX5_does_16 : decode cX5_does 16 = .ok (.iconst 1, 1) := by decide +kernel
theorem dX5_does_17 : decode cX5_does 17 = .ok (.iaload, 1) := by decide +kernel
