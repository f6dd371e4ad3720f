theorem dX5_init_0 : decode cX5_init 0 = .ok (.aload_n 0, 1) := by decide +kernel
theorem dX5_init_1 : decode cX5_init 1 = .ok (.invokespecial 1, 3) := by decide +kernel
theorem dX5_init_4 : decode cX5_init 4 = .ok (.aload_n 0, 1) := by decide +kernel
theorem dX5_init_5 : decode cX5_init 5 = .ok (.bipush 40, 2) := by decide +kernel
theorem dX5_init_7 : decode cX5_init 7 = .ok (.putfield 7, 3) := by decide +kernel
theorem dX5_init_10 : decode cX5_init 10 = .ok (.aload_n 0, 1) := by decide +kernel
theorem dX5_init_11 : decode cX5_init 11 = .ok (.bipush 40, 2) := by decide +kernel
theorem dX5_init_13 : decode cX5_init 13 = .ok (.putfield 13, 3) := by decide +kernel
theorem dX5_init_16 : decode cX5_init 16 = .ok (.aload_n 0, 1) := by decide +kernel
theorem dX5_init_17 : decode cX5_init 17 = .ok (.bipush 20, 2) := by decide +kernel
theorem dX5_init_19 : decode cX5_init 19 = .ok (.putfield 16, 3) := by decide +kernel
theorem dX5_init_22 : decode cX5_init 22 = .ok (.aload_n 0, 1) := by decide +kernel
theorem dX5_init_23 : decode cX5_init 23 = .ok (.bipush 20, 2) := by decide +kernel
theorem dX5_init_25 : decode cX5_init 25 = .ok (.putfield 19, 3) := by decide +kernel
theorem dX5_init_28 : decode cX5_init 28 = .ok (.aload_n 0, 1) := by decide +kernel
theorem dX5_init_29 : decode cX5_init 29 = .ok (.bipush 40, 2) := by decide +kernel
theorem dX5_init_31 : decode cX5_init 31 = .ok (.putfield 22, 3) := by decide +kernel
theorem dX5_init_34 : decode cX5_init 34 = .ok (.aload_n 0, 1) := by decide +kernel
theorem dX5_init_35 : decode cX5_init 35 = .ok (.bipush 40, 2) := by decide +kernel
theorem dX5_init_37 : decode cX5_init 37 = .ok (.putfield 25, 3) := by decide +kernel
theorem dX5_init_40 : decode cX5_init 40 = .ok (.aload_n 0, 1) := by decide +kernel
theorem dX5_init_41 : decode cX5_init 41 = .ok (.bipush 24, 2) := by decide +kernel
theorem dX5_init_43 : decode cX5_init 43 = .ok (.newarray .int, 2) := by decide +kernel
theorem dX5_init_45 : decode cX5_init 45 = .ok (.putfield 28, 3) := by decide +kernel
theorem dX5_init_48 : decode cX5_init 48 = .ok (.aload_n 0, 1) := by decide +kernel
theorem dX5_init_49 : decode cX5_init 49 = .ok (.bipush 24, 2) := by decide +kernel
theorem dX5_init_51 : decode cX5_init 51 = .ok (.newarray .int, 2) := by decide +kernel
theorem dX5_init_53 : decode cX5_init 53 = .ok (.putfield 32, 3) := by decide +kernel
theorem dX5_init_56 : decode cX5_init 56 = .ok (.aload_n 0, 1) := by decide +kernel
theorem dX5_init_57 : decode cX5_init 57 = .ok (.bipush 24, 2) := by decide +kernel
theorem dX5_init_59 : decode cX5_init 59 = .ok (.newarray .int, 2) := by decide +kernel
theorem dX5_init_61 : decode cX5_init 61 = .ok (.putfield 35, 3) := by decide +kernel
theorem dX5_init_64 : decode cX5_init 64 = .ok (.aload_n 0, 1) := by decide +kernel
theorem dX5_init_65 : decode cX5_init 65 = .ok (.iconst 2, 1) := by decide +kernel
theorem dX5_init_66 : decode cX5_init 66 = .ok (.newarray .int, 2) := by decide +kernel
theorem dX5_init_68 : decode cX5_init 68 = .ok (.putfield 38, 3) := by decide +kernel
theorem dX5_init_71 : decode cX5_init 71 = .ok (.aload_n 0, 1) := by decide +kernel
theorem dX5_init_72 : decode cX5_init 72 = .ok (.iconst 2, 1) := by decide +kernel
theorem dX5_init_73 : decode cX5_init 73 = .ok (.newarray .int, 2) := by decide +kernel
theorem dX5_init_75 : decode cX5_init 75 = .ok (.putfield 41, 3) := by decide +kernel
theorem dX5_init_78 : decode cX5_init 78 = .ok (.aload_n 0, 1) := by decide +kernel
theorem dX5_init_79 : decode cX5_init 79 = .ok (.iconst 2, 1) := by decide +kernel
theorem dX5_init_80 : decode cX5_init 80 = .ok (.newarray .int, 2) := by decide +kernel
theorem dX5_init_82 : decode cX5_init 82 = .ok (.putfield 44, 3) := by decide +kernel
theorem dX5_init_85 : decode cX5_init 85 = .ok (.aload_n 0, 1) := by decide +kernel
theorem dX5_init_86 : decode cX5_init 86 = .ok (.iconst 2, 1) := by decide +kernel
theorem dX5_init_87 : decode cX5_init 87 = .ok (.newarray .int, 2) := by decide +kernel
theorem dX5_init_89 : decode cX5_init 89 = .ok (.putfield 47, 3) := by decide +kernel
theorem dX5_init_92 : decode cX5_init 92 = .ok (.aload_n 0, 1) := by decide +kernel
theorem dX5_init_93 : decode cX5_init 93 = .ok (.iconst 2, 1) := by decide +kernel
theorem dX5_init_94 : decode cX5_init 94 = .ok (.newarray .int, 2) := by decide +kernel
theorem dX5_init_96 : decode cX5_init 96 = .ok (.putfield 50, 3) := by decide +kernel
theorem dX5_init_99 : decode cX5_init 99 = .ok (.aload_n 0, 1) := by decide +kernel
theorem dX5_init_100 : decode cX5_init 100 = .ok (.bipush 48, 2) := by decide +kernel
theorem dX5_init_102 : decode cX5_init 102 = .ok (.newarray .boolean, 2) := by decide +kernel
theorem dX5_init_104 : decode cX5_init 104 = .ok (.putfield 53, 3) := by decide +kernel
theorem dX5_init_107 : decode cX5_init 107 = .ok (.aload_n 0, 1) := by decide +kernel
theorem dX5_init_108 : decode cX5_init 108 = .ok (.iconst 3, 1) := by decide +kernel
theorem dX5_init_109 : decode cX5_init 109 = .ok (.newarray .int, 2) := by decide +kernel
theorem dX5_init_111 : decode cX5_init 111 = .ok (.putfield 57, 3) := by decide +kernel
theorem dX5_init_114 : decode cX5_init 114 = .ok (.aload_n 0, 1) := by decide +kernel
theorem dX5_init_115 : decode cX5_init 115 = .ok (.bipush 72, 2) := by decide +kernel
theorem dX5_init_117 : decode cX5_init 117 = .ok (.newarray .int, 2) := by decide +kernel
theorem dX5_init_119 : decode cX5_init 119 = .ok (.putfield 60, 3) := by decide +kernel
theorem dX5_init_122 : decode cX5_init 122 = .ok (.aload_n 0, 1) := by decide +kernel
theorem dX5_init_123 : decode cX5_init 123 = .ok (.iconst 2, 1) := by decide +kernel
theorem dX5_init_124 : decode cX5_init 124 = .ok (.newarray .int, 2) := by decide +kernel
theorem dX5_init_126 : decode cX5_init 126 = .ok (.putfield 63, 3) := by decide +kernel
theorem dX5_init_129 : decode cX5_init 129 = .ok (.aload_n 0, 1) := by decide +kernel
theorem dX5_init_130 : decode cX5_init 130 = .ok (.iconst 2, 1) := by decide +kernel
theorem dX5_init_131 : decode cX5_init 131 = .ok (.newarray .int, 2) := by decide +kernel
theorem dX5_init_133 : decode cX5_init 133 = .ok (.putfield 66, 3) := by decide +kernel
theorem dX5_init_136 : decode cX5_init 136 = .ok (.aload_n 0, 1) := by decide +kernel
theorem dX5_init_137 : decode cX5_init 137 = .ok (.sipush 27675, 3) := by decide +kernel
theorem dX5_init_140 : decode cX5_init 140 = .ok (.newarray .int, 2) := by decide +kernel
theorem dX5_init_142 : decode cX5_init 142 = .ok (.putfield 69, 3) := by decide +kernel
theorem dX5_init_145 : decode cX5_init 145 = .ok (.aload_n 0, 1) := by decide +kernel
theorem dX5_init_146 : decode cX5_init 146 = .ok (.sipush 9225, 3) := by decide +kernel
theorem dX5_init_149 : decode cX5_init 149 = .ok (.newarray .int, 2) := by decide +kernel
theorem dX5_init_151 : decode cX5_init 151 = .ok (.putfield 72, 3) := by decide +kernel
theorem dX5_init_154 : decode cX5_init 154 = .ok (.iconst 0, 1) := by decide +kernel
theorem dX5_init_155 : decode cX5_init 155 = .ok (.istore_n 1, 1) := by decide +kernel
theorem dX5_init_156 : decode cX5_init 156 = .ok (.iload_n 1, 1) := by decide +kernel
theorem dX5_init_157 : decode cX5_init 157 = .ok (.iconst 2, 1) := by decide +kernel
theorem dX5_init_158 : decode cX5_init 158 = .ok (.if_icmp .ge 46, 3) := by decide +kernel
theorem dX5_init_161 : decode cX5_init 161 = .ok (.aload_n 0, 1) := by decide +kernel
theorem dX5_init_162 : decode cX5_init 162 = .ok (.getfield 38, 3) := by decide +kernel
theorem dX5_init_165 : decode cX5_init 165 = .ok (.iload_n 1, 1) := by decide +kernel
theorem dX5_init_166 : decode cX5_init 166 = .ok (.iconst 3, 1) := by decide +kernel
theorem dX5_init_167 : decode cX5_init 167 = .ok (.iastore, 1) := by decide +kernel
theorem dX5_init_168 : decode cX5_init 168 = .ok (.aload_n 0, 1) := by decide +kernel
theorem dX5_init_169 : decode cX5_init 169 = .ok (.getfield 41, 3) := by decide +kernel
theorem dX5_init_172 : decode cX5_init 172 = .ok (.iload_n 1, 1) := by decide +kernel
theorem dX5_init_173 : decode cX5_init 173 = .ok (.bipush 10, 2) := by decide +kernel
theorem dX5_init_175 : decode cX5_init 175 = .ok (.iastore, 1) := by decide +kernel
theorem dX5_init_176 : decode cX5_init 176 = .ok (.aload_n 0, 1) := by decide +kernel
theorem dX5_init_177 : decode cX5_init 177 = .ok (.getfield 44, 3) := by decide +kernel
theorem dX5_init_180 : decode cX5_init 180 = .ok (.iload_n 1, 1) := by decide +kernel
theorem dX5_init_181 : decode cX5_init 181 = .ok (.iconst 2, 1) := by decide +kernel
theorem dX5_init_182 : decode cX5_init 182 = .ok (.iastore, 1) := by decide +kernel
theorem dX5_init_183 : decode cX5_init 183 = .ok (.aload_n 0, 1) := by decide +kernel
theorem dX5_init_184 : decode cX5_init 184 = .ok (.getfield 47, 3) := by decide +kernel
theorem dX5_init_187 : decode cX5_init 187 = .ok (.iload_n 1, 1) := by decide +kernel
theorem dX5_init_188 : decode cX5_init 188 = .ok (.bipush 10, 2) := by decide +kernel
theorem dX5_init_190 : decode cX5_init 190 = .ok (.iastore, 1) := by decide +kernel
theorem dX5_init_191 : decode cX5_init 191 = .ok (.aload_n 0, 1) := by decide +kernel
theorem dX5_init_192 : decode cX5_init 192 = .ok (.getfield 50, 3) := by decide +kernel
theorem dX5_init_195 : decode cX5_init 195 = .ok (.iload_n 1, 1) := by decide +kernel
theorem dX5_init_196 : decode cX5_init 196 = .ok (.iconst 5, 1) := by decide +kernel
theorem dX5_init_197 : decode cX5_init 197 = .ok (.iastore, 1) := by decide +kernel
theorem dX5_init_198 : decode cX5_init 198 = .ok (.iinc 1 1, 3) := by decide +kernel
theorem dX5_init_201 : decode cX5_init 201 = .ok (.goto (-45), 3) := by decide +kernel
theorem dX5_init_204 : decode cX5_init 204 = .ok (.aload_n 0, 1) := by decide +kernel
theorem dX5_init_205 : decode cX5_init 205 = .ok (.getfield 57, 3) := by decide +kernel
theorem dX5_init_208 : decode cX5_init 208 = .ok (.iconst 0, 1) := by decide +kernel
theorem dX5_init_209 : decode cX5_init 209 = .ok (.iconst 1, 1) := by decide +kernel
theorem dX5_init_210 : decode cX5_init 210 = .ok (.iastore, 1) := by decide +kernel
theorem dX5_init_211 : decode cX5_init 211 = .ok (.iconst 0, 1) := by decide +kernel
theorem dX5_init_212 : decode cX5_init 212 = .ok (.istore_n 1, 1) := by decide +kernel
theorem dX5_init_213 : decode cX5_init 213 = .ok (.iload_n 1, 1) := by decide +kernel
theorem dX5_init_214 : decode cX5_init 214 = .ok (.bipush 72, 2) := by decide +kernel
theorem dX5_init_216 : decode cX5_init 216 = .ok (.if_icmp .ge 17, 3) := by decide +kernel
theorem dX5_init_219 : decode cX5_init 219 = .ok (.aload_n 0, 1) := by decide +kernel
theorem dX5_init_220 : decode cX5_init 220 = .ok (.getfield 60, 3) := by decide +kernel
theorem dX5_init_223 : decode cX5_init 223 = .ok (.iload_n 1, 1) := by decide +kernel
theorem dX5_init_224 : decode cX5_init 224 = .ok (.bipush 10, 2) := by decide +kernel
theorem dX5_init_226 : decode cX5_init 226 = .ok (.iastore, 1) := by decide +kernel
theorem dX5_init_227 : decode cX5_init 227 = .ok (.iinc 1 1, 3) := by decide +kernel
theorem dX5_init_230 : decode cX5_init 230 = .ok (.goto (-17), 3) := by decide +kernel
theorem dX5_init_233 : decode cX5_init 233 = .ok (.return_, 1) := by decide +kernel
theorem dX5_thrown_0 : decode cX5_thrown 0 = .ok (.aload_n 0, 1) := by decide +kernel
theorem dX5_thrown_1 : decode cX5_thrown 1 = .ok (.getfield 75, 3) := by decide +kernel
theorem dX5_thrown_4 : decode cX5_thrown 4 = .ok (.ireturn, 1) := by decide +kernel
theorem dX5_within_0 : decode cX5_within 0 = .ok (.iload_n 0, 1) := by decide +kernel
theorem dX5_within_1 : decode cX5_within 1 = .ok (.iload_n 1, 1) := by decide +kernel
theorem dX5_within_2 : decode cX5_within 2 = .ok (.if_icmp .lt 12, 3) := by decide +kernel
theorem dX5_within_5 : decode cX5_within 5 = .ok (.iload_n 0, 1) := by decide +kernel
theorem dX5_within_6 : decode cX5_within 6 = .ok (.iload_n 2, 1) := by decide +kernel
theorem dX5_within_7 : decode cX5_within 7 = .ok (.if_icmp .gt 7, 3) := by decide +kernel
theorem dX5_within_10 : decode cX5_within 10 = .ok (.iconst 1, 1) := by decide +kernel
theorem dX5_within_11 : decode cX5_within 11 = .ok (.goto 4, 3) := by decide +kernel
theorem dX5_within_14 : decode cX5_within 14 = .ok (.iconst 0, 1) := by decide +kernel
theorem dX5_within_15 : decode cX5_within 15 = .ok (.ireturn, 1) := by decide +kernel
theorem dX5_lakes_0 : decode cX5_lakes 0 = .ok (.aload_n 0, 1) := by decide +kernel
theorem dX5_lakes_1 : decode cX5_lakes 1 = .ok (.iconst 0, 1) := by decide +kernel
theorem dX5_lakes_2 : decode cX5_lakes 2 = .ok (.putfield 75, 3) := by decide +kernel
theorem dX5_lakes_5 : decode cX5_lakes 5 = .ok (.aload_n 0, 1) := by decide +kernel
theorem dX5_lakes_6 : decode cX5_lakes 6 = .ok (.getfield 78, 3) := by decide +kernel
theorem dX5_lakes_9 : decode cX5_lakes 9 = .ok (.ifCond .gt 42, 3) := by decide +kernel
theorem dX5_lakes_12 : decode cX5_lakes 12 = .ok (.iload_n 1, 1) := by decide +kernel
theorem dX5_lakes_13 : decode cX5_lakes 13 = .ok (.iconst 1, 1) := by decide +kernel
theorem dX5_lakes_14 : decode cX5_lakes 14 = .ok (.bipush 40, 2) := by decide +kernel
theorem dX5_lakes_16 : decode cX5_lakes 16 = .ok (.invokestatic 81, 3) := by decide +kernel
theorem dX5_lakes_19 : decode cX5_lakes 19 = .ok (.ifCond .eq 32, 3) := by decide +kernel
theorem dX5_lakes_22 : decode cX5_lakes 22 = .ok (.iload_n 2, 1) := by decide +kernel
theorem dX5_lakes_23 : decode cX5_lakes 23 = .ok (.iconst 1, 1) := by decide +kernel
theorem dX5_lakes_24 : decode cX5_lakes 24 = .ok (.bipush 40, 2) := by decide +kernel
theorem dX5_lakes_26 : decode cX5_lakes 26 = .ok (.invokestatic 81, 3) := by decide +kernel
theorem dX5_lakes_29 : decode cX5_lakes 29 = .ok (.ifCond .eq 22, 3) := by decide +kernel
theorem dX5_lakes_32 : decode cX5_lakes 32 = .ok (.iload_n 3, 1) := by decide +kernel
theorem dX5_lakes_33 : decode cX5_lakes 33 = .ok (.iconst 0, 1) := by decide +kernel
theorem dX5_lakes_34 : decode cX5_lakes 34 = .ok (.iload_n 1, 1) := by decide +kernel
theorem dX5_lakes_35 : decode cX5_lakes 35 = .ok (.invokestatic 81, 3) := by decide +kernel
theorem dX5_lakes_38 : decode cX5_lakes 38 = .ok (.ifCond .eq 13, 3) := by decide +kernel
theorem dX5_lakes_41 : decode cX5_lakes 41 = .ok (.iload 4, 2) := by decide +kernel
theorem dX5_lakes_43 : decode cX5_lakes 43 = .ok (.iconst 0, 1) := by decide +kernel
theorem dX5_lakes_44 : decode cX5_lakes 44 = .ok (.iload_n 2, 1) := by decide +kernel
theorem dX5_lakes_45 : decode cX5_lakes 45 = .ok (.invokestatic 81, 3) := by decide +kernel
theorem dX5_lakes_48 : decode cX5_lakes 48 = .ok (.ifCond .ne 5, 3) := by decide +kernel
theorem dX5_lakes_51 : decode cX5_lakes 51 = .ok (.iconst 0, 1) := by decide +kernel
theorem dX5_lakes_52 : decode cX5_lakes 52 = .ok (.ireturn, 1) := by decide +kernel
theorem dX5_lakes_53 : decode cX5_lakes 53 = .ok (.aload_n 0, 1) := by decide +kernel
theorem dX5_lakes_54 : decode cX5_lakes 54 = .ok (.iload_n 1, 1) := by decide +kernel
theorem dX5_lakes_55 : decode cX5_lakes 55 = .ok (.putfield 7, 3) := by decide +kernel
theorem dX5_lakes_58 : decode cX5_lakes 58 = .ok (.aload_n 0, 1) := by decide +kernel
theorem dX5_lakes_59 : decode cX5_lakes 59 = .ok (.iload_n 2, 1) := by decide +kernel
theorem dX5_lakes_60 : decode cX5_lakes 60 = .ok (.putfield 13, 3) := by decide +kernel
theorem dX5_lakes_63 : decode cX5_lakes 63 = .ok (.aload_n 0, 1) := by decide +kernel
theorem dX5_lakes_64 : decode cX5_lakes 64 = .ok (.iload_n 3, 1) := by decide +kernel
theorem dX5_lakes_65 : decode cX5_lakes 65 = .ok (.putfield 16, 3) := by decide +kernel
theorem dX5_lakes_68 : decode cX5_lakes 68 = .ok (.aload_n 0, 1) := by decide +kernel
theorem dX5_lakes_69 : decode cX5_lakes 69 = .ok (.iload 4, 2) := by decide +kernel
theorem dX5_lakes_71 : decode cX5_lakes 71 = .ok (.putfield 19, 3) := by decide +kernel
theorem dX5_lakes_74 : decode cX5_lakes 74 = .ok (.iconst 1, 1) := by decide +kernel
theorem dX5_lakes_75 : decode cX5_lakes 75 = .ok (.ireturn, 1) := by decide +kernel
theorem dX5_speeds_0 : decode cX5_speeds 0 = .ok (.aload_n 0, 1) := by decide +kernel
theorem dX5_speeds_1 : decode cX5_speeds 1 = .ok (.iconst 0, 1) := by decide +kernel
theorem dX5_speeds_2 : decode cX5_speeds 2 = .ok (.putfield 75, 3) := by decide +kernel
theorem dX5_speeds_5 : decode cX5_speeds 5 = .ok (.iload_n 1, 1) := by decide +kernel
theorem dX5_speeds_6 : decode cX5_speeds 6 = .ok (.iconst 1, 1) := by decide +kernel
theorem dX5_speeds_7 : decode cX5_speeds 7 = .ok (.bipush 40, 2) := by decide +kernel
theorem dX5_speeds_9 : decode cX5_speeds 9 = .ok (.invokestatic 81, 3) := by decide +kernel
theorem dX5_speeds_12 : decode cX5_speeds 12 = .ok (.ifCond .eq 13, 3) := by decide +kernel
theorem dX5_speeds_15 : decode cX5_speeds 15 = .ok (.iload_n 2, 1) := by decide +kernel
theorem dX5_speeds_16 : decode cX5_speeds 16 = .ok (.iconst 1, 1) := by decide +kernel
theorem dX5_speeds_17 : decode cX5_speeds 17 = .ok (.bipush 40, 2) := by decide +kernel
theorem dX5_speeds_19 : decode cX5_speeds 19 = .ok (.invokestatic 81, 3) := by decide +kernel
theorem dX5_speeds_22 : decode cX5_speeds 22 = .ok (.ifCond .ne 5, 3) := by decide +kernel
theorem dX5_speeds_25 : decode cX5_speeds 25 = .ok (.iconst 0, 1) := by decide +kernel
theorem dX5_speeds_26 : decode cX5_speeds 26 = .ok (.ireturn, 1) := by decide +kernel
theorem dX5_speeds_27 : decode cX5_speeds 27 = .ok (.aload_n 0, 1) := by decide +kernel
theorem dX5_speeds_28 : decode cX5_speeds 28 = .ok (.iload_n 1, 1) := by decide +kernel
theorem dX5_speeds_29 : decode cX5_speeds 29 = .ok (.putfield 22, 3) := by decide +kernel
theorem dX5_speeds_32 : decode cX5_speeds 32 = .ok (.aload_n 0, 1) := by decide +kernel
theorem dX5_speeds_33 : decode cX5_speeds 33 = .ok (.iload_n 2, 1) := by decide +kernel
theorem dX5_speeds_34 : decode cX5_speeds 34 = .ok (.putfield 25, 3) := by decide +kernel
theorem dX5_speeds_37 : decode cX5_speeds 37 = .ok (.iconst 1, 1) := by decide +kernel
theorem dX5_speeds_38 : decode cX5_speeds 38 = .ok (.ireturn, 1) := by decide +kernel
theorem dX5_isHour_0 : decode cX5_isHour 0 = .ok (.iload_n 0, 1) := by decide +kernel
theorem dX5_isHour_1 : decode cX5_isHour 1 = .ok (.iconst 0, 1) := by decide +kernel
theorem dX5_isHour_2 : decode cX5_isHour 2 = .ok (.bipush 23, 2) := by decide +kernel
theorem dX5_isHour_4 : decode cX5_isHour 4 = .ok (.invokestatic 81, 3) := by decide +kernel
theorem dX5_isHour_7 : decode cX5_isHour 7 = .ok (.ireturn, 1) := by decide +kernel
theorem dX5_flows_0 : decode cX5_flows 0 = .ok (.aload_n 0, 1) := by decide +kernel
theorem dX5_flows_1 : decode cX5_flows 1 = .ok (.iconst 0, 1) := by decide +kernel
theorem dX5_flows_2 : decode cX5_flows 2 = .ok (.putfield 75, 3) := by decide +kernel
theorem dX5_flows_5 : decode cX5_flows 5 = .ok (.iload_n 1, 1) := by decide +kernel
theorem dX5_flows_6 : decode cX5_flows 6 = .ok (.invokestatic 85, 3) := by decide +kernel
theorem dX5_flows_9 : decode cX5_flows 9 = .ok (.ifCond .eq 23, 3) := by decide +kernel
theorem dX5_flows_12 : decode cX5_flows 12 = .ok (.iload_n 2, 1) := by decide +kernel
theorem dX5_flows_13 : decode cX5_flows 13 = .ok (.iconst 0, 1) := by decide +kernel
theorem dX5_flows_14 : decode cX5_flows 14 = .ok (.bipush 9, 2) := by decide +kernel
theorem dX5_flows_16 : decode cX5_flows 16 = .ok (.invokestatic 81, 3) := by decide +kernel
theorem dX5_flows_19 : decode cX5_flows 19 = .ok (.ifCond .eq 13, 3) := by decide +kernel
theorem dX5_flows_22 : decode cX5_flows 22 = .ok (.iload_n 3, 1) := by decide +kernel
theorem dX5_flows_23 : decode cX5_flows 23 = .ok (.iconst 0, 1) := by decide +kernel
theorem dX5_flows_24 : decode cX5_flows 24 = .ok (.bipush 9, 2) := by decide +kernel
theorem dX5_flows_26 : decode cX5_flows 26 = .ok (.invokestatic 81, 3) := by decide +kernel
theorem dX5_flows_29 : decode cX5_flows 29 = .ok (.ifCond .ne 5, 3) := by decide +kernel
theorem dX5_flows_32 : decode cX5_flows 32 = .ok (.iconst 0, 1) := by decide +kernel
theorem dX5_flows_33 : decode cX5_flows 33 = .ok (.ireturn, 1) := by decide +kernel
theorem dX5_flows_34 : decode cX5_flows 34 = .ok (.aload_n 0, 1) := by decide +kernel
theorem dX5_flows_35 : decode cX5_flows 35 = .ok (.getfield 28, 3) := by decide +kernel
theorem dX5_flows_38 : decode cX5_flows 38 = .ok (.iload_n 1, 1) := by decide +kernel
theorem dX5_flows_39 : decode cX5_flows 39 = .ok (.iload_n 2, 1) := by decide +kernel
theorem dX5_flows_40 : decode cX5_flows 40 = .ok (.iastore, 1) := by decide +kernel
theorem dX5_flows_41 : decode cX5_flows 41 = .ok (.aload_n 0, 1) := by decide +kernel
theorem dX5_flows_42 : decode cX5_flows 42 = .ok (.getfield 32, 3) := by decide +kernel
theorem dX5_flows_45 : decode cX5_flows 45 = .ok (.iload_n 1, 1) := by decide +kernel
theorem dX5_flows_46 : decode cX5_flows 46 = .ok (.iload_n 3, 1) := by decide +kernel
theorem dX5_flows_47 : decode cX5_flows 47 = .ok (.iastore, 1) := by decide +kernel
theorem dX5_flows_48 : decode cX5_flows 48 = .ok (.iconst 1, 1) := by decide +kernel
theorem dX5_flows_49 : decode cX5_flows 49 = .ok (.ireturn, 1) := by decide +kernel
theorem dX5_machine_0 : decode cX5_machine 0 = .ok (.aload_n 0, 1) := by decide +kernel
theorem dX5_machine_1 : decode cX5_machine 1 = .ok (.iconst 0, 1) := by decide +kernel
theorem dX5_machine_2 : decode cX5_machine 2 = .ok (.putfield 75, 3) := by decide +kernel
theorem dX5_machine_5 : decode cX5_machine 5 = .ok (.iload_n 1, 1) := by decide +kernel
theorem dX5_machine_6 : decode cX5_machine 6 = .ok (.iconst 0, 1) := by decide +kernel
theorem dX5_machine_7 : decode cX5_machine 7 = .ok (.iconst 1, 1) := by decide +kernel
theorem dX5_machine_8 : decode cX5_machine 8 = .ok (.invokestatic 81, 3) := by decide +kernel
theorem dX5_machine_11 : decode cX5_machine 11 = .ok (.ifCond .eq 56, 3) := by decide +kernel
theorem dX5_machine_14 : decode cX5_machine 14 = .ok (.iload_n 2, 1) := by decide +kernel
theorem dX5_machine_15 : decode cX5_machine 15 = .ok (.iconst 0, 1) := by decide +kernel
theorem dX5_machine_16 : decode cX5_machine 16 = .ok (.bipush 99, 2) := by decide +kernel
theorem dX5_machine_18 : decode cX5_machine 18 = .ok (.invokestatic 81, 3) := by decide +kernel
theorem dX5_machine_21 : decode cX5_machine 21 = .ok (.ifCond .eq 46, 3) := by decide +kernel
theorem dX5_machine_24 : decode cX5_machine 24 = .ok (.iload_n 3, 1) := by decide +kernel
theorem dX5_machine_25 : decode cX5_machine 25 = .ok (.iconst 0, 1) := by decide +kernel
theorem dX5_machine_26 : decode cX5_machine 26 = .ok (.bipush 99, 2) := by decide +kernel
theorem dX5_machine_28 : decode cX5_machine 28 = .ok (.invokestatic 81, 3) := by decide +kernel
theorem dX5_machine_31 : decode cX5_machine 31 = .ok (.ifCond .eq 36, 3) := by decide +kernel
theorem dX5_machine_34 : decode cX5_machine 34 = .ok (.iload 4, 2) := by decide +kernel
theorem dX5_machine_36 : decode cX5_machine 36 = .ok (.iconst 0, 1) := by decide +kernel
theorem dX5_machine_37 : decode cX5_machine 37 = .ok (.bipush 99, 2) := by decide +kernel
theorem dX5_machine_39 : decode cX5_machine 39 = .ok (.invokestatic 81, 3) := by decide +kernel
theorem dX5_machine_42 : decode cX5_machine 42 = .ok (.ifCond .eq 25, 3) := by decide +kernel
theorem dX5_machine_45 : decode cX5_machine 45 = .ok (.iload 5, 2) := by decide +kernel
theorem dX5_machine_47 : decode cX5_machine 47 = .ok (.iconst 0, 1) := by decide +kernel
theorem dX5_machine_48 : decode cX5_machine 48 = .ok (.bipush 99, 2) := by decide +kernel
theorem dX5_machine_50 : decode cX5_machine 50 = .ok (.invokestatic 81, 3) := by decide +kernel
theorem dX5_machine_53 : decode cX5_machine 53 = .ok (.ifCond .eq 14, 3) := by decide +kernel
theorem dX5_machine_56 : decode cX5_machine 56 = .ok (.iload 6, 2) := by decide +kernel
theorem dX5_machine_58 : decode cX5_machine 58 = .ok (.iconst 0, 1) := by decide +kernel
theorem dX5_machine_59 : decode cX5_machine 59 = .ok (.bipush 99, 2) := by decide +kernel
theorem dX5_machine_61 : decode cX5_machine 61 = .ok (.invokestatic 81, 3) := by decide +kernel
theorem dX5_machine_64 : decode cX5_machine 64 = .ok (.ifCond .ne 5, 3) := by decide +kernel
theorem dX5_machine_67 : decode cX5_machine 67 = .ok (.iconst 0, 1) := by decide +kernel
theorem dX5_machine_68 : decode cX5_machine 68 = .ok (.ireturn, 1) := by decide +kernel
theorem dX5_machine_69 : decode cX5_machine 69 = .ok (.aload_n 0, 1) := by decide +kernel
theorem dX5_machine_70 : decode cX5_machine 70 = .ok (.getfield 38, 3) := by decide +kernel
theorem dX5_machine_73 : decode cX5_machine 73 = .ok (.iload_n 1, 1) := by decide +kernel
theorem dX5_machine_74 : decode cX5_machine 74 = .ok (.iload_n 2, 1) := by decide +kernel
theorem dX5_machine_75 : decode cX5_machine 75 = .ok (.iastore, 1) := by decide +kernel
theorem dX5_machine_76 : decode cX5_machine 76 = .ok (.aload_n 0, 1) := by decide +kernel
theorem dX5_machine_77 : decode cX5_machine 77 = .ok (.getfield 41, 3) := by decide +kernel
theorem dX5_machine_80 : decode cX5_machine 80 = .ok (.iload_n 1, 1) := by decide +kernel
theorem dX5_machine_81 : decode cX5_machine 81 = .ok (.iload_n 3, 1) := by decide +kernel
theorem dX5_machine_82 : decode cX5_machine 82 = .ok (.iastore, 1) := by decide +kernel
theorem dX5_machine_83 : decode cX5_machine 83 = .ok (.aload_n 0, 1) := by decide +kernel
theorem dX5_machine_84 : decode cX5_machine 84 = .ok (.getfield 44, 3) := by decide +kernel
theorem dX5_machine_87 : decode cX5_machine 87 = .ok (.iload_n 1, 1) := by decide +kernel
theorem dX5_machine_88 : decode cX5_machine 88 = .ok (.iload 4, 2) := by decide +kernel
theorem dX5_machine_90 : decode cX5_machine 90 = .ok (.iastore, 1) := by decide +kernel
theorem dX5_machine_91 : decode cX5_machine 91 = .ok (.aload_n 0, 1) := by decide +kernel
theorem dX5_machine_92 : decode cX5_machine 92 = .ok (.getfield 47, 3) := by decide +kernel
theorem dX5_machine_95 : decode cX5_machine 95 = .ok (.iload_n 1, 1) := by decide +kernel
theorem dX5_machine_96 : decode cX5_machine 96 = .ok (.iload 5, 2) := by decide +kernel
theorem dX5_machine_98 : decode cX5_machine 98 = .ok (.iastore, 1) := by decide +kernel
theorem dX5_machine_99 : decode cX5_machine 99 = .ok (.aload_n 0, 1) := by decide +kernel
theorem dX5_machine_100 : decode cX5_machine 100 = .ok (.getfield 50, 3) := by decide +kernel
theorem dX5_machine_103 : decode cX5_machine 103 = .ok (.iload_n 1, 1) := by decide +kernel
theorem dX5_machine_104 : decode cX5_machine 104 = .ok (.iload 6, 2) := by decide +kernel
theorem dX5_machine_106 : decode cX5_machine 106 = .ok (.iastore, 1) := by decide +kernel
theorem dX5_machine_107 : decode cX5_machine 107 = .ok (.iconst 1, 1) := by decide +kernel
theorem dX5_machine_108 : decode cX5_machine 108 = .ok (.ireturn, 1) := by decide +kernel
theorem dX5_out_0 : decode cX5_out 0 = .ok (.aload_n 0, 1) := by decide +kernel
theorem dX5_out_1 : decode cX5_out 1 = .ok (.iconst 0, 1) := by decide +kernel
theorem dX5_out_2 : decode cX5_out 2 = .ok (.putfield 75, 3) := by decide +kernel
theorem dX5_out_5 : decode cX5_out 5 = .ok (.iload_n 1, 1) := by decide +kernel
theorem dX5_out_6 : decode cX5_out 6 = .ok (.iconst 0, 1) := by decide +kernel
theorem dX5_out_7 : decode cX5_out 7 = .ok (.iconst 1, 1) := by decide +kernel
theorem dX5_out_8 : decode cX5_out 8 = .ok (.invokestatic 81, 3) := by decide +kernel
theorem dX5_out_11 : decode cX5_out 11 = .ok (.ifCond .eq 22, 3) := by decide +kernel
theorem dX5_out_14 : decode cX5_out 14 = .ok (.iload_n 2, 1) := by decide +kernel
theorem dX5_out_15 : decode cX5_out 15 = .ok (.invokestatic 85, 3) := by decide +kernel
theorem dX5_out_18 : decode cX5_out 18 = .ok (.ifCond .eq 15, 3) := by decide +kernel
theorem dX5_out_21 : decode cX5_out 21 = .ok (.iload_n 3, 1) := by decide +kernel
theorem dX5_out_22 : decode cX5_out 22 = .ok (.invokestatic 85, 3) := by decide +kernel
theorem dX5_out_25 : decode cX5_out 25 = .ok (.ifCond .eq 8, 3) := by decide +kernel
theorem dX5_out_28 : decode cX5_out 28 = .ok (.iload_n 2, 1) := by decide +kernel
theorem dX5_out_29 : decode cX5_out 29 = .ok (.iload_n 3, 1) := by decide +kernel
theorem dX5_out_30 : decode cX5_out 30 = .ok (.if_icmp .le 5, 3) := by decide +kernel
theorem dX5_out_33 : decode cX5_out 33 = .ok (.iconst 0, 1) := by decide +kernel
theorem dX5_out_34 : decode cX5_out 34 = .ok (.ireturn, 1) := by decide +kernel
theorem dX5_out_35 : decode cX5_out 35 = .ok (.iload_n 2, 1) := by decide +kernel
theorem dX5_out_36 : decode cX5_out 36 = .ok (.istore 5, 2) := by decide +kernel
theorem dX5_out_38 : decode cX5_out 38 = .ok (.iload 5, 2) := by decide +kernel
theorem dX5_out_40 : decode cX5_out 40 = .ok (.iload_n 3, 1) := by decide +kernel
theorem dX5_out_41 : decode cX5_out 41 = .ok (.if_icmp .gt 23, 3) := by decide +kernel
theorem dX5_out_44 : decode cX5_out 44 = .ok (.aload_n 0, 1) := by decide +kernel
theorem dX5_out_45 : decode cX5_out 45 = .ok (.getfield 53, 3) := by decide +kernel
theorem dX5_out_48 : decode cX5_out 48 = .ok (.bipush 24, 2) := by decide +kernel
theorem dX5_out_50 : decode cX5_out 50 = .ok (.iload_n 1, 1) := by decide +kernel
theorem dX5_out_51 : decode cX5_out 51 = .ok (.imul, 1) := by decide +kernel
theorem dX5_out_52 : decode cX5_out 52 = .ok (.iload 5, 2) := by decide +kernel
theorem dX5_out_54 : decode cX5_out 54 = .ok (.iadd, 1) := by decide +kernel
theorem dX5_out_55 : decode cX5_out 55 = .ok (.iload 4, 2) := by decide +kernel
theorem dX5_out_57 : decode cX5_out 57 = .ok (.bastore, 1) := by decide +kernel
theorem dX5_out_58 : decode cX5_out 58 = .ok (.iinc 5 1, 3) := by decide +kernel
theorem dX5_out_61 : decode cX5_out 61 = .ok (.goto (-23), 3) := by decide +kernel
theorem dX5_out_64 : decode cX5_out 64 = .ok (.iconst 1, 1) := by decide +kernel
theorem dX5_out_65 : decode cX5_out 65 = .ok (.ireturn, 1) := by decide +kernel
theorem dX5_reserve_0 : decode cX5_reserve 0 = .ok (.aload_n 0, 1) := by decide +kernel
theorem dX5_reserve_1 : decode cX5_reserve 1 = .ok (.iconst 0, 1) := by decide +kernel
theorem dX5_reserve_2 : decode cX5_reserve 2 = .ok (.putfield 75, 3) := by decide +kernel
theorem dX5_reserve_5 : decode cX5_reserve 5 = .ok (.iload_n 1, 1) := by decide +kernel
theorem dX5_reserve_6 : decode cX5_reserve 6 = .ok (.invokestatic 85, 3) := by decide +kernel
theorem dX5_reserve_9 : decode cX5_reserve 9 = .ok (.ifCond .eq 13, 3) := by decide +kernel
theorem dX5_reserve_12 : decode cX5_reserve 12 = .ok (.iload_n 2, 1) := by decide +kernel
theorem dX5_reserve_13 : decode cX5_reserve 13 = .ok (.iconst 0, 1) := by decide +kernel
theorem dX5_reserve_14 : decode cX5_reserve 14 = .ok (.bipush 99, 2) := by decide +kernel
theorem dX5_reserve_16 : decode cX5_reserve 16 = .ok (.invokestatic 81, 3) := by decide +kernel
theorem dX5_reserve_19 : decode cX5_reserve 19 = .ok (.ifCond .ne 5, 3) := by decide +kernel
theorem dX5_reserve_22 : decode cX5_reserve 22 = .ok (.iconst 0, 1) := by decide +kernel
theorem dX5_reserve_23 : decode cX5_reserve 23 = .ok (.ireturn, 1) := by decide +kernel
theorem dX5_reserve_24 : decode cX5_reserve 24 = .ok (.aload_n 0, 1) := by decide +kernel
theorem dX5_reserve_25 : decode cX5_reserve 25 = .ok (.getfield 35, 3) := by decide +kernel
theorem dX5_reserve_28 : decode cX5_reserve 28 = .ok (.iload_n 1, 1) := by decide +kernel
theorem dX5_reserve_29 : decode cX5_reserve 29 = .ok (.iload_n 2, 1) := by decide +kernel
theorem dX5_reserve_30 : decode cX5_reserve 30 = .ok (.iastore, 1) := by decide +kernel
theorem dX5_reserve_31 : decode cX5_reserve 31 = .ok (.iconst 1, 1) := by decide +kernel
theorem dX5_reserve_32 : decode cX5_reserve 32 = .ok (.ireturn, 1) := by decide +kernel
theorem dX5_weights_0 : decode cX5_weights 0 = .ok (.aload_n 0, 1) := by decide +kernel
theorem dX5_weights_1 : decode cX5_weights 1 = .ok (.iconst 0, 1) := by decide +kernel
theorem dX5_weights_2 : decode cX5_weights 2 = .ok (.putfield 75, 3) := by decide +kernel
theorem dX5_weights_5 : decode cX5_weights 5 = .ok (.iload_n 1, 1) := by decide +kernel
theorem dX5_weights_6 : decode cX5_weights 6 = .ok (.iconst 0, 1) := by decide +kernel
theorem dX5_weights_7 : decode cX5_weights 7 = .ok (.bipush 9, 2) := by decide +kernel
theorem dX5_weights_9 : decode cX5_weights 9 = .ok (.invokestatic 81, 3) := by decide +kernel
theorem dX5_weights_12 : decode cX5_weights 12 = .ok (.ifCond .eq 31, 3) := by decide +kernel
theorem dX5_weights_15 : decode cX5_weights 15 = .ok (.iload_n 2, 1) := by decide +kernel
theorem dX5_weights_16 : decode cX5_weights 16 = .ok (.iconst 0, 1) := by decide +kernel
theorem dX5_weights_17 : decode cX5_weights 17 = .ok (.bipush 9, 2) := by decide +kernel
theorem dX5_weights_19 : decode cX5_weights 19 = .ok (.invokestatic 81, 3) := by decide +kernel
theorem dX5_weights_22 : decode cX5_weights 22 = .ok (.ifCond .eq 21, 3) := by decide +kernel
theorem dX5_weights_25 : decode cX5_weights 25 = .ok (.iload_n 3, 1) := by decide +kernel
theorem dX5_weights_26 : decode cX5_weights 26 = .ok (.iconst 0, 1) := by decide +kernel
theorem dX5_weights_27 : decode cX5_weights 27 = .ok (.bipush 9, 2) := by decide +kernel
theorem dX5_weights_29 : decode cX5_weights 29 = .ok (.invokestatic 81, 3) := by decide +kernel
theorem dX5_weights_32 : decode cX5_weights 32 = .ok (.ifCond .eq 11, 3) := by decide +kernel
theorem dX5_weights_35 : decode cX5_weights 35 = .ok (.iload_n 1, 1) := by decide +kernel
theorem dX5_weights_36 : decode cX5_weights 36 = .ok (.iload_n 2, 1) := by decide +kernel
theorem dX5_weights_37 : decode cX5_weights 37 = .ok (.iadd, 1) := by decide +kernel
theorem dX5_weights_38 : decode cX5_weights 38 = .ok (.iload_n 3, 1) := by decide +kernel
theorem dX5_weights_39 : decode cX5_weights 39 = .ok (.iadd, 1) := by decide +kernel
theorem dX5_weights_40 : decode cX5_weights 40 = .ok (.ifCond .ne 5, 3) := by decide +kernel
theorem dX5_weights_43 : decode cX5_weights 43 = .ok (.iconst 0, 1) := by decide +kernel
theorem dX5_weights_44 : decode cX5_weights 44 = .ok (.ireturn, 1) := by decide +kernel
theorem dX5_weights_45 : decode cX5_weights 45 = .ok (.aload_n 0, 1) := by decide +kernel
theorem dX5_weights_46 : decode cX5_weights 46 = .ok (.getfield 57, 3) := by decide +kernel
theorem dX5_weights_49 : decode cX5_weights 49 = .ok (.iconst 0, 1) := by decide +kernel
theorem dX5_weights_50 : decode cX5_weights 50 = .ok (.iload_n 1, 1) := by decide +kernel
theorem dX5_weights_51 : decode cX5_weights 51 = .ok (.iastore, 1) := by decide +kernel
theorem dX5_weights_52 : decode cX5_weights 52 = .ok (.aload_n 0, 1) := by decide +kernel
theorem dX5_weights_53 : decode cX5_weights 53 = .ok (.getfield 57, 3) := by decide +kernel
theorem dX5_weights_56 : decode cX5_weights 56 = .ok (.iconst 1, 1) := by decide +kernel
theorem dX5_weights_57 : decode cX5_weights 57 = .ok (.iload_n 2, 1) := by decide +kernel
theorem dX5_weights_58 : decode cX5_weights 58 = .ok (.iastore, 1) := by decide +kernel
theorem dX5_weights_59 : decode cX5_weights 59 = .ok (.aload_n 0, 1) := by decide +kernel
theorem dX5_weights_60 : decode cX5_weights 60 = .ok (.getfield 57, 3) := by decide +kernel
theorem dX5_weights_63 : decode cX5_weights 63 = .ok (.iconst 2, 1) := by decide +kernel
theorem dX5_weights_64 : decode cX5_weights 64 = .ok (.iload_n 3, 1) := by decide +kernel
theorem dX5_weights_65 : decode cX5_weights 65 = .ok (.iastore, 1) := by decide +kernel
theorem dX5_weights_66 : decode cX5_weights 66 = .ok (.iconst 1, 1) := by decide +kernel
theorem dX5_weights_67 : decode cX5_weights 67 = .ok (.ireturn, 1) := by decide +kernel
theorem dX5_isWorld_0 : decode cX5_isWorld 0 = .ok (.iload_n 0, 1) := by decide +kernel
theorem dX5_isWorld_1 : decode cX5_isWorld 1 = .ok (.iconst 0, 1) := by decide +kernel
theorem dX5_isWorld_2 : decode cX5_isWorld 2 = .ok (.iconst 2, 1) := by decide +kernel
theorem dX5_isWorld_3 : decode cX5_isWorld 3 = .ok (.invokestatic 81, 3) := by decide +kernel
theorem dX5_isWorld_6 : decode cX5_isWorld 6 = .ok (.ireturn, 1) := by decide +kernel
theorem dX5_price_0 : decode cX5_price 0 = .ok (.aload_n 0, 1) := by decide +kernel
theorem dX5_price_1 : decode cX5_price 1 = .ok (.iconst 0, 1) := by decide +kernel
theorem dX5_price_2 : decode cX5_price 2 = .ok (.putfield 75, 3) := by decide +kernel
theorem dX5_price_5 : decode cX5_price 5 = .ok (.iload_n 1, 1) := by decide +kernel
theorem dX5_price_6 : decode cX5_price 6 = .ok (.invokestatic 89, 3) := by decide +kernel
theorem dX5_price_9 : decode cX5_price 9 = .ok (.ifCond .eq 22, 3) := by decide +kernel
theorem dX5_price_12 : decode cX5_price 12 = .ok (.iload_n 2, 1) := by decide +kernel
theorem dX5_price_13 : decode cX5_price 13 = .ok (.invokestatic 85, 3) := by decide +kernel
theorem dX5_price_16 : decode cX5_price 16 = .ok (.ifCond .eq 15, 3) := by decide +kernel
theorem dX5_price_19 : decode cX5_price 19 = .ok (.iload_n 3, 1) := by decide +kernel
theorem dX5_price_20 : decode cX5_price 20 = .ok (.bipush (-99), 2) := by decide +kernel
theorem dX5_price_22 : decode cX5_price 22 = .ok (.sipush 999, 3) := by decide +kernel
theorem dX5_price_25 : decode cX5_price 25 = .ok (.invokestatic 81, 3) := by decide +kernel
theorem dX5_price_28 : decode cX5_price 28 = .ok (.ifCond .ne 5, 3) := by decide +kernel
theorem dX5_price_31 : decode cX5_price 31 = .ok (.iconst 0, 1) := by decide +kernel
theorem dX5_price_32 : decode cX5_price 32 = .ok (.ireturn, 1) := by decide +kernel
theorem dX5_price_33 : decode cX5_price 33 = .ok (.aload_n 0, 1) := by decide +kernel
theorem dX5_price_34 : decode cX5_price 34 = .ok (.getfield 60, 3) := by decide +kernel
theorem dX5_price_37 : decode cX5_price 37 = .ok (.bipush 24, 2) := by decide +kernel
theorem dX5_price_39 : decode cX5_price 39 = .ok (.iload_n 1, 1) := by decide +kernel
theorem dX5_price_40 : decode cX5_price 40 = .ok (.imul, 1) := by decide +kernel
theorem dX5_price_41 : decode cX5_price 41 = .ok (.iload_n 2, 1) := by decide +kernel
theorem dX5_price_42 : decode cX5_price 42 = .ok (.iadd, 1) := by decide +kernel
theorem dX5_price_43 : decode cX5_price 43 = .ok (.iload_n 3, 1) := by decide +kernel
theorem dX5_price_44 : decode cX5_price 44 = .ok (.iastore, 1) := by decide +kernel
theorem dX5_price_45 : decode cX5_price 45 = .ok (.iconst 1, 1) := by decide +kernel
theorem dX5_price_46 : decode cX5_price 46 = .ok (.ireturn, 1) := by decide +kernel
theorem dX5_reveal_0 : decode cX5_reveal 0 = .ok (.aload_n 0, 1) := by decide +kernel
theorem dX5_reveal_1 : decode cX5_reveal 1 = .ok (.iconst 0, 1) := by decide +kernel
theorem dX5_reveal_2 : decode cX5_reveal 2 = .ok (.putfield 75, 3) := by decide +kernel
theorem dX5_reveal_5 : decode cX5_reveal 5 = .ok (.iload_n 1, 1) := by decide +kernel
theorem dX5_reveal_6 : decode cX5_reveal 6 = .ok (.iconst 0, 1) := by decide +kernel
theorem dX5_reveal_7 : decode cX5_reveal 7 = .ok (.bipush 24, 2) := by decide +kernel
theorem dX5_reveal_9 : decode cX5_reveal 9 = .ok (.invokestatic 81, 3) := by decide +kernel
theorem dX5_reveal_12 : decode cX5_reveal 12 = .ok (.ifCond .ne 5, 3) := by decide +kernel
theorem dX5_reveal_15 : decode cX5_reveal 15 = .ok (.iconst 0, 1) := by decide +kernel
theorem dX5_reveal_16 : decode cX5_reveal 16 = .ok (.ireturn, 1) := by decide +kernel
theorem dX5_reveal_17 : decode cX5_reveal 17 = .ok (.aload_n 0, 1) := by decide +kernel
theorem dX5_reveal_18 : decode cX5_reveal 18 = .ok (.iload_n 1, 1) := by decide +kernel
theorem dX5_reveal_19 : decode cX5_reveal 19 = .ok (.putfield 92, 3) := by decide +kernel
theorem dX5_reveal_22 : decode cX5_reveal 22 = .ok (.iconst 1, 1) := by decide +kernel
theorem dX5_reveal_23 : decode cX5_reveal 23 = .ok (.ireturn, 1) := by decide +kernel
theorem dX5_end_0 : decode cX5_end 0 = .ok (.aload_n 0, 1) := by decide +kernel
theorem dX5_end_1 : decode cX5_end 1 = .ok (.iconst 0, 1) := by decide +kernel
theorem dX5_end_2 : decode cX5_end 2 = .ok (.putfield 75, 3) := by decide +kernel
theorem dX5_end_5 : decode cX5_end 5 = .ok (.iload_n 1, 1) := by decide +kernel
theorem dX5_end_6 : decode cX5_end 6 = .ok (.iconst 0, 1) := by decide +kernel
theorem dX5_end_7 : decode cX5_end 7 = .ok (.sipush 999, 3) := by decide +kernel
theorem dX5_end_10 : decode cX5_end 10 = .ok (.invokestatic 81, 3) := by decide +kernel
theorem dX5_end_13 : decode cX5_end 13 = .ok (.ifCond .ne 5, 3) := by decide +kernel
theorem dX5_end_16 : decode cX5_end 16 = .ok (.iconst 0, 1) := by decide +kernel
theorem dX5_end_17 : decode cX5_end 17 = .ok (.ireturn, 1) := by decide +kernel
theorem dX5_end_18 : decode cX5_end 18 = .ok (.aload_n 0, 1) := by decide +kernel
theorem dX5_end_19 : decode cX5_end 19 = .ok (.iload_n 1, 1) := by decide +kernel
theorem dX5_end_20 : decode cX5_end 20 = .ok (.putfield 95, 3) := by decide +kernel
theorem dX5_end_23 : decode cX5_end 23 = .ok (.iconst 1, 1) := by decide +kernel
theorem dX5_end_24 : decode cX5_end 24 = .ok (.ireturn, 1) := by decide +kernel
theorem dX5_loses_0 : decode cX5_loses 0 = .ok (.iload_n 1, 1) := by decide +kernel
theorem dX5_loses_1 : decode cX5_loses 1 = .ok (.iconst 1, 1) := by decide +kernel
theorem dX5_loses_2 : decode cX5_loses 2 = .ok (.if_icmp .ne 12, 3) := by decide +kernel
theorem dX5_loses_5 : decode cX5_loses 5 = .ok (.aload_n 0, 1) := by decide +kernel
theorem dX5_loses_6 : decode cX5_loses 6 = .ok (.getfield 38, 3) := by decide +kernel
theorem dX5_loses_9 : decode cX5_loses 9 = .ok (.iconst 0, 1) := by decide +kernel
theorem dX5_loses_10 : decode cX5_loses 10 = .ok (.iaload, 1) := by decide +kernel
theorem dX5_loses_11 : decode cX5_loses 11 = .ok (.goto 19, 3) := by decide +kernel
theorem dX5_loses_14 : decode cX5_loses 14 = .ok (.iload_n 1, 1) := by decide +kernel
theorem dX5_loses_15 : decode cX5_loses 15 = .ok (.iconst 2, 1) := by decide +kernel
theorem dX5_loses_16 : decode cX5_loses 16 = .ok (.if_icmp .ne 13, 3) := by decide +kernel
theorem dX5_loses_19 : decode cX5_loses 19 = .ok (.aload_n 0, 1) := by decide +kernel
theorem dX5_loses_20 : decode cX5_loses 20 = .ok (.getfield 44, 3) := by decide +kernel
theorem dX5_loses_23 : decode cX5_loses 23 = .ok (.iconst 0, 1) := by decide +kernel
theorem dX5_loses_24 : decode cX5_loses 24 = .ok (.iaload, 1) := by decide +kernel
theorem dX5_loses_25 : decode cX5_loses 25 = .ok (.ineg, 1) := by decide +kernel
theorem dX5_loses_26 : decode cX5_loses 26 = .ok (.goto 4, 3) := by decide +kernel
theorem dX5_loses_29 : decode cX5_loses 29 = .ok (.iconst 0, 1) := by decide +kernel
theorem dX5_loses_30 : decode cX5_loses 30 = .ok (.istore_n 3, 1) := by decide +kernel
theorem dX5_loses_31 : decode cX5_loses 31 = .ok (.iload_n 3, 1) := by decide +kernel
theorem dX5_loses_32 : decode cX5_loses 32 = .ok (.iload_n 2, 1) := by decide +kernel
theorem dX5_loses_33 : decode cX5_loses 33 = .ok (.iconst 1, 1) := by decide +kernel
theorem dX5_loses_34 : decode cX5_loses 34 = .ok (.if_icmp .ne 12, 3) := by decide +kernel
theorem dX5_loses_37 : decode cX5_loses 37 = .ok (.aload_n 0, 1) := by decide +kernel
theorem dX5_loses_38 : decode cX5_loses 38 = .ok (.getfield 38, 3) := by decide +kernel
theorem dX5_loses_41 : decode cX5_loses 41 = .ok (.iconst 1, 1) := by decide +kernel
theorem dX5_loses_42 : decode cX5_loses 42 = .ok (.iaload, 1) := by decide +kernel
theorem dX5_loses_43 : decode cX5_loses 43 = .ok (.goto 19, 3) := by decide +kernel
theorem dX5_loses_46 : decode cX5_loses 46 = .ok (.iload_n 2, 1) := by decide +kernel
theorem dX5_loses_47 : decode cX5_loses 47 = .ok (.iconst 2, 1) := by decide +kernel
theorem dX5_loses_48 : decode cX5_loses 48 = .ok (.if_icmp .ne 13, 3) := by decide +kernel
theorem dX5_loses_51 : decode cX5_loses 51 = .ok (.aload_n 0, 1) := by decide +kernel
theorem dX5_loses_52 : decode cX5_loses 52 = .ok (.getfield 44, 3) := by decide +kernel
theorem dX5_loses_55 : decode cX5_loses 55 = .ok (.iconst 1, 1) := by decide +kernel
theorem dX5_loses_56 : decode cX5_loses 56 = .ok (.iaload, 1) := by decide +kernel
theorem dX5_loses_57 : decode cX5_loses 57 = .ok (.ineg, 1) := by decide +kernel
theorem dX5_loses_58 : decode cX5_loses 58 = .ok (.goto 4, 3) := by decide +kernel
theorem dX5_loses_61 : decode cX5_loses 61 = .ok (.iconst 0, 1) := by decide +kernel
theorem dX5_loses_62 : decode cX5_loses 62 = .ok (.iadd, 1) := by decide +kernel
theorem dX5_loses_63 : decode cX5_loses 63 = .ok (.ireturn, 1) := by decide +kernel
theorem dX5_mayGo_0 : decode cX5_mayGo 0 = .ok (.iload 4, 2) := by decide +kernel
theorem dX5_mayGo_2 : decode cX5_mayGo 2 = .ok (.ifCond .eq 17, 3) := by decide +kernel
theorem dX5_mayGo_5 : decode cX5_mayGo 5 = .ok (.aload_n 0, 1) := by decide +kernel
theorem dX5_mayGo_6 : decode cX5_mayGo 6 = .ok (.getfield 53, 3) := by decide +kernel
theorem dX5_mayGo_9 : decode cX5_mayGo 9 = .ok (.bipush 24, 2) := by decide +kernel
theorem dX5_mayGo_11 : decode cX5_mayGo 11 = .ok (.iload_n 1, 1) := by decide +kernel
theorem dX5_mayGo_12 : decode cX5_mayGo 12 = .ok (.imul, 1) := by decide +kernel
theorem dX5_mayGo_13 : decode cX5_mayGo 13 = .ok (.iload_n 2, 1) := by decide +kernel
theorem dX5_mayGo_14 : decode cX5_mayGo 14 = .ok (.iadd, 1) := by decide +kernel
theorem dX5_mayGo_15 : decode cX5_mayGo 15 = .ok (.baload, 1) := by decide +kernel
theorem dX5_mayGo_16 : decode cX5_mayGo 16 = .ok (.ifCond .ne 22, 3) := by decide +kernel
theorem dX5_mayGo_19 : decode cX5_mayGo 19 = .ok (.iload_n 3, 1) := by decide +kernel
theorem dX5_mayGo_20 : decode cX5_mayGo 20 = .ok (.ifCond .eq 14, 3) := by decide +kernel
theorem dX5_mayGo_23 : decode cX5_mayGo 23 = .ok (.iload 4, 2) := by decide +kernel
theorem dX5_mayGo_25 : decode cX5_mayGo 25 = .ok (.ifCond .eq 9, 3) := by decide +kernel
theorem dX5_mayGo_28 : decode cX5_mayGo 28 = .ok (.iload_n 3, 1) := by decide +kernel
theorem dX5_mayGo_29 : decode cX5_mayGo 29 = .ok (.iload 4, 2) := by decide +kernel
theorem dX5_mayGo_31 : decode cX5_mayGo 31 = .ok (.if_icmp .ne 7, 3) := by decide +kernel
theorem dX5_mayGo_34 : decode cX5_mayGo 34 = .ok (.iconst 1, 1) := by decide +kernel
theorem dX5_mayGo_35 : decode cX5_mayGo 35 = .ok (.goto 4, 3) := by decide +kernel
theorem dX5_mayGo_38 : decode cX5_mayGo 38 = .ok (.iconst 0, 1) := by decide +kernel
theorem dX5_mayGo_39 : decode cX5_mayGo 39 = .ok (.ireturn, 1) := by decide +kernel
theorem dX5_isReady_0 : decode cX5_isReady 0 = .ok (.iload_n 3, 1) := by decide +kernel
theorem dX5_isReady_1 : decode cX5_isReady 1 = .ok (.ifCond .ne 21, 3) := by decide +kernel
theorem dX5_isReady_4 : decode cX5_isReady 4 = .ok (.aload_n 0, 1) := by decide +kernel
theorem dX5_isReady_5 : decode cX5_isReady 5 = .ok (.getfield 53, 3) := by decide +kernel
theorem dX5_isReady_8 : decode cX5_isReady 8 = .ok (.bipush 24, 2) := by decide +kernel
theorem dX5_isReady_10 : decode cX5_isReady 10 = .ok (.iload_n 1, 1) := by decide +kernel
theorem dX5_isReady_11 : decode cX5_isReady 11 = .ok (.imul, 1) := by decide +kernel
theorem dX5_isReady_12 : decode cX5_isReady 12 = .ok (.iload_n 2, 1) := by decide +kernel
theorem dX5_isReady_13 : decode cX5_isReady 13 = .ok (.iadd, 1) := by decide +kernel
theorem dX5_isReady_14 : decode cX5_isReady 14 = .ok (.baload, 1) := by decide +kernel
theorem dX5_isReady_15 : decode cX5_isReady 15 = .ok (.ifCond .ne 7, 3) := by decide +kernel
theorem dX5_isReady_18 : decode cX5_isReady 18 = .ok (.iconst 1, 1) := by decide +kernel
theorem dX5_isReady_19 : decode cX5_isReady 19 = .ok (.goto 4, 3) := by decide +kernel
theorem dX5_isReady_22 : decode cX5_isReady 22 = .ok (.iconst 0, 1) := by decide +kernel
theorem dX5_isReady_23 : decode cX5_isReady 23 = .ok (.ireturn, 1) := by decide +kernel
theorem dX5_isReserved_0 : decode cX5_isReserved 0 = .ok (.aload_n 0, 1) := by decide +kernel
theorem dX5_isReserved_1 : decode cX5_isReserved 1 = .ok (.iconst 0, 1) := by decide +kernel
theorem dX5_isReserved_2 : decode cX5_isReserved 2 = .ok (.iload_n 1, 1) := by decide +kernel
theorem dX5_isReserved_3 : decode cX5_isReserved 3 = .ok (.iload_n 3, 1) := by decide +kernel
theorem dX5_isReserved_4 : decode cX5_isReserved 4 = .ok (.invokevirtual 98, 3) := by decide +kernel
theorem dX5_isReserved_7 : decode cX5_isReserved 7 = .ok (.ifCond .eq 12, 3) := by decide +kernel
theorem dX5_isReserved_10 : decode cX5_isReserved 10 = .ok (.aload_n 0, 1) := by decide +kernel
theorem dX5_isReserved_11 : decode cX5_isReserved 11 = .ok (.getfield 41, 3) := by decide +kernel
theorem dX5_isReserved_14 : decode cX5_isReserved 14 = .ok (.iconst 0, 1) := by decide +kernel
theorem dX5_isReserved_15 : decode cX5_isReserved 15 = .ok (.iaload, 1) := by decide +kernel
theorem dX5_isReserved_16 : decode cX5_isReserved 16 = .ok (.goto 18, 3) := by decide +kernel
theorem dX5_isReserved_19 : decode cX5_isReserved 19 = .ok (.iload_n 3, 1) := by decide +kernel
theorem dX5_isReserved_20 : decode cX5_isReserved 20 = .ok (.iconst 2, 1) := by decide +kernel
theorem dX5_isReserved_21 : decode cX5_isReserved 21 = .ok (.if_icmp .ne 12, 3) := by decide +kernel
theorem dX5_isReserved_24 : decode cX5_isReserved 24 = .ok (.aload_n 0, 1) := by decide +kernel
theorem dX5_isReserved_25 : decode cX5_isReserved 25 = .ok (.getfield 47, 3) := by decide +kernel
theorem dX5_isReserved_28 : decode cX5_isReserved 28 = .ok (.iconst 0, 1) := by decide +kernel
theorem dX5_isReserved_29 : decode cX5_isReserved 29 = .ok (.iaload, 1) := by decide +kernel
theorem dX5_isReserved_30 : decode cX5_isReserved 30 = .ok (.goto 4, 3) := by decide +kernel
theorem dX5_isReserved_33 : decode cX5_isReserved 33 = .ok (.iconst 0, 1) := by decide +kernel
theorem dX5_isReserved_34 : decode cX5_isReserved 34 = .ok (.aload_n 0, 1) := by decide +kernel
theorem dX5_isReserved_35 : decode cX5_isReserved 35 = .ok (.iconst 1, 1) := by decide +kernel
theorem dX5_isReserved_36 : decode cX5_isReserved 36 = .ok (.iload_n 1, 1) := by decide +kernel
theorem dX5_isReserved_37 : decode cX5_isReserved 37 = .ok (.iload 4, 2) := by decide +kernel
theorem dX5_isReserved_39 : decode cX5_isReserved 39 = .ok (.invokevirtual 98, 3) := by decide +kernel
theorem dX5_isReserved_42 : decode cX5_isReserved 42 = .ok (.ifCond .eq 12, 3) := by decide +kernel
theorem dX5_isReserved_45 : decode cX5_isReserved 45 = .ok (.aload_n 0, 1) := by decide +kernel
theorem dX5_isReserved_46 : decode cX5_isReserved 46 = .ok (.getfield 41, 3) := by decide +kernel
theorem dX5_isReserved_49 : decode cX5_isReserved 49 = .ok (.iconst 1, 1) := by decide +kernel
theorem dX5_isReserved_50 : decode cX5_isReserved 50 = .ok (.iaload, 1) := by decide +kernel
theorem dX5_isReserved_51 : decode cX5_isReserved 51 = .ok (.goto 19, 3) := by decide +kernel
theorem dX5_isReserved_54 : decode cX5_isReserved 54 = .ok (.iload 4, 2) := by decide +kernel
theorem dX5_isReserved_56 : decode cX5_isReserved 56 = .ok (.iconst 2, 1) := by decide +kernel
theorem dX5_isReserved_57 : decode cX5_isReserved 57 = .ok (.if_icmp .ne 12, 3) := by decide +kernel
theorem dX5_isReserved_60 : decode cX5_isReserved 60 = .ok (.aload_n 0, 1) := by decide +kernel
theorem dX5_isReserved_61 : decode cX5_isReserved 61 = .ok (.getfield 47, 3) := by decide +kernel
theorem dX5_isReserved_64 : decode cX5_isReserved 64 = .ok (.iconst 1, 1) := by decide +kernel
theorem dX5_isReserved_65 : decode cX5_isReserved 65 = .ok (.iaload, 1) := by decide +kernel
theorem dX5_isReserved_66 : decode cX5_isReserved 66 = .ok (.goto 4, 3) := by decide +kernel
theorem dX5_isReserved_69 : decode cX5_isReserved 69 = .ok (.iconst 0, 1) := by decide +kernel
theorem dX5_isReserved_70 : decode cX5_isReserved 70 = .ok (.iadd, 1) := by decide +kernel
theorem dX5_isReserved_71 : decode cX5_isReserved 71 = .ok (.istore 5, 2) := by decide +kernel
theorem dX5_isReserved_73 : decode cX5_isReserved 73 = .ok (.aload_n 0, 1) := by decide +kernel
theorem dX5_isReserved_74 : decode cX5_isReserved 74 = .ok (.iconst 0, 1) := by decide +kernel
theorem dX5_isReserved_75 : decode cX5_isReserved 75 = .ok (.iload_n 1, 1) := by decide +kernel
theorem dX5_isReserved_76 : decode cX5_isReserved 76 = .ok (.iload_n 3, 1) := by decide +kernel
theorem dX5_isReserved_77 : decode cX5_isReserved 77 = .ok (.invokevirtual 98, 3) := by decide +kernel
theorem dX5_isReserved_80 : decode cX5_isReserved 80 = .ok (.ifCond .ne 8, 3) := by decide +kernel
theorem dX5_isReserved_83 : decode cX5_isReserved 83 = .ok (.iload_n 3, 1) := by decide +kernel
theorem dX5_isReserved_84 : decode cX5_isReserved 84 = .ok (.iconst 1, 1) := by decide +kernel
theorem dX5_isReserved_85 : decode cX5_isReserved 85 = .ok (.if_icmp .ne 12, 3) := by decide +kernel
theorem dX5_isReserved_88 : decode cX5_isReserved 88 = .ok (.aload_n 0, 1) := by decide +kernel
theorem dX5_isReserved_89 : decode cX5_isReserved 89 = .ok (.getfield 38, 3) := by decide +kernel
theorem dX5_isReserved_92 : decode cX5_isReserved 92 = .ok (.iconst 0, 1) := by decide +kernel
theorem dX5_isReserved_93 : decode cX5_isReserved 93 = .ok (.iaload, 1) := by decide +kernel
theorem dX5_isReserved_94 : decode cX5_isReserved 94 = .ok (.goto 4, 3) := by decide +kernel
theorem dX5_isReserved_97 : decode cX5_isReserved 97 = .ok (.iconst 0, 1) := by decide +kernel
theorem dX5_isReserved_98 : decode cX5_isReserved 98 = .ok (.aload_n 0, 1) := by decide +kernel
theorem dX5_isReserved_99 : decode cX5_isReserved 99 = .ok (.iconst 1, 1) := by decide +kernel
theorem dX5_isReserved_100 : decode cX5_isReserved 100 = .ok (.iload_n 1, 1) := by decide +kernel
theorem dX5_isReserved_101 : decode cX5_isReserved 101 = .ok (.iload 4, 2) := by decide +kernel
theorem dX5_isReserved_103 : decode cX5_isReserved 103 = .ok (.invokevirtual 98, 3) := by decide +kernel
theorem dX5_isReserved_106 : decode cX5_isReserved 106 = .ok (.ifCond .ne 9, 3) := by decide +kernel
theorem dX5_isReserved_109 : decode cX5_isReserved 109 = .ok (.iload 4, 2) := by decide +kernel
theorem dX5_isReserved_111 : decode cX5_isReserved 111 = .ok (.iconst 1, 1) := by decide +kernel
theorem dX5_isReserved_112 : decode cX5_isReserved 112 = .ok (.if_icmp .ne 12, 3) := by decide +kernel
theorem dX5_isReserved_115 : decode cX5_isReserved 115 = .ok (.aload_n 0, 1) := by decide +kernel
theorem dX5_isReserved_116 : decode cX5_isReserved 116 = .ok (.getfield 38, 3) := by decide +kernel
theorem dX5_isReserved_119 : decode cX5_isReserved 119 = .ok (.iconst 1, 1) := by decide +kernel
theorem dX5_isReserved_120 : decode cX5_isReserved 120 = .ok (.iaload, 1) := by decide +kernel
theorem dX5_isReserved_121 : decode cX5_isReserved 121 = .ok (.goto 4, 3) := by decide +kernel
theorem dX5_isReserved_124 : decode cX5_isReserved 124 = .ok (.iconst 0, 1) := by decide +kernel
theorem dX5_isReserved_125 : decode cX5_isReserved 125 = .ok (.iadd, 1) := by decide +kernel
theorem dX5_isReserved_126 : decode cX5_isReserved 126 = .ok (.istore 6, 2) := by decide +kernel
theorem dX5_isReserved_128 : decode cX5_isReserved 128 = .ok (.aload_n 0, 1) := by decide +kernel
theorem dX5_isReserved_129 : decode cX5_isReserved 129 = .ok (.getfield 35, 3) := by decide +kernel
theorem dX5_isReserved_132 : decode cX5_isReserved 132 = .ok (.iload_n 1, 1) := by decide +kernel
theorem dX5_isReserved_133 : decode cX5_isReserved 133 = .ok (.iaload, 1) := by decide +kernel
theorem dX5_isReserved_134 : decode cX5_isReserved 134 = .ok (.ifCond .eq 20, 3) := by decide +kernel
theorem dX5_isReserved_137 : decode cX5_isReserved 137 = .ok (.iload 5, 2) := by decide +kernel
theorem dX5_isReserved_139 : decode cX5_isReserved 139 = .ok (.aload_n 0, 1) := by decide +kernel
theorem dX5_isReserved_140 : decode cX5_isReserved 140 = .ok (.getfield 35, 3) := by decide +kernel
theorem dX5_isReserved_143 : decode cX5_isReserved 143 = .ok (.iload_n 1, 1) := by decide +kernel
theorem dX5_isReserved_144 : decode cX5_isReserved 144 = .ok (.iaload, 1) := by decide +kernel
theorem dX5_isReserved_145 : decode cX5_isReserved 145 = .ok (.if_icmp .lt 13, 3) := by decide +kernel
theorem dX5_isReserved_148 : decode cX5_isReserved 148 = .ok (.iload_n 2, 1) := by decide +kernel
theorem dX5_isReserved_149 : decode cX5_isReserved 149 = .ok (.iload 6, 2) := by decide +kernel
theorem dX5_isReserved_151 : decode cX5_isReserved 151 = .ok (.if_icmp .lt 7, 3) := by decide +kernel
theorem dX5_isReserved_154 : decode cX5_isReserved 154 = .ok (.iconst 1, 1) := by decide +kernel
theorem dX5_isReserved_155 : decode cX5_isReserved 155 = .ok (.goto 4, 3) := by decide +kernel
theorem dX5_isReserved_158 : decode cX5_isReserved 158 = .ok (.iconst 0, 1) := by decide +kernel
theorem dX5_isReserved_159 : decode cX5_isReserved 159 = .ok (.ireturn, 1) := by decide +kernel
theorem dX5_far_0 : decode cX5_far 0 = .ok (.iload_n 0, 1) := by decide +kernel
theorem dX5_far_1 : decode cX5_far 1 = .ok (.iload_n 1, 1) := by decide +kernel
theorem dX5_far_2 : decode cX5_far 2 = .ok (.if_icmp .le 9, 3) := by decide +kernel
theorem dX5_far_5 : decode cX5_far 5 = .ok (.iload_n 0, 1) := by decide +kernel
theorem dX5_far_6 : decode cX5_far 6 = .ok (.iload_n 1, 1) := by decide +kernel
theorem dX5_far_7 : decode cX5_far 7 = .ok (.isub, 1) := by decide +kernel
theorem dX5_far_8 : decode cX5_far 8 = .ok (.goto 6, 3) := by decide +kernel
theorem dX5_far_11 : decode cX5_far 11 = .ok (.iload_n 1, 1) := by decide +kernel
theorem dX5_far_12 : decode cX5_far 12 = .ok (.iload_n 0, 1) := by decide +kernel
theorem dX5_far_13 : decode cX5_far 13 = .ok (.isub, 1) := by decide +kernel
theorem dX5_far_14 : decode cX5_far 14 = .ok (.ireturn, 1) := by decide +kernel
theorem dX5_isLegal_0 : decode cX5_isLegal 0 = .ok (.aload_n 0, 1) := by decide +kernel
theorem dX5_isLegal_1 : decode cX5_isLegal 1 = .ok (.iload 6, 2) := by decide +kernel
theorem dX5_isLegal_3 : decode cX5_isLegal 3 = .ok (.iload 7, 2) := by decide +kernel
theorem dX5_isLegal_5 : decode cX5_isLegal 5 = .ok (.invokevirtual 101, 3) := by decide +kernel
theorem dX5_isLegal_8 : decode cX5_isLegal 8 = .ok (.istore 8, 2) := by decide +kernel
theorem dX5_isLegal_10 : decode cX5_isLegal 10 = .ok (.iload_n 2, 1) := by decide +kernel
theorem dX5_isLegal_11 : decode cX5_isLegal 11 = .ok (.aload_n 0, 1) := by decide +kernel
theorem dX5_isLegal_12 : decode cX5_isLegal 12 = .ok (.getfield 28, 3) := by decide +kernel
theorem dX5_isLegal_15 : decode cX5_isLegal 15 = .ok (.iload_n 1, 1) := by decide +kernel
theorem dX5_isLegal_16 : decode cX5_isLegal 16 = .ok (.iaload, 1) := by decide +kernel
theorem dX5_isLegal_17 : decode cX5_isLegal 17 = .ok (.iadd, 1) := by decide +kernel
theorem dX5_isLegal_18 : decode cX5_isLegal 18 = .ok (.iload 8, 2) := by decide +kernel
theorem dX5_isLegal_20 : decode cX5_isLegal 20 = .ok (.isub, 1) := by decide +kernel
theorem dX5_isLegal_21 : decode cX5_isLegal 21 = .ok (.istore 9, 2) := by decide +kernel
theorem dX5_isLegal_23 : decode cX5_isLegal 23 = .ok (.iload_n 3, 1) := by decide +kernel
theorem dX5_isLegal_24 : decode cX5_isLegal 24 = .ok (.iload 8, 2) := by decide +kernel
theorem dX5_isLegal_26 : decode cX5_isLegal 26 = .ok (.iadd, 1) := by decide +kernel
theorem dX5_isLegal_27 : decode cX5_isLegal 27 = .ok (.aload_n 0, 1) := by decide +kernel
theorem dX5_isLegal_28 : decode cX5_isLegal 28 = .ok (.getfield 32, 3) := by decide +kernel
theorem dX5_isLegal_31 : decode cX5_isLegal 31 = .ok (.iload_n 1, 1) := by decide +kernel
theorem dX5_isLegal_32 : decode cX5_isLegal 32 = .ok (.iaload, 1) := by decide +kernel
theorem dX5_isLegal_33 : decode cX5_isLegal 33 = .ok (.isub, 1) := by decide +kernel
theorem dX5_isLegal_34 : decode cX5_isLegal 34 = .ok (.istore 10, 2) := by decide +kernel
theorem dX5_isLegal_36 : decode cX5_isLegal 36 = .ok (.iload 9, 2) := by decide +kernel
theorem dX5_isLegal_38 : decode cX5_isLegal 38 = .ok (.iconst 0, 1) := by decide +kernel
theorem dX5_isLegal_39 : decode cX5_isLegal 39 = .ok (.aload_n 0, 1) := by decide +kernel
theorem dX5_isLegal_40 : decode cX5_isLegal 40 = .ok (.getfield 7, 3) := by decide +kernel
theorem dX5_isLegal_43 : decode cX5_isLegal 43 = .ok (.invokestatic 81, 3) := by decide +kernel
theorem dX5_isLegal_46 : decode cX5_isLegal 46 = .ok (.ifCond .eq 46, 3) := by decide +kernel
theorem dX5_isLegal_49 : decode cX5_isLegal 49 = .ok (.iload 10, 2) := by decide +kernel
theorem dX5_isLegal_51 : decode cX5_isLegal 51 = .ok (.iconst 0, 1) := by decide +kernel
theorem dX5_isLegal_52 : decode cX5_isLegal 52 = .ok (.aload_n 0, 1) := by decide +kernel
theorem dX5_isLegal_53 : decode cX5_isLegal 53 = .ok (.getfield 13, 3) := by decide +kernel
theorem dX5_isLegal_56 : decode cX5_isLegal 56 = .ok (.invokestatic 81, 3) := by decide +kernel
theorem dX5_isLegal_59 : decode cX5_isLegal 59 = .ok (.ifCond .eq 33, 3) := by decide +kernel
theorem dX5_isLegal_62 : decode cX5_isLegal 62 = .ok (.iload 9, 2) := by decide +kernel
theorem dX5_isLegal_64 : decode cX5_isLegal 64 = .ok (.iload_n 2, 1) := by decide +kernel
theorem dX5_isLegal_65 : decode cX5_isLegal 65 = .ok (.invokestatic 105, 3) := by decide +kernel
theorem dX5_isLegal_68 : decode cX5_isLegal 68 = .ok (.aload_n 0, 1) := by decide +kernel
theorem dX5_isLegal_69 : decode cX5_isLegal 69 = .ok (.getfield 22, 3) := by decide +kernel
theorem dX5_isLegal_72 : decode cX5_isLegal 72 = .ok (.if_icmp .gt 20, 3) := by decide +kernel
theorem dX5_isLegal_75 : decode cX5_isLegal 75 = .ok (.iload 10, 2) := by decide +kernel
theorem dX5_isLegal_77 : decode cX5_isLegal 77 = .ok (.iload_n 3, 1) := by decide +kernel
theorem dX5_isLegal_78 : decode cX5_isLegal 78 = .ok (.invokestatic 105, 3) := by decide +kernel
theorem dX5_isLegal_81 : decode cX5_isLegal 81 = .ok (.aload_n 0, 1) := by decide +kernel
theorem dX5_isLegal_82 : decode cX5_isLegal 82 = .ok (.getfield 25, 3) := by decide +kernel
theorem dX5_isLegal_85 : decode cX5_isLegal 85 = .ok (.if_icmp .gt 7, 3) := by decide +kernel
theorem dX5_isLegal_88 : decode cX5_isLegal 88 = .ok (.iconst 1, 1) := by decide +kernel
theorem dX5_isLegal_89 : decode cX5_isLegal 89 = .ok (.goto 4, 3) := by decide +kernel
theorem dX5_isLegal_92 : decode cX5_isLegal 92 = .ok (.iconst 0, 1) := by decide +kernel
theorem dX5_isLegal_93 : decode cX5_isLegal 93 = .ok (.istore 11, 2) := by decide +kernel
theorem dX5_isLegal_95 : decode cX5_isLegal 95 = .ok (.iload 11, 2) := by decide +kernel
theorem dX5_isLegal_97 : decode cX5_isLegal 97 = .ok (.ifCond .eq 46, 3) := by decide +kernel
