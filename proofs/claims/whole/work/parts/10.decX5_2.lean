theorem dX5_does_18 : decode cX5_does 18 = .ok (.iload_n 1, 1) := by decide +kernel
theorem dX5_does_19 : decode cX5_does 19 = .ok (.iload_n 2, 1) := by decide +kernel
theorem dX5_does_20 : decode cX5_does 20 = .ok (.invokevirtual 127, 3) := by decide +kernel
theorem dX5_does_23 : decode cX5_does 23 = .ok (.istore 4, 2) := by decide +kernel
theorem dX5_does_25 : decode cX5_does 25 = .ok (.aload_n 0, 1) := by decide +kernel
theorem dX5_does_26 : decode cX5_does 26 = .ok (.iload_n 1, 1) := by decide +kernel
theorem dX5_does_27 : decode cX5_does 27 = .ok (.iload_n 2, 1) := by decide +kernel
theorem dX5_does_28 : decode cX5_does 28 = .ok (.invokevirtual 101, 3) := by decide +kernel
theorem dX5_does_31 : decode cX5_does 31 = .ok (.istore 5, 2) := by decide +kernel
theorem dX5_does_33 : decode cX5_does 33 = .ok (.aload_n 0, 1) := by decide +kernel
theorem dX5_does_34 : decode cX5_does 34 = .ok (.getfield 66, 3) := by decide +kernel
theorem dX5_does_37 : decode cX5_does 37 = .ok (.iconst 0, 1) := by decide +kernel
theorem dX5_does_38 : decode cX5_does 38 = .ok (.dup2, 1) := by decide +kernel
theorem dX5_does_39 : decode cX5_does 39 = .ok (.iaload, 1) := by decide +kernel
theorem dX5_does_40 : decode cX5_does 40 = .ok (.aload_n 0, 1) := by decide +kernel
theorem dX5_does_41 : decode cX5_does 41 = .ok (.getfield 63, 3) := by decide +kernel
theorem dX5_does_44 : decode cX5_does 44 = .ok (.iconst 0, 1) := by decide +kernel
theorem dX5_does_45 : decode cX5_does 45 = .ok (.iaload, 1) := by decide +kernel
theorem dX5_does_46 : decode cX5_does 46 = .ok (.ifCond .ne 11, 3) := by decide +kernel
theorem dX5_does_49 : decode cX5_does 49 = .ok (.iload_n 1, 1) := by decide +kernel
theorem dX5_does_50 : decode cX5_does 50 = .ok (.ifCond .eq 7, 3) := by decide +kernel
theorem dX5_does_53 : decode cX5_does 53 = .ok (.iconst 1, 1) := by decide +kernel
theorem dX5_does_54 : decode cX5_does 54 = .ok (.goto 4, 3) := by decide +kernel
theorem dX5_does_57 : decode cX5_does 57 = .ok (.iconst 0, 1) := by decide +kernel
theorem dX5_does_58 : decode cX5_does 58 = .ok (.iadd, 1) := by decide +kernel
theorem dX5_does_59 : decode cX5_does 59 = .ok (.iastore, 1) := by decide +kernel
theorem dX5_does_60 : decode cX5_does 60 = .ok (.aload_n 0, 1) := by decide +kernel
theorem dX5_does_61 : decode cX5_does 61 = .ok (.getfield 66, 3) := by decide +kernel
theorem dX5_does_64 : decode cX5_does 64 = .ok (.iconst 1, 1) := by decide +kernel
theorem dX5_does_65 : decode cX5_does 65 = .ok (.dup2, 1) := by decide +kernel
theorem dX5_does_66 : decode cX5_does 66 = .ok (.iaload, 1) := by decide +kernel
theorem dX5_does_67 : decode cX5_does 67 = .ok (.aload_n 0, 1) := by decide +kernel
theorem dX5_does_68 : decode cX5_does 68 = .ok (.getfield 63, 3) := by decide +kernel
theorem dX5_does_71 : decode cX5_does 71 = .ok (.iconst 1, 1) := by decide +kernel
theorem dX5_does_72 : decode cX5_does 72 = .ok (.iaload, 1) := by decide +kernel
theorem dX5_does_73 : decode cX5_does 73 = .ok (.ifCond .ne 11, 3) := by decide +kernel
theorem dX5_does_76 : decode cX5_does 76 = .ok (.iload_n 2, 1) := by decide +kernel
theorem dX5_does_77 : decode cX5_does 77 = .ok (.ifCond .eq 7, 3) := by decide +kernel
theorem dX5_does_80 : decode cX5_does 80 = .ok (.iconst 1, 1) := by decide +kernel
theorem dX5_does_81 : decode cX5_does 81 = .ok (.goto 4, 3) := by decide +kernel
theorem dX5_does_84 : decode cX5_does 84 = .ok (.iconst 0, 1) := by decide +kernel
theorem dX5_does_85 : decode cX5_does 85 = .ok (.iadd, 1) := by decide +kernel
theorem dX5_does_86 : decode cX5_does 86 = .ok (.iastore, 1) := by decide +kernel
theorem dX5_does_87 : decode cX5_does 87 = .ok (.aload_n 0, 1) := by decide +kernel
theorem dX5_does_88 : decode cX5_does 88 = .ok (.dup, 1) := by decide +kernel
theorem dX5_does_89 : decode cX5_does 89 = .ok (.getfield 16, 3) := by decide +kernel
theorem dX5_does_92 : decode cX5_does 92 = .ok (.aload_n 0, 1) := by decide +kernel
theorem dX5_does_93 : decode cX5_does 93 = .ok (.getfield 28, 3) := by decide +kernel
theorem dX5_does_96 : decode cX5_does 96 = .ok (.aload_n 0, 1) := by decide +kernel
theorem dX5_does_97 : decode cX5_does 97 = .ok (.getfield 78, 3) := by decide +kernel
theorem dX5_does_100 : decode cX5_does 100 = .ok (.iaload, 1) := by decide +kernel
theorem dX5_does_101 : decode cX5_does 101 = .ok (.iload 5, 2) := by decide +kernel
theorem dX5_does_103 : decode cX5_does 103 = .ok (.isub, 1) := by decide +kernel
theorem dX5_does_104 : decode cX5_does 104 = .ok (.iadd, 1) := by decide +kernel
theorem dX5_does_105 : decode cX5_does 105 = .ok (.putfield 16, 3) := by decide +kernel
theorem dX5_does_108 : decode cX5_does 108 = .ok (.aload_n 0, 1) := by decide +kernel
theorem dX5_does_109 : decode cX5_does 109 = .ok (.dup, 1) := by decide +kernel
theorem dX5_does_110 : decode cX5_does 110 = .ok (.getfield 19, 3) := by decide +kernel
theorem dX5_does_113 : decode cX5_does 113 = .ok (.iload 5, 2) := by decide +kernel
theorem dX5_does_115 : decode cX5_does 115 = .ok (.aload_n 0, 1) := by decide +kernel
theorem dX5_does_116 : decode cX5_does 116 = .ok (.getfield 32, 3) := by decide +kernel
theorem dX5_does_119 : decode cX5_does 119 = .ok (.aload_n 0, 1) := by decide +kernel
theorem dX5_does_120 : decode cX5_does 120 = .ok (.getfield 78, 3) := by decide +kernel
theorem dX5_does_123 : decode cX5_does 123 = .ok (.iaload, 1) := by decide +kernel
theorem dX5_does_124 : decode cX5_does 124 = .ok (.isub, 1) := by decide +kernel
theorem dX5_does_125 : decode cX5_does 125 = .ok (.iadd, 1) := by decide +kernel
theorem dX5_does_126 : decode cX5_does 126 = .ok (.putfield 19, 3) := by decide +kernel
theorem dX5_does_129 : decode cX5_does 129 = .ok (.aload_n 0, 1) := by decide +kernel
theorem dX5_does_130 : decode cX5_does 130 = .ok (.getfield 63, 3) := by decide +kernel
theorem dX5_does_133 : decode cX5_does 133 = .ok (.iconst 0, 1) := by decide +kernel
theorem dX5_does_134 : decode cX5_does 134 = .ok (.iload_n 1, 1) := by decide +kernel
theorem dX5_does_135 : decode cX5_does 135 = .ok (.iastore, 1) := by decide +kernel
theorem dX5_does_136 : decode cX5_does 136 = .ok (.aload_n 0, 1) := by decide +kernel
theorem dX5_does_137 : decode cX5_does 137 = .ok (.getfield 63, 3) := by decide +kernel
theorem dX5_does_140 : decode cX5_does 140 = .ok (.iconst 1, 1) := by decide +kernel
theorem dX5_does_141 : decode cX5_does 141 = .ok (.iload_n 2, 1) := by decide +kernel
theorem dX5_does_142 : decode cX5_does 142 = .ok (.iastore, 1) := by decide +kernel
theorem dX5_does_143 : decode cX5_does 143 = .ok (.aload_n 0, 1) := by decide +kernel
theorem dX5_does_144 : decode cX5_does 144 = .ok (.dup, 1) := by decide +kernel
theorem dX5_does_145 : decode cX5_does 145 = .ok (.getfield 156, 3) := by decide +kernel
theorem dX5_does_148 : decode cX5_does 148 = .ok (.iload 4, 2) := by decide +kernel
theorem dX5_does_150 : decode cX5_does 150 = .ok (.iadd, 1) := by decide +kernel
theorem dX5_does_151 : decode cX5_does 151 = .ok (.putfield 156, 3) := by decide +kernel
theorem dX5_does_154 : decode cX5_does 154 = .ok (.aload_n 0, 1) := by decide +kernel
theorem dX5_does_155 : decode cX5_does 155 = .ok (.dup, 1) := by decide +kernel
theorem dX5_does_156 : decode cX5_does 156 = .ok (.getfield 78, 3) := by decide +kernel
theorem dX5_does_159 : decode cX5_does 159 = .ok (.iconst 1, 1) := by decide +kernel
theorem dX5_does_160 : decode cX5_does 160 = .ok (.iadd, 1) := by decide +kernel
theorem dX5_does_161 : decode cX5_does 161 = .ok (.putfield 78, 3) := by decide +kernel
theorem dX5_does_164 : decode cX5_does 164 = .ok (.iload 4, 2) := by decide +kernel
theorem dX5_does_166 : decode cX5_does 166 = .ok (.ireturn, 1) := by decide +kernel
theorem dX5_done_0 : decode cX5_done 0 = .ok (.aload_n 0, 1) := by decide +kernel
theorem dX5_done_1 : decode cX5_done 1 = .ok (.iload_n 1, 1) := by decide +kernel
theorem dX5_done_2 : decode cX5_done 2 = .ok (.iload_n 2, 1) := by decide +kernel
theorem dX5_done_3 : decode cX5_done 3 = .ok (.invokestatic 149, 3) := by decide +kernel
theorem dX5_done_6 : decode cX5_done 6 = .ok (.ifCond .eq 28, 3) := by decide +kernel
theorem dX5_done_9 : decode cX5_done 9 = .ok (.iload_n 3, 1) := by decide +kernel
theorem dX5_done_10 : decode cX5_done 10 = .ok (.invokestatic 89, 3) := by decide +kernel
theorem dX5_done_13 : decode cX5_done 13 = .ok (.ifCond .eq 21, 3) := by decide +kernel
theorem dX5_done_16 : decode cX5_done 16 = .ok (.aload_n 0, 1) := by decide +kernel
theorem dX5_done_17 : decode cX5_done 17 = .ok (.getfield 78, 3) := by decide +kernel
theorem dX5_done_20 : decode cX5_done 20 = .ok (.bipush 24, 2) := by decide +kernel
theorem dX5_done_22 : decode cX5_done 22 = .ok (.if_icmp .eq 12, 3) := by decide +kernel
theorem dX5_done_25 : decode cX5_done 25 = .ok (.aload_n 0, 1) := by decide +kernel
theorem dX5_done_26 : decode cX5_done 26 = .ok (.iload_n 1, 1) := by decide +kernel
theorem dX5_done_27 : decode cX5_done 27 = .ok (.iload_n 2, 1) := by decide +kernel
theorem dX5_done_28 : decode cX5_done 28 = .ok (.invokevirtual 153, 3) := by decide +kernel
theorem dX5_done_31 : decode cX5_done 31 = .ok (.ifCond .ne 7, 3) := by decide +kernel
theorem dX5_done_34 : decode cX5_done 34 = .ok (.iconst 1, 1) := by decide +kernel
theorem dX5_done_35 : decode cX5_done 35 = .ok (.goto 4, 3) := by decide +kernel
theorem dX5_done_38 : decode cX5_done 38 = .ok (.iconst 0, 1) := by decide +kernel
theorem dX5_done_39 : decode cX5_done 39 = .ok (.putfield 75, 3) := by decide +kernel
theorem dX5_done_42 : decode cX5_done 42 = .ok (.aload_n 0, 1) := by decide +kernel
theorem dX5_done_43 : decode cX5_done 43 = .ok (.getfield 75, 3) := by decide +kernel
theorem dX5_done_46 : decode cX5_done 46 = .ok (.ifCond .le 7, 3) := by decide +kernel
theorem dX5_done_49 : decode cX5_done 49 = .ok (.iconst 0, 1) := by decide +kernel
theorem dX5_done_50 : decode cX5_done 50 = .ok (.goto 10, 3) := by decide +kernel
theorem dX5_done_53 : decode cX5_done 53 = .ok (.aload_n 0, 1) := by decide +kernel
theorem dX5_done_54 : decode cX5_done 54 = .ok (.iload_n 1, 1) := by decide +kernel
theorem dX5_done_55 : decode cX5_done 55 = .ok (.iload_n 2, 1) := by decide +kernel
theorem dX5_done_56 : decode cX5_done 56 = .ok (.iload_n 3, 1) := by decide +kernel
theorem dX5_done_57 : decode cX5_done 57 = .ok (.invokevirtual 159, 3) := by decide +kernel
theorem dX5_done_60 : decode cX5_done 60 = .ok (.ireturn, 1) := by decide +kernel
theorem dX5_runs_0 : decode cX5_runs 0 = .ok (.aload_n 0, 1) := by decide +kernel
theorem dX5_runs_1 : decode cX5_runs 1 = .ok (.iconst 0, 1) := by decide +kernel
theorem dX5_runs_2 : decode cX5_runs 2 = .ok (.putfield 75, 3) := by decide +kernel
theorem dX5_runs_5 : decode cX5_runs 5 = .ok (.iload_n 2, 1) := by decide +kernel
theorem dX5_runs_6 : decode cX5_runs 6 = .ok (.invokestatic 89, 3) := by decide +kernel
theorem dX5_runs_9 : decode cX5_runs 9 = .ok (.ifCond .eq 13, 3) := by decide +kernel
theorem dX5_runs_12 : decode cX5_runs 12 = .ok (.iload_n 1, 1) := by decide +kernel
theorem dX5_runs_13 : decode cX5_runs 13 = .ok (.iconst 0, 1) := by decide +kernel
theorem dX5_runs_14 : decode cX5_runs 14 = .ok (.bipush 24, 2) := by decide +kernel
theorem dX5_runs_16 : decode cX5_runs 16 = .ok (.invokestatic 81, 3) := by decide +kernel
theorem dX5_runs_19 : decode cX5_runs 19 = .ok (.ifCond .ne 5, 3) := by decide +kernel
theorem dX5_runs_22 : decode cX5_runs 22 = .ok (.iconst (-1), 1) := by decide +kernel
theorem dX5_runs_23 : decode cX5_runs 23 = .ok (.ireturn, 1) := by decide +kernel
theorem dX5_runs_24 : decode cX5_runs 24 = .ok (.iconst 0, 1) := by decide +kernel
theorem dX5_runs_25 : decode cX5_runs 25 = .ok (.istore_n 3, 1) := by decide +kernel
theorem dX5_runs_26 : decode cX5_runs 26 = .ok (.aload_n 0, 1) := by decide +kernel
theorem dX5_runs_27 : decode cX5_runs 27 = .ok (.getfield 78, 3) := by decide +kernel
theorem dX5_runs_30 : decode cX5_runs 30 = .ok (.bipush 24, 2) := by decide +kernel
theorem dX5_runs_32 : decode cX5_runs 32 = .ok (.if_icmp .ge 15, 3) := by decide +kernel
theorem dX5_runs_35 : decode cX5_runs 35 = .ok (.iload_n 1, 1) := by decide +kernel
theorem dX5_runs_36 : decode cX5_runs 36 = .ok (.ifCond .le 11, 3) := by decide +kernel
theorem dX5_runs_39 : decode cX5_runs 39 = .ok (.aload_n 0, 1) := by decide +kernel
theorem dX5_runs_40 : decode cX5_runs 40 = .ok (.iload_n 2, 1) := by decide +kernel
theorem dX5_runs_41 : decode cX5_runs 41 = .ok (.invokevirtual 145, 3) := by decide +kernel
theorem dX5_runs_44 : decode cX5_runs 44 = .ok (.goto 4, 3) := by decide +kernel
theorem dX5_runs_47 : decode cX5_runs 47 = .ok (.iconst (-1), 1) := by decide +kernel
theorem dX5_runs_48 : decode cX5_runs 48 = .ok (.istore 4, 2) := by decide +kernel
theorem dX5_runs_50 : decode cX5_runs 50 = .ok (.iload 4, 2) := by decide +kernel
theorem dX5_runs_52 : decode cX5_runs 52 = .ok (.ifCond .lt 49, 3) := by decide +kernel
theorem dX5_runs_55 : decode cX5_runs 55 = .ok (.aload_n 0, 1) := by decide +kernel
theorem dX5_runs_56 : decode cX5_runs 56 = .ok (.iload 4, 2) := by decide +kernel
theorem dX5_runs_58 : decode cX5_runs 58 = .ok (.iconst 3, 1) := by decide +kernel
theorem dX5_runs_59 : decode cX5_runs 59 = .ok (.idiv, 1) := by decide +kernel
theorem dX5_runs_60 : decode cX5_runs 60 = .ok (.iload 4, 2) := by decide +kernel
theorem dX5_runs_62 : decode cX5_runs 62 = .ok (.iconst 3, 1) := by decide +kernel
theorem dX5_runs_63 : decode cX5_runs 63 = .ok (.irem, 1) := by decide +kernel
theorem dX5_runs_64 : decode cX5_runs 64 = .ok (.iload_n 2, 1) := by decide +kernel
theorem dX5_runs_65 : decode cX5_runs 65 = .ok (.invokevirtual 159, 3) := by decide +kernel
theorem dX5_runs_68 : decode cX5_runs 68 = .ok (.istore 5, 2) := by decide +kernel
theorem dX5_runs_70 : decode cX5_runs 70 = .ok (.iinc 3 1, 3) := by decide +kernel
theorem dX5_runs_73 : decode cX5_runs 73 = .ok (.aload_n 0, 1) := by decide +kernel
theorem dX5_runs_74 : decode cX5_runs 74 = .ok (.getfield 78, 3) := by decide +kernel
theorem dX5_runs_77 : decode cX5_runs 77 = .ok (.bipush 24, 2) := by decide +kernel
theorem dX5_runs_79 : decode cX5_runs 79 = .ok (.if_icmp .ge 16, 3) := by decide +kernel
theorem dX5_runs_82 : decode cX5_runs 82 = .ok (.iload_n 3, 1) := by decide +kernel
theorem dX5_runs_83 : decode cX5_runs 83 = .ok (.iload_n 1, 1) := by decide +kernel
theorem dX5_runs_84 : decode cX5_runs 84 = .ok (.if_icmp .ge 11, 3) := by decide +kernel
theorem dX5_runs_87 : decode cX5_runs 87 = .ok (.aload_n 0, 1) := by decide +kernel
theorem dX5_runs_88 : decode cX5_runs 88 = .ok (.iload_n 2, 1) := by decide +kernel
theorem dX5_runs_89 : decode cX5_runs 89 = .ok (.invokevirtual 145, 3) := by decide +kernel
theorem dX5_runs_92 : decode cX5_runs 92 = .ok (.goto 4, 3) := by decide +kernel
theorem dX5_runs_95 : decode cX5_runs 95 = .ok (.iconst (-1), 1) := by decide +kernel
theorem dX5_runs_96 : decode cX5_runs 96 = .ok (.istore 4, 2) := by decide +kernel
theorem dX5_runs_98 : decode cX5_runs 98 = .ok (.goto (-48), 3) := by decide +kernel
theorem dX5_runs_101 : decode cX5_runs 101 = .ok (.iload_n 3, 1) := by decide +kernel
theorem dX5_runs_102 : decode cX5_runs 102 = .ok (.ireturn, 1) := by decide +kernel
theorem dX5_count_0 : decode cX5_count 0 = .ok (.aload_n 0, 1) := by decide +kernel
theorem dX5_count_1 : decode cX5_count 1 = .ok (.iconst 0, 1) := by decide +kernel
theorem dX5_count_2 : decode cX5_count 2 = .ok (.putfield 75, 3) := by decide +kernel
theorem dX5_count_5 : decode cX5_count 5 = .ok (.iload_n 1, 1) := by decide +kernel
theorem dX5_count_6 : decode cX5_count 6 = .ok (.tableswitch 103 0 8 #[50, 55, 60, 65, 72, 79, 84, 91, 98], 50) := by decide +kernel
theorem dX5_count_56 : decode cX5_count 56 = .ok (.aload_n 0, 1) := by decide +kernel
theorem dX5_count_57 : decode cX5_count 57 = .ok (.getfield 78, 3) := by decide +kernel
theorem dX5_count_60 : decode cX5_count 60 = .ok (.ireturn, 1) := by decide +kernel
theorem dX5_count_61 : decode cX5_count 61 = .ok (.aload_n 0, 1) := by decide +kernel
theorem dX5_count_62 : decode cX5_count 62 = .ok (.getfield 16, 3) := by decide +kernel
theorem dX5_count_65 : decode cX5_count 65 = .ok (.ireturn, 1) := by decide +kernel
theorem dX5_count_66 : decode cX5_count 66 = .ok (.aload_n 0, 1) := by decide +kernel
theorem dX5_count_67 : decode cX5_count 67 = .ok (.getfield 19, 3) := by decide +kernel
theorem dX5_count_70 : decode cX5_count 70 = .ok (.ireturn, 1) := by decide +kernel
theorem dX5_count_71 : decode cX5_count 71 = .ok (.aload_n 0, 1) := by decide +kernel
theorem dX5_count_72 : decode cX5_count 72 = .ok (.getfield 63, 3) := by decide +kernel
theorem dX5_count_75 : decode cX5_count 75 = .ok (.iconst 0, 1) := by decide +kernel
theorem dX5_count_76 : decode cX5_count 76 = .ok (.iaload, 1) := by decide +kernel
theorem dX5_count_77 : decode cX5_count 77 = .ok (.ireturn, 1) := by decide +kernel
theorem dX5_count_78 : decode cX5_count 78 = .ok (.aload_n 0, 1) := by decide +kernel
theorem dX5_count_79 : decode cX5_count 79 = .ok (.getfield 63, 3) := by decide +kernel
theorem dX5_count_82 : decode cX5_count 82 = .ok (.iconst 1, 1) := by decide +kernel
theorem dX5_count_83 : decode cX5_count 83 = .ok (.iaload, 1) := by decide +kernel
theorem dX5_count_84 : decode cX5_count 84 = .ok (.ireturn, 1) := by decide +kernel
theorem dX5_count_85 : decode cX5_count 85 = .ok (.aload_n 0, 1) := by decide +kernel
theorem dX5_count_86 : decode cX5_count 86 = .ok (.getfield 156, 3) := by decide +kernel
theorem dX5_count_89 : decode cX5_count 89 = .ok (.ireturn, 1) := by decide +kernel
theorem dX5_count_90 : decode cX5_count 90 = .ok (.aload_n 0, 1) := by decide +kernel
theorem dX5_count_91 : decode cX5_count 91 = .ok (.getfield 66, 3) := by decide +kernel
theorem dX5_count_94 : decode cX5_count 94 = .ok (.iconst 0, 1) := by decide +kernel
theorem dX5_count_95 : decode cX5_count 95 = .ok (.iaload, 1) := by decide +kernel
theorem dX5_count_96 : decode cX5_count 96 = .ok (.ireturn, 1) := by decide +kernel
theorem dX5_count_97 : decode cX5_count 97 = .ok (.aload_n 0, 1) := by decide +kernel
theorem dX5_count_98 : decode cX5_count 98 = .ok (.getfield 66, 3) := by decide +kernel
theorem dX5_count_101 : decode cX5_count 101 = .ok (.iconst 1, 1) := by decide +kernel
theorem dX5_count_102 : decode cX5_count 102 = .ok (.iaload, 1) := by decide +kernel
theorem dX5_count_103 : decode cX5_count 103 = .ok (.ireturn, 1) := by decide +kernel
theorem dX5_count_104 : decode cX5_count 104 = .ok (.aload_n 0, 1) := by decide +kernel
theorem dX5_count_105 : decode cX5_count 105 = .ok (.getfield 92, 3) := by decide +kernel
theorem dX5_count_108 : decode cX5_count 108 = .ok (.ireturn, 1) := by decide +kernel
theorem dX5_count_109 : decode cX5_count 109 = .ok (.iconst (-1), 1) := by decide +kernel
theorem dX5_count_110 : decode cX5_count 110 = .ok (.ireturn, 1) := by decide +kernel
