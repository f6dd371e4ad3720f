theorem dX4_init_0 : decode cX4_init 0 = .ok (.aload_n 0, 1) := by decide +kernel
theorem dX4_init_1 : decode cX4_init 1 = .ok (.invokespecial 1, 3) := by decide +kernel
theorem dX4_init_4 : decode cX4_init 4 = .ok (.aload_n 0, 1) := by decide +kernel
theorem dX4_init_5 : decode cX4_init 5 = .ok (.new 7, 3) := by decide +kernel
theorem dX4_init_8 : decode cX4_init 8 = .ok (.dup, 1) := by decide +kernel
theorem dX4_init_9 : decode cX4_init 9 = .ok (.invokespecial 9, 3) := by decide +kernel
theorem dX4_init_12 : decode cX4_init 12 = .ok (.putfield 10, 3) := by decide +kernel
theorem dX4_init_15 : decode cX4_init 15 = .ok (.aload_n 0, 1) := by decide +kernel
theorem dX4_init_16 : decode cX4_init 16 = .ok (.new 16, 3) := by decide +kernel
theorem dX4_init_19 : decode cX4_init 19 = .ok (.dup, 1) := by decide +kernel
theorem dX4_init_20 : decode cX4_init 20 = .ok (.invokespecial 18, 3) := by decide +kernel
theorem dX4_init_23 : decode cX4_init 23 = .ok (.putfield 19, 3) := by decide +kernel
theorem dX4_init_26 : decode cX4_init 26 = .ok (.aload_n 0, 1) := by decide +kernel
theorem dX4_init_27 : decode cX4_init 27 = .ok (.new 16, 3) := by decide +kernel
theorem dX4_init_30 : decode cX4_init 30 = .ok (.dup, 1) := by decide +kernel
theorem dX4_init_31 : decode cX4_init 31 = .ok (.invokespecial 18, 3) := by decide +kernel
theorem dX4_init_34 : decode cX4_init 34 = .ok (.putfield 23, 3) := by decide +kernel
theorem dX4_init_37 : decode cX4_init 37 = .ok (.aload_n 0, 1) := by decide +kernel
theorem dX4_init_38 : decode cX4_init 38 = .ok (.new 26, 3) := by decide +kernel
theorem dX4_init_41 : decode cX4_init 41 = .ok (.dup, 1) := by decide +kernel
theorem dX4_init_42 : decode cX4_init 42 = .ok (.aload_n 0, 1) := by decide +kernel
theorem dX4_init_43 : decode cX4_init 43 = .ok (.getfield 10, 3) := by decide +kernel
theorem dX4_init_46 : decode cX4_init 46 = .ok (.aload_n 0, 1) := by decide +kernel
theorem dX4_init_47 : decode cX4_init 47 = .ok (.getfield 19, 3) := by decide +kernel
theorem dX4_init_50 : decode cX4_init 50 = .ok (.aload_n 0, 1) := by decide +kernel
theorem dX4_init_51 : decode cX4_init 51 = .ok (.getfield 23, 3) := by decide +kernel
theorem dX4_init_54 : decode cX4_init 54 = .ok (.invokespecial 28, 3) := by decide +kernel
theorem dX4_init_57 : decode cX4_init 57 = .ok (.putfield 31, 3) := by decide +kernel
theorem dX4_init_60 : decode cX4_init 60 = .ok (.aload_n 0, 1) := by decide +kernel
theorem dX4_init_61 : decode cX4_init 61 = .ok (.iconst 3, 1) := by decide +kernel
theorem dX4_init_62 : decode cX4_init 62 = .ok (.anewarray 35, 3) := by decide +kernel
theorem dX4_init_65 : decode cX4_init 65 = .ok (.putfield 37, 3) := by decide +kernel
theorem dX4_init_68 : decode cX4_init 68 = .ok (.aload_n 0, 1) := by decide +kernel
theorem dX4_init_69 : decode cX4_init 69 = .ok (.new 35, 3) := by decide +kernel
theorem dX4_init_72 : decode cX4_init 72 = .ok (.dup, 1) := by decide +kernel
theorem dX4_init_73 : decode cX4_init 73 = .ok (.invokespecial 41, 3) := by decide +kernel
theorem dX4_init_76 : decode cX4_init 76 = .ok (.putfield 42, 3) := by decide +kernel
theorem dX4_init_79 : decode cX4_init 79 = .ok (.aload_n 0, 1) := by decide +kernel
theorem dX4_init_80 : decode cX4_init 80 = .ok (.iconst 3, 1) := by decide +kernel
theorem dX4_init_81 : decode cX4_init 81 = .ok (.newarray .int, 2) := by decide +kernel
theorem dX4_init_83 : decode cX4_init 83 = .ok (.putfield 46, 3) := by decide +kernel
theorem dX4_init_86 : decode cX4_init 86 = .ok (.aload_n 0, 1) := by decide +kernel
theorem dX4_init_87 : decode cX4_init 87 = .ok (.bipush 41, 2) := by decide +kernel
theorem dX4_init_89 : decode cX4_init 89 = .ok (.newarray .int, 2) := by decide +kernel
theorem dX4_init_91 : decode cX4_init 91 = .ok (.putfield 50, 3) := by decide +kernel
theorem dX4_init_94 : decode cX4_init 94 = .ok (.aload_n 0, 1) := by decide +kernel
theorem dX4_init_95 : decode cX4_init 95 = .ok (.iconst 3, 1) := by decide +kernel
theorem dX4_init_96 : decode cX4_init 96 = .ok (.newarray .int, 2) := by decide +kernel
theorem dX4_init_98 : decode cX4_init 98 = .ok (.putfield 53, 3) := by decide +kernel
theorem dX4_init_101 : decode cX4_init 101 = .ok (.aload_n 0, 1) := by decide +kernel
theorem dX4_init_102 : decode cX4_init 102 = .ok (.iconst 0, 1) := by decide +kernel
theorem dX4_init_103 : decode cX4_init 103 = .ok (.putfield 56, 3) := by decide +kernel
theorem dX4_init_106 : decode cX4_init 106 = .ok (.aload_n 0, 1) := by decide +kernel
theorem dX4_init_107 : decode cX4_init 107 = .ok (.iconst 0, 1) := by decide +kernel
theorem dX4_init_108 : decode cX4_init 108 = .ok (.putfield 60, 3) := by decide +kernel
theorem dX4_init_111 : decode cX4_init 111 = .ok (.aload_n 0, 1) := by decide +kernel
theorem dX4_init_112 : decode cX4_init 112 = .ok (.iconst 0, 1) := by decide +kernel
theorem dX4_init_113 : decode cX4_init 113 = .ok (.putfield 63, 3) := by decide +kernel
theorem dX4_init_116 : decode cX4_init 116 = .ok (.aload_n 0, 1) := by decide +kernel
theorem dX4_init_117 : decode cX4_init 117 = .ok (.iconst 0, 1) := by decide +kernel
theorem dX4_init_118 : decode cX4_init 118 = .ok (.putfield 66, 3) := by decide +kernel
theorem dX4_init_121 : decode cX4_init 121 = .ok (.iconst 0, 1) := by decide +kernel
theorem dX4_init_122 : decode cX4_init 122 = .ok (.istore_n 1, 1) := by decide +kernel
theorem dX4_init_123 : decode cX4_init 123 = .ok (.iload_n 1, 1) := by decide +kernel
theorem dX4_init_124 : decode cX4_init 124 = .ok (.iconst 3, 1) := by decide +kernel
theorem dX4_init_125 : decode cX4_init 125 = .ok (.if_icmp .ge 22, 3) := by decide +kernel
theorem dX4_init_128 : decode cX4_init 128 = .ok (.aload_n 0, 1) := by decide +kernel
theorem dX4_init_129 : decode cX4_init 129 = .ok (.getfield 37, 3) := by decide +kernel
theorem dX4_init_132 : decode cX4_init 132 = .ok (.iload_n 1, 1) := by decide +kernel
theorem dX4_init_133 : decode cX4_init 133 = .ok (.new 35, 3) := by decide +kernel
theorem dX4_init_136 : decode cX4_init 136 = .ok (.dup, 1) := by decide +kernel
theorem dX4_init_137 : decode cX4_init 137 = .ok (.invokespecial 41, 3) := by decide +kernel
theorem dX4_init_140 : decode cX4_init 140 = .ok (.aastore, 1) := by decide +kernel
theorem dX4_init_141 : decode cX4_init 141 = .ok (.iinc 1 1, 3) := by decide +kernel
theorem dX4_init_144 : decode cX4_init 144 = .ok (.goto (-21), 3) := by decide +kernel
theorem dX4_init_147 : decode cX4_init 147 = .ok (.aload_n 0, 1) := by decide +kernel
theorem dX4_init_148 : decode cX4_init 148 = .ok (.getfield 46, 3) := by decide +kernel
theorem dX4_init_151 : decode cX4_init 151 = .ok (.iconst 0, 1) := by decide +kernel
theorem dX4_init_152 : decode cX4_init 152 = .ok (.iconst 1, 1) := by decide +kernel
theorem dX4_init_153 : decode cX4_init 153 = .ok (.iastore, 1) := by decide +kernel
theorem dX4_init_154 : decode cX4_init 154 = .ok (.aload_n 0, 1) := by decide +kernel
theorem dX4_init_155 : decode cX4_init 155 = .ok (.getfield 50, 3) := by decide +kernel
theorem dX4_init_158 : decode cX4_init 158 = .ok (.ldc 69, 2) := by decide +kernel
theorem dX4_init_160 : decode cX4_init 160 = .ok (.invokestatic 70, 3) := by decide +kernel
theorem dX4_init_163 : decode cX4_init 163 = .ok (.aload_n 0, 1) := by decide +kernel
theorem dX4_init_164 : decode cX4_init 164 = .ok (.getfield 53, 3) := by decide +kernel
theorem dX4_init_167 : decode cX4_init 167 = .ok (.ldc 69, 2) := by decide +kernel
theorem dX4_init_169 : decode cX4_init 169 = .ok (.invokestatic 70, 3) := by decide +kernel
theorem dX4_init_172 : decode cX4_init 172 = .ok (.return_, 1) := by decide +kernel
theorem dX4_lakes_0 : decode cX4_lakes 0 = .ok (.aload_n 0, 1) := by decide +kernel
theorem dX4_lakes_1 : decode cX4_lakes 1 = .ok (.getfield 63, 3) := by decide +kernel
theorem dX4_lakes_4 : decode cX4_lakes 4 = .ok (.ifCond .ne 23, 3) := by decide +kernel
theorem dX4_lakes_7 : decode cX4_lakes 7 = .ok (.iload_n 1, 1) := by decide +kernel
theorem dX4_lakes_8 : decode cX4_lakes 8 = .ok (.iconst 1, 1) := by decide +kernel
theorem dX4_lakes_9 : decode cX4_lakes 9 = .ok (.bipush 40, 2) := by decide +kernel
theorem dX4_lakes_11 : decode cX4_lakes 11 = .ok (.invokestatic 76, 3) := by decide +kernel
theorem dX4_lakes_14 : decode cX4_lakes 14 = .ok (.ifCond .eq 13, 3) := by decide +kernel
theorem dX4_lakes_17 : decode cX4_lakes 17 = .ok (.iload_n 2, 1) := by decide +kernel
theorem dX4_lakes_18 : decode cX4_lakes 18 = .ok (.iconst 1, 1) := by decide +kernel
theorem dX4_lakes_19 : decode cX4_lakes 19 = .ok (.bipush 40, 2) := by decide +kernel
theorem dX4_lakes_21 : decode cX4_lakes 21 = .ok (.invokestatic 76, 3) := by decide +kernel
theorem dX4_lakes_24 : decode cX4_lakes 24 = .ok (.ifCond .ne 5, 3) := by decide +kernel
theorem dX4_lakes_27 : decode cX4_lakes 27 = .ok (.iconst 0, 1) := by decide +kernel
theorem dX4_lakes_28 : decode cX4_lakes 28 = .ok (.ireturn, 1) := by decide +kernel
theorem dX4_lakes_29 : decode cX4_lakes 29 = .ok (.iload_n 3, 1) := by decide +kernel
theorem dX4_lakes_30 : decode cX4_lakes 30 = .ok (.iconst 0, 1) := by decide +kernel
theorem dX4_lakes_31 : decode cX4_lakes 31 = .ok (.iload_n 1, 1) := by decide +kernel
theorem dX4_lakes_32 : decode cX4_lakes 32 = .ok (.invokestatic 76, 3) := by decide +kernel
theorem dX4_lakes_35 : decode cX4_lakes 35 = .ok (.ifCond .eq 13, 3) := by decide +kernel
theorem dX4_lakes_38 : decode cX4_lakes 38 = .ok (.iload 4, 2) := by decide +kernel
theorem dX4_lakes_40 : decode cX4_lakes 40 = .ok (.iconst 0, 1) := by decide +kernel
theorem dX4_lakes_41 : decode cX4_lakes 41 = .ok (.iload_n 2, 1) := by decide +kernel
theorem dX4_lakes_42 : decode cX4_lakes 42 = .ok (.invokestatic 76, 3) := by decide +kernel
theorem dX4_lakes_45 : decode cX4_lakes 45 = .ok (.ifCond .ne 5, 3) := by decide +kernel
theorem dX4_lakes_48 : decode cX4_lakes 48 = .ok (.iconst 0, 1) := by decide +kernel
theorem dX4_lakes_49 : decode cX4_lakes 49 = .ok (.ireturn, 1) := by decide +kernel
theorem dX4_lakes_50 : decode cX4_lakes 50 = .ok (.aload_n 0, 1) := by decide +kernel
theorem dX4_lakes_51 : decode cX4_lakes 51 = .ok (.getfield 10, 3) := by decide +kernel
theorem dX4_lakes_54 : decode cX4_lakes 54 = .ok (.iload_n 1, 1) := by decide +kernel
theorem dX4_lakes_55 : decode cX4_lakes 55 = .ok (.putfield 80, 3) := by decide +kernel
theorem dX4_lakes_58 : decode cX4_lakes 58 = .ok (.aload_n 0, 1) := by decide +kernel
theorem dX4_lakes_59 : decode cX4_lakes 59 = .ok (.getfield 10, 3) := by decide +kernel
theorem dX4_lakes_62 : decode cX4_lakes 62 = .ok (.iload_n 2, 1) := by decide +kernel
theorem dX4_lakes_63 : decode cX4_lakes 63 = .ok (.putfield 83, 3) := by decide +kernel
theorem dX4_lakes_66 : decode cX4_lakes 66 = .ok (.aload_n 0, 1) := by decide +kernel
theorem dX4_lakes_67 : decode cX4_lakes 67 = .ok (.getfield 10, 3) := by decide +kernel
theorem dX4_lakes_70 : decode cX4_lakes 70 = .ok (.iload_n 3, 1) := by decide +kernel
theorem dX4_lakes_71 : decode cX4_lakes 71 = .ok (.putfield 86, 3) := by decide +kernel
theorem dX4_lakes_74 : decode cX4_lakes 74 = .ok (.aload_n 0, 1) := by decide +kernel
theorem dX4_lakes_75 : decode cX4_lakes 75 = .ok (.getfield 10, 3) := by decide +kernel
theorem dX4_lakes_78 : decode cX4_lakes 78 = .ok (.iload 4, 2) := by decide +kernel
theorem dX4_lakes_80 : decode cX4_lakes 80 = .ok (.putfield 89, 3) := by decide +kernel
theorem dX4_lakes_83 : decode cX4_lakes 83 = .ok (.aload_n 0, 1) := by decide +kernel
theorem dX4_lakes_84 : decode cX4_lakes 84 = .ok (.invokevirtual 92, 3) := by decide +kernel
theorem dX4_lakes_87 : decode cX4_lakes 87 = .ok (.ireturn, 1) := by decide +kernel
theorem dX4_speeds_0 : decode cX4_speeds 0 = .ok (.iload_n 1, 1) := by decide +kernel
theorem dX4_speeds_1 : decode cX4_speeds 1 = .ok (.iconst 1, 1) := by decide +kernel
theorem dX4_speeds_2 : decode cX4_speeds 2 = .ok (.bipush 40, 2) := by decide +kernel
theorem dX4_speeds_4 : decode cX4_speeds 4 = .ok (.invokestatic 76, 3) := by decide +kernel
theorem dX4_speeds_7 : decode cX4_speeds 7 = .ok (.ifCond .eq 13, 3) := by decide +kernel
theorem dX4_speeds_10 : decode cX4_speeds 10 = .ok (.iload_n 2, 1) := by decide +kernel
theorem dX4_speeds_11 : decode cX4_speeds 11 = .ok (.iconst 1, 1) := by decide +kernel
theorem dX4_speeds_12 : decode cX4_speeds 12 = .ok (.bipush 40, 2) := by decide +kernel
theorem dX4_speeds_14 : decode cX4_speeds 14 = .ok (.invokestatic 76, 3) := by decide +kernel
theorem dX4_speeds_17 : decode cX4_speeds 17 = .ok (.ifCond .ne 5, 3) := by decide +kernel
theorem dX4_speeds_20 : decode cX4_speeds 20 = .ok (.iconst 0, 1) := by decide +kernel
theorem dX4_speeds_21 : decode cX4_speeds 21 = .ok (.ireturn, 1) := by decide +kernel
theorem dX4_speeds_22 : decode cX4_speeds 22 = .ok (.aload_n 0, 1) := by decide +kernel
theorem dX4_speeds_23 : decode cX4_speeds 23 = .ok (.getfield 10, 3) := by decide +kernel
theorem dX4_speeds_26 : decode cX4_speeds 26 = .ok (.iload_n 1, 1) := by decide +kernel
theorem dX4_speeds_27 : decode cX4_speeds 27 = .ok (.putfield 96, 3) := by decide +kernel
theorem dX4_speeds_30 : decode cX4_speeds 30 = .ok (.aload_n 0, 1) := by decide +kernel
theorem dX4_speeds_31 : decode cX4_speeds 31 = .ok (.getfield 10, 3) := by decide +kernel
theorem dX4_speeds_34 : decode cX4_speeds 34 = .ok (.iload_n 2, 1) := by decide +kernel
theorem dX4_speeds_35 : decode cX4_speeds 35 = .ok (.putfield 99, 3) := by decide +kernel
theorem dX4_speeds_38 : decode cX4_speeds 38 = .ok (.aload_n 0, 1) := by decide +kernel
theorem dX4_speeds_39 : decode cX4_speeds 39 = .ok (.invokevirtual 92, 3) := by decide +kernel
theorem dX4_speeds_42 : decode cX4_speeds 42 = .ok (.ireturn, 1) := by decide +kernel
theorem dX4_flows_0 : decode cX4_flows 0 = .ok (.iload_n 1, 1) := by decide +kernel
theorem dX4_flows_1 : decode cX4_flows 1 = .ok (.invokestatic 102, 3) := by decide +kernel
theorem dX4_flows_4 : decode cX4_flows 4 = .ok (.ifCond .eq 23, 3) := by decide +kernel
theorem dX4_flows_7 : decode cX4_flows 7 = .ok (.iload_n 2, 1) := by decide +kernel
theorem dX4_flows_8 : decode cX4_flows 8 = .ok (.iconst 0, 1) := by decide +kernel
theorem dX4_flows_9 : decode cX4_flows 9 = .ok (.bipush 9, 2) := by decide +kernel
theorem dX4_flows_11 : decode cX4_flows 11 = .ok (.invokestatic 76, 3) := by decide +kernel
theorem dX4_flows_14 : decode cX4_flows 14 = .ok (.ifCond .eq 13, 3) := by decide +kernel
theorem dX4_flows_17 : decode cX4_flows 17 = .ok (.iload_n 3, 1) := by decide +kernel
theorem dX4_flows_18 : decode cX4_flows 18 = .ok (.iconst 0, 1) := by decide +kernel
theorem dX4_flows_19 : decode cX4_flows 19 = .ok (.bipush 9, 2) := by decide +kernel
theorem dX4_flows_21 : decode cX4_flows 21 = .ok (.invokestatic 76, 3) := by decide +kernel
theorem dX4_flows_24 : decode cX4_flows 24 = .ok (.ifCond .ne 5, 3) := by decide +kernel
theorem dX4_flows_27 : decode cX4_flows 27 = .ok (.iconst 0, 1) := by decide +kernel
theorem dX4_flows_28 : decode cX4_flows 28 = .ok (.ireturn, 1) := by decide +kernel
theorem dX4_flows_29 : decode cX4_flows 29 = .ok (.aload_n 0, 1) := by decide +kernel
theorem dX4_flows_30 : decode cX4_flows 30 = .ok (.getfield 10, 3) := by decide +kernel
theorem dX4_flows_33 : decode cX4_flows 33 = .ok (.getfield 106, 3) := by decide +kernel
theorem dX4_flows_36 : decode cX4_flows 36 = .ok (.iload_n 1, 1) := by decide +kernel
theorem dX4_flows_37 : decode cX4_flows 37 = .ok (.iload_n 2, 1) := by decide +kernel
theorem dX4_flows_38 : decode cX4_flows 38 = .ok (.iastore, 1) := by decide +kernel
theorem dX4_flows_39 : decode cX4_flows 39 = .ok (.aload_n 0, 1) := by decide +kernel
theorem dX4_flows_40 : decode cX4_flows 40 = .ok (.getfield 10, 3) := by decide +kernel
theorem dX4_flows_43 : decode cX4_flows 43 = .ok (.getfield 109, 3) := by decide +kernel
theorem dX4_flows_46 : decode cX4_flows 46 = .ok (.iload_n 1, 1) := by decide +kernel
theorem dX4_flows_47 : decode cX4_flows 47 = .ok (.iload_n 3, 1) := by decide +kernel
theorem dX4_flows_48 : decode cX4_flows 48 = .ok (.iastore, 1) := by decide +kernel
theorem dX4_flows_49 : decode cX4_flows 49 = .ok (.aload_n 0, 1) := by decide +kernel
theorem dX4_flows_50 : decode cX4_flows 50 = .ok (.invokevirtual 92, 3) := by decide +kernel
theorem dX4_flows_53 : decode cX4_flows 53 = .ok (.ireturn, 1) := by decide +kernel
theorem dX4_machine_0 : decode cX4_machine 0 = .ok (.iload_n 1, 1) := by decide +kernel
theorem dX4_machine_1 : decode cX4_machine 1 = .ok (.invokestatic 112, 3) := by decide +kernel
theorem dX4_machine_4 : decode cX4_machine 4 = .ok (.ifCond .eq 17, 3) := by decide +kernel
theorem dX4_machine_7 : decode cX4_machine 7 = .ok (.iload_n 2, 1) := by decide +kernel
theorem dX4_machine_8 : decode cX4_machine 8 = .ok (.invokestatic 115, 3) := by decide +kernel
theorem dX4_machine_11 : decode cX4_machine 11 = .ok (.ifCond .eq 10, 3) := by decide +kernel
theorem dX4_machine_14 : decode cX4_machine 14 = .ok (.iload_n 3, 1) := by decide +kernel
theorem dX4_machine_15 : decode cX4_machine 15 = .ok (.invokestatic 115, 3) := by decide +kernel
theorem dX4_machine_18 : decode cX4_machine 18 = .ok (.ifCond .ne 5, 3) := by decide +kernel
theorem dX4_machine_21 : decode cX4_machine 21 = .ok (.iconst 0, 1) := by decide +kernel
theorem dX4_machine_22 : decode cX4_machine 22 = .ok (.ireturn, 1) := by decide +kernel
theorem dX4_machine_23 : decode cX4_machine 23 = .ok (.iload 4, 2) := by decide +kernel
theorem dX4_machine_25 : decode cX4_machine 25 = .ok (.invokestatic 115, 3) := by decide +kernel
theorem dX4_machine_28 : decode cX4_machine 28 = .ok (.ifCond .eq 19, 3) := by decide +kernel
theorem dX4_machine_31 : decode cX4_machine 31 = .ok (.iload 5, 2) := by decide +kernel
theorem dX4_machine_33 : decode cX4_machine 33 = .ok (.invokestatic 115, 3) := by decide +kernel
theorem dX4_machine_36 : decode cX4_machine 36 = .ok (.ifCond .eq 11, 3) := by decide +kernel
theorem dX4_machine_39 : decode cX4_machine 39 = .ok (.iload 6, 2) := by decide +kernel
theorem dX4_machine_41 : decode cX4_machine 41 = .ok (.invokestatic 115, 3) := by decide +kernel
theorem dX4_machine_44 : decode cX4_machine 44 = .ok (.ifCond .ne 5, 3) := by decide +kernel
theorem dX4_machine_47 : decode cX4_machine 47 = .ok (.iconst 0, 1) := by decide +kernel
theorem dX4_machine_48 : decode cX4_machine 48 = .ok (.ireturn, 1) := by decide +kernel
theorem dX4_machine_49 : decode cX4_machine 49 = .ok (.aload_n 0, 1) := by decide +kernel
theorem dX4_machine_50 : decode cX4_machine 50 = .ok (.iload_n 1, 1) := by decide +kernel
theorem dX4_machine_51 : decode cX4_machine 51 = .ok (.invokevirtual 118, 3) := by decide +kernel
theorem dX4_machine_54 : decode cX4_machine 54 = .ok (.astore 7, 2) := by decide +kernel
theorem dX4_machine_56 : decode cX4_machine 56 = .ok (.aload 7, 2) := by decide +kernel
theorem dX4_machine_58 : decode cX4_machine 58 = .ok (.iload_n 2, 1) := by decide +kernel
theorem dX4_machine_59 : decode cX4_machine 59 = .ok (.putfield 122, 3) := by decide +kernel
theorem dX4_machine_62 : decode cX4_machine 62 = .ok (.aload 7, 2) := by decide +kernel
theorem dX4_machine_64 : decode cX4_machine 64 = .ok (.iload_n 3, 1) := by decide +kernel
theorem dX4_machine_65 : decode cX4_machine 65 = .ok (.putfield 125, 3) := by decide +kernel
theorem dX4_machine_68 : decode cX4_machine 68 = .ok (.aload 7, 2) := by decide +kernel
theorem dX4_machine_70 : decode cX4_machine 70 = .ok (.iload 4, 2) := by decide +kernel
theorem dX4_machine_72 : decode cX4_machine 72 = .ok (.putfield 128, 3) := by decide +kernel
theorem dX4_machine_75 : decode cX4_machine 75 = .ok (.aload 7, 2) := by decide +kernel
theorem dX4_machine_77 : decode cX4_machine 77 = .ok (.iload 5, 2) := by decide +kernel
theorem dX4_machine_79 : decode cX4_machine 79 = .ok (.putfield 131, 3) := by decide +kernel
theorem dX4_machine_82 : decode cX4_machine 82 = .ok (.aload 7, 2) := by decide +kernel
theorem dX4_machine_84 : decode cX4_machine 84 = .ok (.iload 6, 2) := by decide +kernel
theorem dX4_machine_86 : decode cX4_machine 86 = .ok (.putfield 134, 3) := by decide +kernel
theorem dX4_machine_89 : decode cX4_machine 89 = .ok (.aload_n 0, 1) := by decide +kernel
theorem dX4_machine_90 : decode cX4_machine 90 = .ok (.invokevirtual 92, 3) := by decide +kernel
theorem dX4_machine_93 : decode cX4_machine 93 = .ok (.ireturn, 1) := by decide +kernel
theorem dX4_out_0 : decode cX4_out 0 = .ok (.iload_n 1, 1) := by decide +kernel
theorem dX4_out_1 : decode cX4_out 1 = .ok (.invokestatic 112, 3) := by decide +kernel
theorem dX4_out_4 : decode cX4_out 4 = .ok (.ifCond .eq 22, 3) := by decide +kernel
theorem dX4_out_7 : decode cX4_out 7 = .ok (.iload_n 2, 1) := by decide +kernel
theorem dX4_out_8 : decode cX4_out 8 = .ok (.invokestatic 102, 3) := by decide +kernel
theorem dX4_out_11 : decode cX4_out 11 = .ok (.ifCond .eq 15, 3) := by decide +kernel
theorem dX4_out_14 : decode cX4_out 14 = .ok (.iload_n 3, 1) := by decide +kernel
theorem dX4_out_15 : decode cX4_out 15 = .ok (.invokestatic 102, 3) := by decide +kernel
theorem dX4_out_18 : decode cX4_out 18 = .ok (.ifCond .eq 8, 3) := by decide +kernel
theorem dX4_out_21 : decode cX4_out 21 = .ok (.iload_n 2, 1) := by decide +kernel
theorem dX4_out_22 : decode cX4_out 22 = .ok (.iload_n 3, 1) := by decide +kernel
theorem dX4_out_23 : decode cX4_out 23 = .ok (.if_icmp .le 5, 3) := by decide +kernel
theorem dX4_out_26 : decode cX4_out 26 = .ok (.iconst 0, 1) := by decide +kernel
theorem dX4_out_27 : decode cX4_out 27 = .ok (.ireturn, 1) := by decide +kernel
theorem dX4_out_28 : decode cX4_out 28 = .ok (.aload_n 0, 1) := by decide +kernel
theorem dX4_out_29 : decode cX4_out 29 = .ok (.iload_n 1, 1) := by decide +kernel
theorem dX4_out_30 : decode cX4_out 30 = .ok (.invokevirtual 118, 3) := by decide +kernel
theorem dX4_out_33 : decode cX4_out 33 = .ok (.astore 5, 2) := by decide +kernel
theorem dX4_out_35 : decode cX4_out 35 = .ok (.iload_n 2, 1) := by decide +kernel
theorem dX4_out_36 : decode cX4_out 36 = .ok (.istore 6, 2) := by decide +kernel
theorem dX4_out_38 : decode cX4_out 38 = .ok (.iload 6, 2) := by decide +kernel
theorem dX4_out_40 : decode cX4_out 40 = .ok (.iload_n 3, 1) := by decide +kernel
theorem dX4_out_41 : decode cX4_out 41 = .ok (.if_icmp .gt 19, 3) := by decide +kernel
theorem dX4_out_44 : decode cX4_out 44 = .ok (.aload 5, 2) := by decide +kernel
theorem dX4_out_46 : decode cX4_out 46 = .ok (.getfield 137, 3) := by decide +kernel
theorem dX4_out_49 : decode cX4_out 49 = .ok (.iload 6, 2) := by decide +kernel
theorem dX4_out_51 : decode cX4_out 51 = .ok (.iload 4, 2) := by decide +kernel
theorem dX4_out_53 : decode cX4_out 53 = .ok (.bastore, 1) := by decide +kernel
theorem dX4_out_54 : decode cX4_out 54 = .ok (.iinc 6 1, 3) := by decide +kernel
theorem dX4_out_57 : decode cX4_out 57 = .ok (.goto (-19), 3) := by decide +kernel
theorem dX4_out_60 : decode cX4_out 60 = .ok (.aload_n 0, 1) := by decide +kernel
theorem dX4_out_61 : decode cX4_out 61 = .ok (.invokevirtual 92, 3) := by decide +kernel
theorem dX4_out_64 : decode cX4_out 64 = .ok (.ireturn, 1) := by decide +kernel
theorem dX4_reserve_0 : decode cX4_reserve 0 = .ok (.iload_n 1, 1) := by decide +kernel
theorem dX4_reserve_1 : decode cX4_reserve 1 = .ok (.invokestatic 102, 3) := by decide +kernel
theorem dX4_reserve_4 : decode cX4_reserve 4 = .ok (.ifCond .eq 13, 3) := by decide +kernel
theorem dX4_reserve_7 : decode cX4_reserve 7 = .ok (.iload_n 2, 1) := by decide +kernel
theorem dX4_reserve_8 : decode cX4_reserve 8 = .ok (.iconst 0, 1) := by decide +kernel
theorem dX4_reserve_9 : decode cX4_reserve 9 = .ok (.bipush 99, 2) := by decide +kernel
theorem dX4_reserve_11 : decode cX4_reserve 11 = .ok (.invokestatic 76, 3) := by decide +kernel
theorem dX4_reserve_14 : decode cX4_reserve 14 = .ok (.ifCond .ne 5, 3) := by decide +kernel
theorem dX4_reserve_17 : decode cX4_reserve 17 = .ok (.iconst 0, 1) := by decide +kernel
theorem dX4_reserve_18 : decode cX4_reserve 18 = .ok (.ireturn, 1) := by decide +kernel
theorem dX4_reserve_19 : decode cX4_reserve 19 = .ok (.aload_n 0, 1) := by decide +kernel
theorem dX4_reserve_20 : decode cX4_reserve 20 = .ok (.getfield 10, 3) := by decide +kernel
theorem dX4_reserve_23 : decode cX4_reserve 23 = .ok (.getfield 141, 3) := by decide +kernel
theorem dX4_reserve_26 : decode cX4_reserve 26 = .ok (.iload_n 1, 1) := by decide +kernel
theorem dX4_reserve_27 : decode cX4_reserve 27 = .ok (.iload_n 2, 1) := by decide +kernel
theorem dX4_reserve_28 : decode cX4_reserve 28 = .ok (.iastore, 1) := by decide +kernel
theorem dX4_reserve_29 : decode cX4_reserve 29 = .ok (.aload_n 0, 1) := by decide +kernel
theorem dX4_reserve_30 : decode cX4_reserve 30 = .ok (.invokevirtual 92, 3) := by decide +kernel
theorem dX4_reserve_33 : decode cX4_reserve 33 = .ok (.ireturn, 1) := by decide +kernel
theorem dX4_weights_0 : decode cX4_weights 0 = .ok (.iload_n 1, 1) := by decide +kernel
theorem dX4_weights_1 : decode cX4_weights 1 = .ok (.iconst 0, 1) := by decide +kernel
theorem dX4_weights_2 : decode cX4_weights 2 = .ok (.bipush 9, 2) := by decide +kernel
theorem dX4_weights_4 : decode cX4_weights 4 = .ok (.invokestatic 76, 3) := by decide +kernel
theorem dX4_weights_7 : decode cX4_weights 7 = .ok (.ifCond .eq 23, 3) := by decide +kernel
theorem dX4_weights_10 : decode cX4_weights 10 = .ok (.iload_n 2, 1) := by decide +kernel
theorem dX4_weights_11 : decode cX4_weights 11 = .ok (.iconst 0, 1) := by decide +kernel
theorem dX4_weights_12 : decode cX4_weights 12 = .ok (.bipush 9, 2) := by decide +kernel
theorem dX4_weights_14 : decode cX4_weights 14 = .ok (.invokestatic 76, 3) := by decide +kernel
theorem dX4_weights_17 : decode cX4_weights 17 = .ok (.ifCond .eq 13, 3) := by decide +kernel
theorem dX4_weights_20 : decode cX4_weights 20 = .ok (.iload_n 3, 1) := by decide +kernel
theorem dX4_weights_21 : decode cX4_weights 21 = .ok (.iconst 0, 1) := by decide +kernel
theorem dX4_weights_22 : decode cX4_weights 22 = .ok (.bipush 9, 2) := by decide +kernel
theorem dX4_weights_24 : decode cX4_weights 24 = .ok (.invokestatic 76, 3) := by decide +kernel
theorem dX4_weights_27 : decode cX4_weights 27 = .ok (.ifCond .ne 5, 3) := by decide +kernel
theorem dX4_weights_30 : decode cX4_weights 30 = .ok (.iconst 0, 1) := by decide +kernel
theorem dX4_weights_31 : decode cX4_weights 31 = .ok (.ireturn, 1) := by decide +kernel
theorem dX4_weights_32 : decode cX4_weights 32 = .ok (.iload_n 1, 1) := by decide +kernel
theorem dX4_weights_33 : decode cX4_weights 33 = .ok (.iload_n 2, 1) := by decide +kernel
theorem dX4_weights_34 : decode cX4_weights 34 = .ok (.iadd, 1) := by decide +kernel
theorem dX4_weights_35 : decode cX4_weights 35 = .ok (.iload_n 3, 1) := by decide +kernel
theorem dX4_weights_36 : decode cX4_weights 36 = .ok (.iadd, 1) := by decide +kernel
theorem dX4_weights_37 : decode cX4_weights 37 = .ok (.ifCond .ne 5, 3) := by decide +kernel
theorem dX4_weights_40 : decode cX4_weights 40 = .ok (.iconst 0, 1) := by decide +kernel
theorem dX4_weights_41 : decode cX4_weights 41 = .ok (.ireturn, 1) := by decide +kernel
theorem dX4_weights_42 : decode cX4_weights 42 = .ok (.aload_n 0, 1) := by decide +kernel
theorem dX4_weights_43 : decode cX4_weights 43 = .ok (.getfield 46, 3) := by decide +kernel
theorem dX4_weights_46 : decode cX4_weights 46 = .ok (.iconst 0, 1) := by decide +kernel
theorem dX4_weights_47 : decode cX4_weights 47 = .ok (.iload_n 1, 1) := by decide +kernel
theorem dX4_weights_48 : decode cX4_weights 48 = .ok (.iastore, 1) := by decide +kernel
theorem dX4_weights_49 : decode cX4_weights 49 = .ok (.aload_n 0, 1) := by decide +kernel
theorem dX4_weights_50 : decode cX4_weights 50 = .ok (.getfield 46, 3) := by decide +kernel
theorem dX4_weights_53 : decode cX4_weights 53 = .ok (.iconst 1, 1) := by decide +kernel
theorem dX4_weights_54 : decode cX4_weights 54 = .ok (.iload_n 2, 1) := by decide +kernel
theorem dX4_weights_55 : decode cX4_weights 55 = .ok (.iastore, 1) := by decide +kernel
theorem dX4_weights_56 : decode cX4_weights 56 = .ok (.aload_n 0, 1) := by decide +kernel
theorem dX4_weights_57 : decode cX4_weights 57 = .ok (.getfield 46, 3) := by decide +kernel
theorem dX4_weights_60 : decode cX4_weights 60 = .ok (.iconst 2, 1) := by decide +kernel
theorem dX4_weights_61 : decode cX4_weights 61 = .ok (.iload_n 3, 1) := by decide +kernel
theorem dX4_weights_62 : decode cX4_weights 62 = .ok (.iastore, 1) := by decide +kernel
theorem dX4_weights_63 : decode cX4_weights 63 = .ok (.aload_n 0, 1) := by decide +kernel
theorem dX4_weights_64 : decode cX4_weights 64 = .ok (.invokevirtual 92, 3) := by decide +kernel
theorem dX4_weights_67 : decode cX4_weights 67 = .ok (.ireturn, 1) := by decide +kernel
theorem dX4_price_0 : decode cX4_price 0 = .ok (.iload_n 1, 1) := by decide +kernel
theorem dX4_price_1 : decode cX4_price 1 = .ok (.invokestatic 144, 3) := by decide +kernel
theorem dX4_price_4 : decode cX4_price 4 = .ok (.ifCond .eq 22, 3) := by decide +kernel
theorem dX4_price_7 : decode cX4_price 7 = .ok (.iload_n 2, 1) := by decide +kernel
theorem dX4_price_8 : decode cX4_price 8 = .ok (.invokestatic 102, 3) := by decide +kernel
theorem dX4_price_11 : decode cX4_price 11 = .ok (.ifCond .eq 15, 3) := by decide +kernel
theorem dX4_price_14 : decode cX4_price 14 = .ok (.iload_n 3, 1) := by decide +kernel
theorem dX4_price_15 : decode cX4_price 15 = .ok (.bipush (-99), 2) := by decide +kernel
theorem dX4_price_17 : decode cX4_price 17 = .ok (.sipush 999, 3) := by decide +kernel
theorem dX4_price_20 : decode cX4_price 20 = .ok (.invokestatic 76, 3) := by decide +kernel
theorem dX4_price_23 : decode cX4_price 23 = .ok (.ifCond .ne 5, 3) := by decide +kernel
theorem dX4_price_26 : decode cX4_price 26 = .ok (.iconst 0, 1) := by decide +kernel
theorem dX4_price_27 : decode cX4_price 27 = .ok (.ireturn, 1) := by decide +kernel
theorem dX4_price_28 : decode cX4_price 28 = .ok (.aload_n 0, 1) := by decide +kernel
theorem dX4_price_29 : decode cX4_price 29 = .ok (.getfield 37, 3) := by decide +kernel
theorem dX4_price_32 : decode cX4_price 32 = .ok (.iload_n 1, 1) := by decide +kernel
theorem dX4_price_33 : decode cX4_price 33 = .ok (.aaload, 1) := by decide +kernel
theorem dX4_price_34 : decode cX4_price 34 = .ok (.getfield 147, 3) := by decide +kernel
theorem dX4_price_37 : decode cX4_price 37 = .ok (.iload_n 2, 1) := by decide +kernel
theorem dX4_price_38 : decode cX4_price 38 = .ok (.iload_n 3, 1) := by decide +kernel
theorem dX4_price_39 : decode cX4_price 39 = .ok (.iastore, 1) := by decide +kernel
theorem dX4_price_40 : decode cX4_price 40 = .ok (.aload_n 0, 1) := by decide +kernel
theorem dX4_price_41 : decode cX4_price 41 = .ok (.invokevirtual 92, 3) := by decide +kernel
theorem dX4_price_44 : decode cX4_price 44 = .ok (.ireturn, 1) := by decide +kernel
theorem dX4_reveal_0 : decode cX4_reveal 0 = .ok (.iload_n 1, 1) := by decide +kernel
theorem dX4_reveal_1 : decode cX4_reveal 1 = .ok (.iconst 0, 1) := by decide +kernel
theorem dX4_reveal_2 : decode cX4_reveal 2 = .ok (.bipush 24, 2) := by decide +kernel
theorem dX4_reveal_4 : decode cX4_reveal 4 = .ok (.invokestatic 76, 3) := by decide +kernel
theorem dX4_reveal_7 : decode cX4_reveal 7 = .ok (.ifCond .ne 5, 3) := by decide +kernel
theorem dX4_reveal_10 : decode cX4_reveal 10 = .ok (.iconst 0, 1) := by decide +kernel
theorem dX4_reveal_11 : decode cX4_reveal 11 = .ok (.ireturn, 1) := by decide +kernel
theorem dX4_reveal_12 : decode cX4_reveal 12 = .ok (.aload_n 0, 1) := by decide +kernel
theorem dX4_reveal_13 : decode cX4_reveal 13 = .ok (.iload_n 1, 1) := by decide +kernel
theorem dX4_reveal_14 : decode cX4_reveal 14 = .ok (.putfield 56, 3) := by decide +kernel
theorem dX4_reveal_17 : decode cX4_reveal 17 = .ok (.aload_n 0, 1) := by decide +kernel
theorem dX4_reveal_18 : decode cX4_reveal 18 = .ok (.invokevirtual 92, 3) := by decide +kernel
theorem dX4_reveal_21 : decode cX4_reveal 21 = .ok (.ireturn, 1) := by decide +kernel
theorem dX4_end_0 : decode cX4_end 0 = .ok (.iload_n 1, 1) := by decide +kernel
theorem dX4_end_1 : decode cX4_end 1 = .ok (.iconst 0, 1) := by decide +kernel
theorem dX4_end_2 : decode cX4_end 2 = .ok (.sipush 999, 3) := by decide +kernel
theorem dX4_end_5 : decode cX4_end 5 = .ok (.invokestatic 76, 3) := by decide +kernel
theorem dX4_end_8 : decode cX4_end 8 = .ok (.ifCond .ne 5, 3) := by decide +kernel
theorem dX4_end_11 : decode cX4_end 11 = .ok (.iconst 0, 1) := by decide +kernel
theorem dX4_end_12 : decode cX4_end 12 = .ok (.ireturn, 1) := by decide +kernel
theorem dX4_end_13 : decode cX4_end 13 = .ok (.aload_n 0, 1) := by decide +kernel
theorem dX4_end_14 : decode cX4_end 14 = .ok (.iload_n 1, 1) := by decide +kernel
theorem dX4_end_15 : decode cX4_end 15 = .ok (.putfield 60, 3) := by decide +kernel
theorem dX4_end_18 : decode cX4_end 18 = .ok (.aload_n 0, 1) := by decide +kernel
theorem dX4_end_19 : decode cX4_end 19 = .ok (.invokevirtual 92, 3) := by decide +kernel
theorem dX4_end_22 : decode cX4_end 22 = .ok (.ireturn, 1) := by decide +kernel
theorem dX4_legal_0 : decode cX4_legal 0 = .ok (.iload_n 1, 1) := by decide +kernel
theorem dX4_legal_1 : decode cX4_legal 1 = .ok (.invokestatic 150, 3) := by decide +kernel
theorem dX4_legal_4 : decode cX4_legal 4 = .ok (.ifCond .eq 19, 3) := by decide +kernel
theorem dX4_legal_7 : decode cX4_legal 7 = .ok (.iload_n 2, 1) := by decide +kernel
theorem dX4_legal_8 : decode cX4_legal 8 = .ok (.invokestatic 150, 3) := by decide +kernel
theorem dX4_legal_11 : decode cX4_legal 11 = .ok (.ifCond .eq 12, 3) := by decide +kernel
theorem dX4_legal_14 : decode cX4_legal 14 = .ok (.aload_n 0, 1) := by decide +kernel
theorem dX4_legal_15 : decode cX4_legal 15 = .ok (.getfield 63, 3) := by decide +kernel
theorem dX4_legal_18 : decode cX4_legal 18 = .ok (.bipush 24, 2) := by decide +kernel
theorem dX4_legal_20 : decode cX4_legal 20 = .ok (.if_icmp .lt 5, 3) := by decide +kernel
theorem dX4_legal_23 : decode cX4_legal 23 = .ok (.iconst (-1), 1) := by decide +kernel
theorem dX4_legal_24 : decode cX4_legal 24 = .ok (.ireturn, 1) := by decide +kernel
theorem dX4_legal_25 : decode cX4_legal 25 = .ok (.aload_n 0, 1) := by decide +kernel
theorem dX4_legal_26 : decode cX4_legal 26 = .ok (.iload_n 1, 1) := by decide +kernel
theorem dX4_legal_27 : decode cX4_legal 27 = .ok (.iconst 3, 1) := by decide +kernel
theorem dX4_legal_28 : decode cX4_legal 28 = .ok (.imul, 1) := by decide +kernel
theorem dX4_legal_29 : decode cX4_legal 29 = .ok (.iload_n 2, 1) := by decide +kernel
theorem dX4_legal_30 : decode cX4_legal 30 = .ok (.iadd, 1) := by decide +kernel
theorem dX4_legal_31 : decode cX4_legal 31 = .ok (.invokevirtual 153, 3) := by decide +kernel
theorem dX4_legal_34 : decode cX4_legal 34 = .ok (.ifCond .eq 7, 3) := by decide +kernel
theorem dX4_legal_37 : decode cX4_legal 37 = .ok (.iconst 1, 1) := by decide +kernel
theorem dX4_legal_38 : decode cX4_legal 38 = .ok (.goto 4, 3) := by decide +kernel
theorem dX4_legal_41 : decode cX4_legal 41 = .ok (.iconst 0, 1) := by decide +kernel
theorem dX4_legal_42 : decode cX4_legal 42 = .ok (.ireturn, 1) := by decide +kernel
theorem dX4_worth_0 : decode cX4_worth 0 = .ok (.aload_n 0, 1) := by decide +kernel
theorem dX4_worth_1 : decode cX4_worth 1 = .ok (.aload_n 0, 1) := by decide +kernel
theorem dX4_worth_2 : decode cX4_worth 2 = .ok (.getfield 10, 3) := by decide +kernel
theorem dX4_worth_5 : decode cX4_worth 5 = .ok (.getfield 86, 3) := by decide +kernel
theorem dX4_worth_8 : decode cX4_worth 8 = .ok (.invokevirtual 156, 3) := by decide +kernel
theorem dX4_worth_11 : decode cX4_worth 11 = .ok (.ireturn, 1) := by decide +kernel
theorem dX4_mode_0 : decode cX4_mode 0 = .ok (.iload_n 1, 1) := by decide +kernel
theorem dX4_mode_1 : decode cX4_mode 1 = .ok (.invokestatic 144, 3) := by decide +kernel
theorem dX4_mode_4 : decode cX4_mode 4 = .ok (.ifCond .eq 19, 3) := by decide +kernel
theorem dX4_mode_7 : decode cX4_mode 7 = .ok (.iload_n 2, 1) := by decide +kernel
theorem dX4_mode_8 : decode cX4_mode 8 = .ok (.invokestatic 112, 3) := by decide +kernel
theorem dX4_mode_11 : decode cX4_mode 11 = .ok (.ifCond .eq 12, 3) := by decide +kernel
theorem dX4_mode_14 : decode cX4_mode 14 = .ok (.aload_n 0, 1) := by decide +kernel
theorem dX4_mode_15 : decode cX4_mode 15 = .ok (.getfield 63, 3) := by decide +kernel
theorem dX4_mode_18 : decode cX4_mode 18 = .ok (.bipush 24, 2) := by decide +kernel
theorem dX4_mode_20 : decode cX4_mode 20 = .ok (.if_icmp .lt 5, 3) := by decide +kernel
theorem dX4_mode_23 : decode cX4_mode 23 = .ok (.iconst (-1), 1) := by decide +kernel
theorem dX4_mode_24 : decode cX4_mode 24 = .ok (.ireturn, 1) := by decide +kernel
theorem dX4_mode_25 : decode cX4_mode 25 = .ok (.aload_n 0, 1) := by decide +kernel
theorem dX4_mode_26 : decode cX4_mode 26 = .ok (.iload_n 1, 1) := by decide +kernel
theorem dX4_mode_27 : decode cX4_mode 27 = .ok (.invokevirtual 160, 3) := by decide +kernel
theorem dX4_mode_30 : decode cX4_mode 30 = .ok (.istore_n 3, 1) := by decide +kernel
theorem dX4_mode_31 : decode cX4_mode 31 = .ok (.iload_n 3, 1) := by decide +kernel
theorem dX4_mode_32 : decode cX4_mode 32 = .ok (.iconst (-1), 1) := by decide +kernel
theorem dX4_mode_33 : decode cX4_mode 33 = .ok (.if_icmp .ne 5, 3) := by decide +kernel
theorem dX4_mode_36 : decode cX4_mode 36 = .ok (.iconst (-1), 1) := by decide +kernel
theorem dX4_mode_37 : decode cX4_mode 37 = .ok (.ireturn, 1) := by decide +kernel
theorem dX4_mode_38 : decode cX4_mode 38 = .ok (.iload_n 2, 1) := by decide +kernel
theorem dX4_mode_39 : decode cX4_mode 39 = .ok (.ifCond .ne 9, 3) := by decide +kernel
theorem dX4_mode_42 : decode cX4_mode 42 = .ok (.iload_n 3, 1) := by decide +kernel
theorem dX4_mode_43 : decode cX4_mode 43 = .ok (.iconst 3, 1) := by decide +kernel
theorem dX4_mode_44 : decode cX4_mode 44 = .ok (.idiv, 1) := by decide +kernel
theorem dX4_mode_45 : decode cX4_mode 45 = .ok (.goto 6, 3) := by decide +kernel
theorem dX4_mode_48 : decode cX4_mode 48 = .ok (.iload_n 3, 1) := by decide +kernel
theorem dX4_mode_49 : decode cX4_mode 49 = .ok (.iconst 3, 1) := by decide +kernel
theorem dX4_mode_50 : decode cX4_mode 50 = .ok (.irem, 1) := by decide +kernel
theorem dX4_mode_51 : decode cX4_mode 51 = .ok (.ireturn, 1) := by decide +kernel
theorem dX4_water_0 : decode cX4_water 0 = .ok (.iload_n 1, 1) := by decide +kernel
theorem dX4_water_1 : decode cX4_water 1 = .ok (.iconst 0, 1) := by decide +kernel
theorem dX4_water_2 : decode cX4_water 2 = .ok (.aload_n 0, 1) := by decide +kernel
theorem dX4_water_3 : decode cX4_water 3 = .ok (.getfield 10, 3) := by decide +kernel
theorem dX4_water_6 : decode cX4_water 6 = .ok (.getfield 80, 3) := by decide +kernel
theorem dX4_water_9 : decode cX4_water 9 = .ok (.iconst 1, 1) := by decide +kernel
theorem dX4_water_10 : decode cX4_water 10 = .ok (.isub, 1) := by decide +kernel
theorem dX4_water_11 : decode cX4_water 11 = .ok (.invokestatic 76, 3) := by decide +kernel
theorem dX4_water_14 : decode cX4_water 14 = .ok (.ifCond .ne 6, 3) := by decide +kernel
theorem dX4_water_17 : decode cX4_water 17 = .ok (.ldc 163, 2) := by decide +kernel
theorem dX4_water_19 : decode cX4_water 19 = .ok (.ireturn, 1) := by decide +kernel
theorem dX4_water_20 : decode cX4_water 20 = .ok (.aload_n 0, 1) := by decide +kernel
theorem dX4_water_21 : decode cX4_water 21 = .ok (.iload_n 1, 1) := by decide +kernel
theorem dX4_water_22 : decode cX4_water 22 = .ok (.invokevirtual 156, 3) := by decide +kernel
theorem dX4_water_25 : decode cX4_water 25 = .ok (.istore_n 2, 1) := by decide +kernel
theorem dX4_water_26 : decode cX4_water 26 = .ok (.aload_n 0, 1) := by decide +kernel
theorem dX4_water_27 : decode cX4_water 27 = .ok (.iload_n 1, 1) := by decide +kernel
theorem dX4_water_28 : decode cX4_water 28 = .ok (.iconst 1, 1) := by decide +kernel
theorem dX4_water_29 : decode cX4_water 29 = .ok (.iadd, 1) := by decide +kernel
theorem dX4_water_30 : decode cX4_water 30 = .ok (.invokevirtual 156, 3) := by decide +kernel
theorem dX4_water_33 : decode cX4_water 33 = .ok (.istore_n 3, 1) := by decide +kernel
theorem dX4_water_34 : decode cX4_water 34 = .ok (.iload_n 2, 1) := by decide +kernel
theorem dX4_water_35 : decode cX4_water 35 = .ok (.ldc 163, 2) := by decide +kernel
theorem dX4_water_37 : decode cX4_water 37 = .ok (.if_icmp .eq 9, 3) := by decide +kernel
theorem dX4_water_40 : decode cX4_water 40 = .ok (.iload_n 3, 1) := by decide +kernel
theorem dX4_water_41 : decode cX4_water 41 = .ok (.ldc 163, 2) := by decide +kernel
theorem dX4_water_43 : decode cX4_water 43 = .ok (.if_icmp .ne 8, 3) := by decide +kernel
theorem dX4_water_46 : decode cX4_water 46 = .ok (.ldc 163, 2) := by decide +kernel
theorem dX4_water_48 : decode cX4_water 48 = .ok (.goto 6, 3) := by decide +kernel
theorem dX4_water_51 : decode cX4_water 51 = .ok (.iload_n 3, 1) := by decide +kernel
theorem dX4_water_52 : decode cX4_water 52 = .ok (.iload_n 2, 1) := by decide +kernel
theorem dX4_water_53 : decode cX4_water 53 = .ok (.isub, 1) := by decide +kernel
theorem dX4_water_54 : decode cX4_water 54 = .ok (.ireturn, 1) := by decide +kernel
theorem dX4_done_0 : decode cX4_done 0 = .ok (.iload_n 1, 1) := by decide +kernel
theorem dX4_done_1 : decode cX4_done 1 = .ok (.invokestatic 150, 3) := by decide +kernel
theorem dX4_done_4 : decode cX4_done 4 = .ok (.ifCond .eq 26, 3) := by decide +kernel
theorem dX4_done_7 : decode cX4_done 7 = .ok (.iload_n 2, 1) := by decide +kernel
theorem dX4_done_8 : decode cX4_done 8 = .ok (.invokestatic 150, 3) := by decide +kernel
theorem dX4_done_11 : decode cX4_done 11 = .ok (.ifCond .eq 19, 3) := by decide +kernel
theorem dX4_done_14 : decode cX4_done 14 = .ok (.iload_n 3, 1) := by decide +kernel
theorem dX4_done_15 : decode cX4_done 15 = .ok (.invokestatic 144, 3) := by decide +kernel
theorem dX4_done_18 : decode cX4_done 18 = .ok (.ifCond .eq 12, 3) := by decide +kernel
theorem dX4_done_21 : decode cX4_done 21 = .ok (.aload_n 0, 1) := by decide +kernel
theorem dX4_done_22 : decode cX4_done 22 = .ok (.getfield 63, 3) := by decide +kernel
theorem dX4_done_25 : decode cX4_done 25 = .ok (.bipush 24, 2) := by decide +kernel
theorem dX4_done_27 : decode cX4_done 27 = .ok (.if_icmp .lt 13, 3) := by decide +kernel
theorem dX4_done_30 : decode cX4_done 30 = .ok (.new 164, 3) := by decide +kernel
theorem dX4_done_33 : decode cX4_done 33 = .ok (.dup, 1) := by decide +kernel
theorem dX4_done_34 : decode cX4_done 34 = .ok (.ldc 166, 2) := by decide +kernel
theorem dX4_done_36 : decode cX4_done 36 = .ok (.invokespecial 168, 3) := by decide +kernel
theorem dX4_done_39 : decode cX4_done 39 = .ok (.athrow, 1) := by decide +kernel
theorem dX4_done_40 : decode cX4_done 40 = .ok (.iload_n 1, 1) := by decide +kernel
theorem dX4_done_41 : decode cX4_done 41 = .ok (.iconst 3, 1) := by decide +kernel
theorem dX4_done_42 : decode cX4_done 42 = .ok (.imul, 1) := by decide +kernel
theorem dX4_done_43 : decode cX4_done 43 = .ok (.iload_n 2, 1) := by decide +kernel
theorem dX4_done_44 : decode cX4_done 44 = .ok (.iadd, 1) := by decide +kernel
theorem dX4_done_45 : decode cX4_done 45 = .ok (.istore 4, 2) := by decide +kernel
theorem dX4_done_47 : decode cX4_done 47 = .ok (.aload_n 0, 1) := by decide +kernel
theorem dX4_done_48 : decode cX4_done 48 = .ok (.iload 4, 2) := by decide +kernel
theorem dX4_done_50 : decode cX4_done 50 = .ok (.invokevirtual 153, 3) := by decide +kernel
theorem dX4_done_53 : decode cX4_done 53 = .ok (.ifCond .ne 13, 3) := by decide +kernel
theorem dX4_done_56 : decode cX4_done 56 = .ok (.new 164, 3) := by decide +kernel
theorem dX4_done_59 : decode cX4_done 59 = .ok (.dup, 1) := by decide +kernel
theorem dX4_done_60 : decode cX4_done 60 = .ok (.ldc 171, 2) := by decide +kernel
theorem dX4_done_62 : decode cX4_done 62 = .ok (.invokespecial 168, 3) := by decide +kernel
theorem dX4_done_65 : decode cX4_done 65 = .ok (.athrow, 1) := by decide +kernel
theorem dX4_done_66 : decode cX4_done 66 = .ok (.aload_n 0, 1) := by decide +kernel
theorem dX4_done_67 : decode cX4_done 67 = .ok (.iload 4, 2) := by decide +kernel
theorem dX4_done_69 : decode cX4_done 69 = .ok (.iload_n 3, 1) := by decide +kernel
theorem dX4_done_70 : decode cX4_done 70 = .ok (.invokevirtual 173, 3) := by decide +kernel
theorem dX4_done_73 : decode cX4_done 73 = .ok (.ireturn, 1) := by decide +kernel
theorem dX4_runs_0 : decode cX4_runs 0 = .ok (.iload_n 1, 1) := by decide +kernel
theorem dX4_runs_1 : decode cX4_runs 1 = .ok (.iconst 0, 1) := by decide +kernel
theorem dX4_runs_2 : decode cX4_runs 2 = .ok (.bipush 24, 2) := by decide +kernel
theorem dX4_runs_4 : decode cX4_runs 4 = .ok (.invokestatic 76, 3) := by decide +kernel
theorem dX4_runs_7 : decode cX4_runs 7 = .ok (.ifCond .eq 10, 3) := by decide +kernel
theorem dX4_runs_10 : decode cX4_runs 10 = .ok (.iload_n 2, 1) := by decide +kernel
theorem dX4_runs_11 : decode cX4_runs 11 = .ok (.invokestatic 144, 3) := by decide +kernel
theorem dX4_runs_14 : decode cX4_runs 14 = .ok (.ifCond .ne 5, 3) := by decide +kernel
theorem dX4_runs_17 : decode cX4_runs 17 = .ok (.iconst (-1), 1) := by decide +kernel
theorem dX4_runs_18 : decode cX4_runs 18 = .ok (.ireturn, 1) := by decide +kernel
theorem dX4_runs_19 : decode cX4_runs 19 = .ok (.iconst 0, 1) := by decide +kernel
theorem dX4_runs_20 : decode cX4_runs 20 = .ok (.istore_n 3, 1) := by decide +kernel
theorem dX4_runs_21 : decode cX4_runs 21 = .ok (.iload_n 3, 1) := by decide +kernel
theorem dX4_runs_22 : decode cX4_runs 22 = .ok (.iload_n 1, 1) := by decide +kernel
theorem dX4_runs_23 : decode cX4_runs 23 = .ok (.if_icmp .ge 42, 3) := by decide +kernel
theorem dX4_runs_26 : decode cX4_runs 26 = .ok (.aload_n 0, 1) := by decide +kernel
theorem dX4_runs_27 : decode cX4_runs 27 = .ok (.getfield 63, 3) := by decide +kernel
theorem dX4_runs_30 : decode cX4_runs 30 = .ok (.bipush 24, 2) := by decide +kernel
theorem dX4_runs_32 : decode cX4_runs 32 = .ok (.if_icmp .ge 33, 3) := by decide +kernel
theorem dX4_runs_35 : decode cX4_runs 35 = .ok (.aload_n 0, 1) := by decide +kernel
theorem dX4_runs_36 : decode cX4_runs 36 = .ok (.iload_n 2, 1) := by decide +kernel
theorem dX4_runs_37 : decode cX4_runs 37 = .ok (.invokevirtual 160, 3) := by decide +kernel
theorem dX4_runs_40 : decode cX4_runs 40 = .ok (.istore 4, 2) := by decide +kernel
theorem dX4_runs_42 : decode cX4_runs 42 = .ok (.iload 4, 2) := by decide +kernel
theorem dX4_runs_44 : decode cX4_runs 44 = .ok (.iconst (-1), 1) := by decide +kernel
theorem dX4_runs_45 : decode cX4_runs 45 = .ok (.if_icmp .ne 6, 3) := by decide +kernel
theorem dX4_runs_48 : decode cX4_runs 48 = .ok (.goto 17, 3) := by decide +kernel
theorem dX4_runs_51 : decode cX4_runs 51 = .ok (.aload_n 0, 1) := by decide +kernel
theorem dX4_runs_52 : decode cX4_runs 52 = .ok (.iload 4, 2) := by decide +kernel
theorem dX4_runs_54 : decode cX4_runs 54 = .ok (.iload_n 2, 1) := by decide +kernel
theorem dX4_runs_55 : decode cX4_runs 55 = .ok (.invokevirtual 173, 3) := by decide +kernel
theorem dX4_runs_58 : decode cX4_runs 58 = .ok (.pop, 1) := by decide +kernel
theorem dX4_runs_59 : decode cX4_runs 59 = .ok (.iinc 3 1, 3) := by decide +kernel
theorem dX4_runs_62 : decode cX4_runs 62 = .ok (.goto (-41), 3) := by decide +kernel
theorem dX4_runs_65 : decode cX4_runs 65 = .ok (.iload_n 3, 1) := by decide +kernel
theorem dX4_runs_66 : decode cX4_runs 66 = .ok (.ireturn, 1) := by decide +kernel
theorem dX4_count_0 : decode cX4_count 0 = .ok (.iload_n 1, 1) := by decide +kernel
theorem dX4_count_1 : decode cX4_count 1 = .ok (.tableswitch 114 0 8 #[51, 56, 64, 72, 80, 88, 93, 101, 109], 51) := by decide +kernel
theorem dX4_count_52 : decode cX4_count 52 = .ok (.aload_n 0, 1) := by decide +kernel
theorem dX4_count_53 : decode cX4_count 53 = .ok (.getfield 63, 3) := by decide +kernel
theorem dX4_count_56 : decode cX4_count 56 = .ok (.ireturn, 1) := by decide +kernel
theorem dX4_count_57 : decode cX4_count 57 = .ok (.aload_n 0, 1) := by decide +kernel
theorem dX4_count_58 : decode cX4_count 58 = .ok (.getfield 10, 3) := by decide +kernel
theorem dX4_count_61 : decode cX4_count 61 = .ok (.getfield 86, 3) := by decide +kernel
theorem dX4_count_64 : decode cX4_count 64 = .ok (.ireturn, 1) := by decide +kernel
theorem dX4_count_65 : decode cX4_count 65 = .ok (.aload_n 0, 1) := by decide +kernel
theorem dX4_count_66 : decode cX4_count 66 = .ok (.getfield 10, 3) := by decide +kernel
theorem dX4_count_69 : decode cX4_count 69 = .ok (.getfield 89, 3) := by decide +kernel
theorem dX4_count_72 : decode cX4_count 72 = .ok (.ireturn, 1) := by decide +kernel
theorem dX4_count_73 : decode cX4_count 73 = .ok (.aload_n 0, 1) := by decide +kernel
theorem dX4_count_74 : decode cX4_count 74 = .ok (.getfield 19, 3) := by decide +kernel
theorem dX4_count_77 : decode cX4_count 77 = .ok (.getfield 177, 3) := by decide +kernel
theorem dX4_count_80 : decode cX4_count 80 = .ok (.ireturn, 1) := by decide +kernel
theorem dX4_count_81 : decode cX4_count 81 = .ok (.aload_n 0, 1) := by decide +kernel
theorem dX4_count_82 : decode cX4_count 82 = .ok (.getfield 23, 3) := by decide +kernel
theorem dX4_count_85 : decode cX4_count 85 = .ok (.getfield 177, 3) := by decide +kernel
theorem dX4_count_88 : decode cX4_count 88 = .ok (.ireturn, 1) := by decide +kernel
theorem dX4_count_89 : decode cX4_count 89 = .ok (.aload_n 0, 1) := by decide +kernel
theorem dX4_count_90 : decode cX4_count 90 = .ok (.getfield 66, 3) := by decide +kernel
theorem dX4_count_93 : decode cX4_count 93 = .ok (.ireturn, 1) := by decide +kernel
theorem dX4_count_94 : decode cX4_count 94 = .ok (.aload_n 0, 1) := by decide +kernel
theorem dX4_count_95 : decode cX4_count 95 = .ok (.getfield 19, 3) := by decide +kernel
theorem dX4_count_98 : decode cX4_count 98 = .ok (.getfield 180, 3) := by decide +kernel
theorem dX4_count_101 : decode cX4_count 101 = .ok (.ireturn, 1) := by decide +kernel
theorem dX4_count_102 : decode cX4_count 102 = .ok (.aload_n 0, 1) := by decide +kernel
theorem dX4_count_103 : decode cX4_count 103 = .ok (.getfield 23, 3) := by decide +kernel
theorem dX4_count_106 : decode cX4_count 106 = .ok (.getfield 180, 3) := by decide +kernel
theorem dX4_count_109 : decode cX4_count 109 = .ok (.ireturn, 1) := by decide +kernel
theorem dX4_count_110 : decode cX4_count 110 = .ok (.aload_n 0, 1) := by decide +kernel
theorem dX4_count_111 : decode cX4_count 111 = .ok (.getfield 56, 3) := by decide +kernel
theorem dX4_count_114 : decode cX4_count 114 = .ok (.ireturn, 1) := by decide +kernel
theorem dX4_count_115 : decode cX4_count 115 = .ok (.iconst (-1), 1) := by decide +kernel
theorem dX4_count_116 : decode cX4_count 116 = .ok (.ireturn, 1) := by decide +kernel
theorem dX4_within_0 : decode cX4_within 0 = .ok (.iload_n 0, 1) := by decide +kernel
theorem dX4_within_1 : decode cX4_within 1 = .ok (.iload_n 1, 1) := by decide +kernel
theorem dX4_within_2 : decode cX4_within 2 = .ok (.if_icmp .lt 12, 3) := by decide +kernel
theorem dX4_within_5 : decode cX4_within 5 = .ok (.iload_n 0, 1) := by decide +kernel
theorem dX4_within_6 : decode cX4_within 6 = .ok (.iload_n 2, 1) := by decide +kernel
theorem dX4_within_7 : decode cX4_within 7 = .ok (.if_icmp .gt 7, 3) := by decide +kernel
theorem dX4_within_10 : decode cX4_within 10 = .ok (.iconst 1, 1) := by decide +kernel
theorem dX4_within_11 : decode cX4_within 11 = .ok (.goto 4, 3) := by decide +kernel
theorem dX4_within_14 : decode cX4_within 14 = .ok (.iconst 0, 1) := by decide +kernel
theorem dX4_within_15 : decode cX4_within 15 = .ok (.ireturn, 1) := by decide +kernel
theorem dX4_isHour_0 : decode cX4_isHour 0 = .ok (.iload_n 0, 1) := by decide +kernel
theorem dX4_isHour_1 : decode cX4_isHour 1 = .ok (.iconst 0, 1) := by decide +kernel
theorem dX4_isHour_2 : decode cX4_isHour 2 = .ok (.bipush 23, 2) := by decide +kernel
theorem dX4_isHour_4 : decode cX4_isHour 4 = .ok (.invokestatic 76, 3) := by decide +kernel
theorem dX4_isHour_7 : decode cX4_isHour 7 = .ok (.ireturn, 1) := by decide +kernel
theorem dX4_isWorld_0 : decode cX4_isWorld 0 = .ok (.iload_n 0, 1) := by decide +kernel
theorem dX4_isWorld_1 : decode cX4_isWorld 1 = .ok (.iconst 0, 1) := by decide +kernel
theorem dX4_isWorld_2 : decode cX4_isWorld 2 = .ok (.iconst 2, 1) := by decide +kernel
theorem dX4_isWorld_3 : decode cX4_isWorld 3 = .ok (.invokestatic 76, 3) := by decide +kernel
theorem dX4_isWorld_6 : decode cX4_isWorld 6 = .ok (.ireturn, 1) := by decide +kernel
theorem dX4_isMachine_0 : decode cX4_isMachine 0 = .ok (.iload_n 0, 1) := by decide +kernel
theorem dX4_isMachine_1 : decode cX4_isMachine 1 = .ok (.iconst 0, 1) := by decide +kernel
theorem dX4_isMachine_2 : decode cX4_isMachine 2 = .ok (.iconst 1, 1) := by decide +kernel
theorem dX4_isMachine_3 : decode cX4_isMachine 3 = .ok (.invokestatic 76, 3) := by decide +kernel
theorem dX4_isMachine_6 : decode cX4_isMachine 6 = .ok (.ireturn, 1) := by decide +kernel
theorem dX4_isMode_0 : decode cX4_isMode 0 = .ok (.iload_n 0, 1) := by decide +kernel
theorem dX4_isMode_1 : decode cX4_isMode 1 = .ok (.iconst 0, 1) := by decide +kernel
theorem dX4_isMode_2 : decode cX4_isMode 2 = .ok (.iconst 2, 1) := by decide +kernel
theorem dX4_isMode_3 : decode cX4_isMode 3 = .ok (.invokestatic 76, 3) := by decide +kernel
theorem dX4_isMode_6 : decode cX4_isMode 6 = .ok (.ireturn, 1) := by decide +kernel
theorem dX4_isOfMachine_0 : decode cX4_isOfMachine 0 = .ok (.iload_n 0, 1) := by decide +kernel
theorem dX4_isOfMachine_1 : decode cX4_isOfMachine 1 = .ok (.iconst 0, 1) := by decide +kernel
theorem dX4_isOfMachine_2 : decode cX4_isOfMachine 2 = .ok (.bipush 99, 2) := by decide +kernel
theorem dX4_isOfMachine_4 : decode cX4_isOfMachine 4 = .ok (.invokestatic 76, 3) := by decide +kernel
theorem dX4_isOfMachine_7 : decode cX4_isOfMachine 7 = .ok (.ireturn, 1) := by decide +kernel
theorem dX4_machineOf_0 : decode cX4_machineOf 0 = .ok (.iload_n 1, 1) := by decide +kernel
theorem dX4_machineOf_1 : decode cX4_machineOf 1 = .ok (.ifCond .ne 10, 3) := by decide +kernel
theorem dX4_machineOf_4 : decode cX4_machineOf 4 = .ok (.aload_n 0, 1) := by decide +kernel
theorem dX4_machineOf_5 : decode cX4_machineOf 5 = .ok (.getfield 19, 3) := by decide +kernel
theorem dX4_machineOf_8 : decode cX4_machineOf 8 = .ok (.goto 7, 3) := by decide +kernel
theorem dX4_machineOf_11 : decode cX4_machineOf 11 = .ok (.aload_n 0, 1) := by decide +kernel
theorem dX4_machineOf_12 : decode cX4_machineOf 12 = .ok (.getfield 23, 3) := by decide +kernel
theorem dX4_machineOf_15 : decode cX4_machineOf 15 = .ok (.areturn, 1) := by decide +kernel
theorem dX4_changed_0 : decode cX4_changed 0 = .ok (.aload_n 0, 1) := by decide +kernel
theorem dX4_changed_1 : decode cX4_changed 1 = .ok (.getfield 50, 3) := by decide +kernel
theorem dX4_changed_4 : decode cX4_changed 4 = .ok (.ldc 69, 2) := by decide +kernel
theorem dX4_changed_6 : decode cX4_changed 6 = .ok (.invokestatic 70, 3) := by decide +kernel
theorem dX4_changed_9 : decode cX4_changed 9 = .ok (.aload_n 0, 1) := by decide +kernel
theorem dX4_changed_10 : decode cX4_changed 10 = .ok (.getfield 53, 3) := by decide +kernel
theorem dX4_changed_13 : decode cX4_changed 13 = .ok (.ldc 69, 2) := by decide +kernel
theorem dX4_changed_15 : decode cX4_changed 15 = .ok (.invokestatic 70, 3) := by decide +kernel
theorem dX4_changed_18 : decode cX4_changed 18 = .ok (.iconst 1, 1) := by decide +kernel
theorem dX4_changed_19 : decode cX4_changed 19 = .ok (.ireturn, 1) := by decide +kernel
theorem dX4_modesNow_0 : decode cX4_modesNow 0 = .ok (.aload_n 0, 1) := by decide +kernel
theorem dX4_modesNow_1 : decode cX4_modesNow 1 = .ok (.getfield 19, 3) := by decide +kernel
theorem dX4_modesNow_4 : decode cX4_modesNow 4 = .ok (.getfield 177, 3) := by decide +kernel
theorem dX4_modesNow_7 : decode cX4_modesNow 7 = .ok (.iconst 3, 1) := by decide +kernel
theorem dX4_modesNow_8 : decode cX4_modesNow 8 = .ok (.imul, 1) := by decide +kernel
theorem dX4_modesNow_9 : decode cX4_modesNow 9 = .ok (.aload_n 0, 1) := by decide +kernel
theorem dX4_modesNow_10 : decode cX4_modesNow 10 = .ok (.getfield 23, 3) := by decide +kernel
theorem dX4_modesNow_13 : decode cX4_modesNow 13 = .ok (.getfield 177, 3) := by decide +kernel
theorem dX4_modesNow_16 : decode cX4_modesNow 16 = .ok (.iadd, 1) := by decide +kernel
theorem dX4_modesNow_17 : decode cX4_modesNow 17 = .ok (.ireturn, 1) := by decide +kernel
theorem dX4_isLegalNow_0 : decode cX4_isLegalNow 0 = .ok (.aload_n 0, 1) := by decide +kernel
theorem dX4_isLegalNow_1 : decode cX4_isLegalNow 1 = .ok (.getfield 31, 3) := by decide +kernel
theorem dX4_isLegalNow_4 : decode cX4_isLegalNow 4 = .ok (.aload_n 0, 1) := by decide +kernel
theorem dX4_isLegalNow_5 : decode cX4_isLegalNow 5 = .ok (.getfield 63, 3) := by decide +kernel
theorem dX4_isLegalNow_8 : decode cX4_isLegalNow 8 = .ok (.aload_n 0, 1) := by decide +kernel
theorem dX4_isLegalNow_9 : decode cX4_isLegalNow 9 = .ok (.getfield 10, 3) := by decide +kernel
theorem dX4_isLegalNow_12 : decode cX4_isLegalNow 12 = .ok (.getfield 86, 3) := by decide +kernel
theorem dX4_isLegalNow_15 : decode cX4_isLegalNow 15 = .ok (.aload_n 0, 1) := by decide +kernel
theorem dX4_isLegalNow_16 : decode cX4_isLegalNow 16 = .ok (.getfield 10, 3) := by decide +kernel
theorem dX4_isLegalNow_19 : decode cX4_isLegalNow 19 = .ok (.getfield 89, 3) := by decide +kernel
theorem dX4_isLegalNow_22 : decode cX4_isLegalNow 22 = .ok (.iadd, 1) := by decide +kernel
theorem dX4_isLegalNow_23 : decode cX4_isLegalNow 23 = .ok (.invokevirtual 183, 3) := by decide +kernel
theorem dX4_isLegalNow_26 : decode cX4_isLegalNow 26 = .ok (.aload_n 0, 1) := by decide +kernel
theorem dX4_isLegalNow_27 : decode cX4_isLegalNow 27 = .ok (.getfield 31, 3) := by decide +kernel
theorem dX4_isLegalNow_30 : decode cX4_isLegalNow 30 = .ok (.aload_n 0, 1) := by decide +kernel
theorem dX4_isLegalNow_31 : decode cX4_isLegalNow 31 = .ok (.invokevirtual 187, 3) := by decide +kernel
theorem dX4_isLegalNow_34 : decode cX4_isLegalNow 34 = .ok (.iload_n 1, 1) := by decide +kernel
theorem dX4_isLegalNow_35 : decode cX4_isLegalNow 35 = .ok (.invokevirtual 191, 3) := by decide +kernel
theorem dX4_isLegalNow_38 : decode cX4_isLegalNow 38 = .ok (.iconst (-1), 1) := by decide +kernel
theorem dX4_isLegalNow_39 : decode cX4_isLegalNow 39 = .ok (.if_icmp .eq 7, 3) := by decide +kernel
theorem dX4_isLegalNow_42 : decode cX4_isLegalNow 42 = .ok (.iconst 1, 1) := by decide +kernel
theorem dX4_isLegalNow_43 : decode cX4_isLegalNow 43 = .ok (.goto 4, 3) := by decide +kernel
theorem dX4_isLegalNow_46 : decode cX4_isLegalNow 46 = .ok (.iconst 0, 1) := by decide +kernel
theorem dX4_isLegalNow_47 : decode cX4_isLegalNow 47 = .ok (.istore_n 2, 1) := by decide +kernel
theorem dX4_isLegalNow_48 : decode cX4_isLegalNow 48 = .ok (.iload_n 2, 1) := by decide +kernel
theorem dX4_isLegalNow_49 : decode cX4_isLegalNow 49 = .ok (.ifCond .eq 33, 3) := by decide +kernel
theorem dX4_isLegalNow_52 : decode cX4_isLegalNow 52 = .ok (.aload_n 0, 1) := by decide +kernel
theorem dX4_isLegalNow_53 : decode cX4_isLegalNow 53 = .ok (.getfield 31, 3) := by decide +kernel
theorem dX4_isLegalNow_56 : decode cX4_isLegalNow 56 = .ok (.aload_n 0, 1) := by decide +kernel
theorem dX4_isLegalNow_57 : decode cX4_isLegalNow 57 = .ok (.getfield 63, 3) := by decide +kernel
theorem dX4_isLegalNow_60 : decode cX4_isLegalNow 60 = .ok (.bipush 9, 2) := by decide +kernel
theorem dX4_isLegalNow_62 : decode cX4_isLegalNow 62 = .ok (.imul, 1) := by decide +kernel
theorem dX4_isLegalNow_63 : decode cX4_isLegalNow 63 = .ok (.iload_n 1, 1) := by decide +kernel
theorem dX4_isLegalNow_64 : decode cX4_isLegalNow 64 = .ok (.iadd, 1) := by decide +kernel
theorem dX4_isLegalNow_65 : decode cX4_isLegalNow 65 = .ok (.aload_n 0, 1) := by decide +kernel
theorem dX4_isLegalNow_66 : decode cX4_isLegalNow 66 = .ok (.getfield 10, 3) := by decide +kernel
theorem dX4_isLegalNow_69 : decode cX4_isLegalNow 69 = .ok (.getfield 86, 3) := by decide +kernel
theorem dX4_isLegalNow_72 : decode cX4_isLegalNow 72 = .ok (.invokevirtual 193, 3) := by decide +kernel
theorem dX4_isLegalNow_75 : decode cX4_isLegalNow 75 = .ok (.ifCond .eq 7, 3) := by decide +kernel
theorem dX4_isLegalNow_78 : decode cX4_isLegalNow 78 = .ok (.iconst 1, 1) := by decide +kernel
theorem dX4_isLegalNow_79 : decode cX4_isLegalNow 79 = .ok (.goto 4, 3) := by decide +kernel
theorem dX4_isLegalNow_82 : decode cX4_isLegalNow 82 = .ok (.iconst 0, 1) := by decide +kernel
theorem dX4_isLegalNow_83 : decode cX4_isLegalNow 83 = .ok (.ireturn, 1) := by decide +kernel
theorem dX4_carryOut_0 : decode cX4_carryOut 0 = .ok (.aload_n 0, 1) := by decide +kernel
theorem dX4_carryOut_1 : decode cX4_carryOut 1 = .ok (.getfield 31, 3) := by decide +kernel
theorem dX4_carryOut_4 : decode cX4_carryOut 4 = .ok (.aload_n 0, 1) := by decide +kernel
theorem dX4_carryOut_5 : decode cX4_carryOut 5 = .ok (.getfield 63, 3) := by decide +kernel
theorem dX4_carryOut_8 : decode cX4_carryOut 8 = .ok (.aload_n 0, 1) := by decide +kernel
theorem dX4_carryOut_9 : decode cX4_carryOut 9 = .ok (.getfield 10, 3) := by decide +kernel
theorem dX4_carryOut_12 : decode cX4_carryOut 12 = .ok (.getfield 86, 3) := by decide +kernel
theorem dX4_carryOut_15 : decode cX4_carryOut 15 = .ok (.aload_n 0, 1) := by decide +kernel
theorem dX4_carryOut_16 : decode cX4_carryOut 16 = .ok (.getfield 10, 3) := by decide +kernel
theorem dX4_carryOut_19 : decode cX4_carryOut 19 = .ok (.getfield 89, 3) := by decide +kernel
theorem dX4_carryOut_22 : decode cX4_carryOut 22 = .ok (.iadd, 1) := by decide +kernel
theorem dX4_carryOut_23 : decode cX4_carryOut 23 = .ok (.invokevirtual 183, 3) := by decide +kernel
