theorem dX2_init_0 : decode cX2_init 0 = .ok (.aload_n 0, 1) := by decide +kernel
theorem dX2_init_1 : decode cX2_init 1 = .ok (.invokespecial 3, 3) := by decide +kernel
theorem dX2_init_4 : decode cX2_init 4 = .ok (.aload_n 0, 1) := by decide +kernel
theorem dX2_init_5 : decode cX2_init 5 = .ok (.iconst 3, 1) := by decide +kernel
theorem dX2_init_6 : decode cX2_init 6 = .ok (.putfield 9, 3) := by decide +kernel
theorem dX2_init_9 : decode cX2_init 9 = .ok (.aload_n 0, 1) := by decide +kernel
theorem dX2_init_10 : decode cX2_init 10 = .ok (.bipush 10, 2) := by decide +kernel
theorem dX2_init_12 : decode cX2_init 12 = .ok (.putfield 15, 3) := by decide +kernel
theorem dX2_init_15 : decode cX2_init 15 = .ok (.aload_n 0, 1) := by decide +kernel
theorem dX2_init_16 : decode cX2_init 16 = .ok (.iconst 2, 1) := by decide +kernel
theorem dX2_init_17 : decode cX2_init 17 = .ok (.putfield 18, 3) := by decide +kernel
theorem dX2_init_20 : decode cX2_init 20 = .ok (.aload_n 0, 1) := by decide +kernel
theorem dX2_init_21 : decode cX2_init 21 = .ok (.bipush 10, 2) := by decide +kernel
theorem dX2_init_23 : decode cX2_init 23 = .ok (.putfield 21, 3) := by decide +kernel
theorem dX2_init_26 : decode cX2_init 26 = .ok (.aload_n 0, 1) := by decide +kernel
theorem dX2_init_27 : decode cX2_init 27 = .ok (.iconst 5, 1) := by decide +kernel
theorem dX2_init_28 : decode cX2_init 28 = .ok (.putfield 24, 3) := by decide +kernel
theorem dX2_init_31 : decode cX2_init 31 = .ok (.aload_n 0, 1) := by decide +kernel
theorem dX2_init_32 : decode cX2_init 32 = .ok (.iconst 0, 1) := by decide +kernel
theorem dX2_init_33 : decode cX2_init 33 = .ok (.putfield 27, 3) := by decide +kernel
theorem dX2_init_36 : decode cX2_init 36 = .ok (.aload_n 0, 1) := by decide +kernel
theorem dX2_init_37 : decode cX2_init 37 = .ok (.iconst 0, 1) := by decide +kernel
theorem dX2_init_38 : decode cX2_init 38 = .ok (.putfield 30, 3) := by decide +kernel
theorem dX2_init_41 : decode cX2_init 41 = .ok (.aload_n 0, 1) := by decide +kernel
theorem dX2_init_42 : decode cX2_init 42 = .ok (.bipush 24, 2) := by decide +kernel
theorem dX2_init_44 : decode cX2_init 44 = .ok (.newarray .boolean, 2) := by decide +kernel
theorem dX2_init_46 : decode cX2_init 46 = .ok (.putfield 33, 3) := by decide +kernel
theorem dX2_init_49 : decode cX2_init 49 = .ok (.return_, 1) := by decide +kernel
theorem dX2_canBe_0 : decode cX2_canBe 0 = .ok (.iload_n 1, 1) := by decide +kernel
theorem dX2_canBe_1 : decode cX2_canBe 1 = .ok (.ifCond .eq 12, 3) := by decide +kernel
theorem dX2_canBe_4 : decode cX2_canBe 4 = .ok (.aload_n 0, 1) := by decide +kernel
theorem dX2_canBe_5 : decode cX2_canBe 5 = .ok (.getfield 33, 3) := by decide +kernel
theorem dX2_canBe_8 : decode cX2_canBe 8 = .ok (.iload_n 2, 1) := by decide +kernel
theorem dX2_canBe_9 : decode cX2_canBe 9 = .ok (.baload, 1) := by decide +kernel
theorem dX2_canBe_10 : decode cX2_canBe 10 = .ok (.ifCond .ne 7, 3) := by decide +kernel
theorem dX2_canBe_13 : decode cX2_canBe 13 = .ok (.iconst 1, 1) := by decide +kernel
theorem dX2_canBe_14 : decode cX2_canBe 14 = .ok (.goto 4, 3) := by decide +kernel
theorem dX2_canBe_17 : decode cX2_canBe 17 = .ok (.iconst 0, 1) := by decide +kernel
theorem dX2_canBe_18 : decode cX2_canBe 18 = .ok (.ireturn, 1) := by decide +kernel
theorem dX2_letDown_0 : decode cX2_letDown 0 = .ok (.iload_n 1, 1) := by decide +kernel
theorem dX2_letDown_1 : decode cX2_letDown 1 = .ok (.iconst 1, 1) := by decide +kernel
theorem dX2_letDown_2 : decode cX2_letDown 2 = .ok (.if_icmp .ne 10, 3) := by decide +kernel
theorem dX2_letDown_5 : decode cX2_letDown 5 = .ok (.aload_n 0, 1) := by decide +kernel
theorem dX2_letDown_6 : decode cX2_letDown 6 = .ok (.getfield 9, 3) := by decide +kernel
theorem dX2_letDown_9 : decode cX2_letDown 9 = .ok (.goto 17, 3) := by decide +kernel
theorem dX2_letDown_12 : decode cX2_letDown 12 = .ok (.iload_n 1, 1) := by decide +kernel
theorem dX2_letDown_13 : decode cX2_letDown 13 = .ok (.iconst 2, 1) := by decide +kernel
theorem dX2_letDown_14 : decode cX2_letDown 14 = .ok (.if_icmp .ne 11, 3) := by decide +kernel
theorem dX2_letDown_17 : decode cX2_letDown 17 = .ok (.aload_n 0, 1) := by decide +kernel
theorem dX2_letDown_18 : decode cX2_letDown 18 = .ok (.getfield 18, 3) := by decide +kernel
theorem dX2_letDown_21 : decode cX2_letDown 21 = .ok (.ineg, 1) := by decide +kernel
theorem dX2_letDown_22 : decode cX2_letDown 22 = .ok (.goto 4, 3) := by decide +kernel
theorem dX2_letDown_25 : decode cX2_letDown 25 = .ok (.iconst 0, 1) := by decide +kernel
theorem dX2_letDown_26 : decode cX2_letDown 26 = .ok (.ireturn, 1) := by decide +kernel
theorem dX2_energyOf_0 : decode cX2_energyOf 0 = .ok (.iload_n 1, 1) := by decide +kernel
theorem dX2_energyOf_1 : decode cX2_energyOf 1 = .ok (.iconst 1, 1) := by decide +kernel
theorem dX2_energyOf_2 : decode cX2_energyOf 2 = .ok (.if_icmp .ne 10, 3) := by decide +kernel
theorem dX2_energyOf_5 : decode cX2_energyOf 5 = .ok (.aload_n 0, 1) := by decide +kernel
theorem dX2_energyOf_6 : decode cX2_energyOf 6 = .ok (.getfield 15, 3) := by decide +kernel
theorem dX2_energyOf_9 : decode cX2_energyOf 9 = .ok (.goto 17, 3) := by decide +kernel
theorem dX2_energyOf_12 : decode cX2_energyOf 12 = .ok (.iload_n 1, 1) := by decide +kernel
theorem dX2_energyOf_13 : decode cX2_energyOf 13 = .ok (.iconst 2, 1) := by decide +kernel
theorem dX2_energyOf_14 : decode cX2_energyOf 14 = .ok (.if_icmp .ne 11, 3) := by decide +kernel
theorem dX2_energyOf_17 : decode cX2_energyOf 17 = .ok (.aload_n 0, 1) := by decide +kernel
theorem dX2_energyOf_18 : decode cX2_energyOf 18 = .ok (.getfield 21, 3) := by decide +kernel
theorem dX2_energyOf_21 : decode cX2_energyOf 21 = .ok (.ineg, 1) := by decide +kernel
theorem dX2_energyOf_22 : decode cX2_energyOf 22 = .ok (.goto 4, 3) := by decide +kernel
theorem dX2_energyOf_25 : decode cX2_energyOf 25 = .ok (.iconst 0, 1) := by decide +kernel
theorem dX2_energyOf_26 : decode cX2_energyOf 26 = .ok (.ireturn, 1) := by decide +kernel
theorem dX2_backup_0 : decode cX2_backup 0 = .ok (.iload_n 1, 1) := by decide +kernel
theorem dX2_backup_1 : decode cX2_backup 1 = .ok (.iconst 2, 1) := by decide +kernel
theorem dX2_backup_2 : decode cX2_backup 2 = .ok (.if_icmp .ne 8, 3) := by decide +kernel
theorem dX2_backup_5 : decode cX2_backup 5 = .ok (.aload_n 0, 1) := by decide +kernel
theorem dX2_backup_6 : decode cX2_backup 6 = .ok (.getfield 21, 3) := by decide +kernel
theorem dX2_backup_9 : decode cX2_backup 9 = .ok (.ireturn, 1) := by decide +kernel
theorem dX2_backup_10 : decode cX2_backup 10 = .ok (.iload_n 1, 1) := by decide +kernel
theorem dX2_backup_11 : decode cX2_backup 11 = .ok (.ifCond .ne 19, 3) := by decide +kernel
theorem dX2_backup_14 : decode cX2_backup 14 = .ok (.aload_n 0, 1) := by decide +kernel
theorem dX2_backup_15 : decode cX2_backup 15 = .ok (.getfield 33, 3) := by decide +kernel
theorem dX2_backup_18 : decode cX2_backup 18 = .ok (.iload_n 2, 1) := by decide +kernel
theorem dX2_backup_19 : decode cX2_backup 19 = .ok (.baload, 1) := by decide +kernel
theorem dX2_backup_20 : decode cX2_backup 20 = .ok (.ifCond .ne 10, 3) := by decide +kernel
theorem dX2_backup_23 : decode cX2_backup 23 = .ok (.aload_n 0, 1) := by decide +kernel
theorem dX2_backup_24 : decode cX2_backup 24 = .ok (.getfield 15, 3) := by decide +kernel
theorem dX2_backup_27 : decode cX2_backup 27 = .ok (.goto 4, 3) := by decide +kernel
theorem dX2_backup_30 : decode cX2_backup 30 = .ok (.iconst 0, 1) := by decide +kernel
theorem dX2_backup_31 : decode cX2_backup 31 = .ok (.ireturn, 1) := by decide +kernel
theorem dX2_unitsForBackup_0 : decode cX2_unitsForBackup 0 = .ok (.iload_n 1, 1) := by decide +kernel
theorem dX2_unitsForBackup_1 : decode cX2_unitsForBackup 1 = .ok (.iconst 1, 1) := by decide +kernel
theorem dX2_unitsForBackup_2 : decode cX2_unitsForBackup 2 = .ok (.if_icmp .eq 16, 3) := by decide +kernel
theorem dX2_unitsForBackup_5 : decode cX2_unitsForBackup 5 = .ok (.iload_n 1, 1) := by decide +kernel
theorem dX2_unitsForBackup_6 : decode cX2_unitsForBackup 6 = .ok (.ifCond .ne 19, 3) := by decide +kernel
theorem dX2_unitsForBackup_9 : decode cX2_unitsForBackup 9 = .ok (.aload_n 0, 1) := by decide +kernel
theorem dX2_unitsForBackup_10 : decode cX2_unitsForBackup 10 = .ok (.getfield 33, 3) := by decide +kernel
theorem dX2_unitsForBackup_13 : decode cX2_unitsForBackup 13 = .ok (.iload_n 2, 1) := by decide +kernel
theorem dX2_unitsForBackup_14 : decode cX2_unitsForBackup 14 = .ok (.baload, 1) := by decide +kernel
theorem dX2_unitsForBackup_15 : decode cX2_unitsForBackup 15 = .ok (.ifCond .ne 10, 3) := by decide +kernel
theorem dX2_unitsForBackup_18 : decode cX2_unitsForBackup 18 = .ok (.aload_n 0, 1) := by decide +kernel
theorem dX2_unitsForBackup_19 : decode cX2_unitsForBackup 19 = .ok (.getfield 9, 3) := by decide +kernel
theorem dX2_unitsForBackup_22 : decode cX2_unitsForBackup 22 = .ok (.goto 4, 3) := by decide +kernel
theorem dX2_unitsForBackup_25 : decode cX2_unitsForBackup 25 = .ok (.iconst 0, 1) := by decide +kernel
theorem dX2_unitsForBackup_26 : decode cX2_unitsForBackup 26 = .ok (.ireturn, 1) := by decide +kernel
theorem dX2_isStart_0 : decode cX2_isStart 0 = .ok (.iload_n 0, 1) := by decide +kernel
theorem dX2_isStart_1 : decode cX2_isStart 1 = .ok (.ifCond .ne 11, 3) := by decide +kernel
theorem dX2_isStart_4 : decode cX2_isStart 4 = .ok (.iload_n 1, 1) := by decide +kernel
theorem dX2_isStart_5 : decode cX2_isStart 5 = .ok (.ifCond .eq 7, 3) := by decide +kernel
theorem dX2_isStart_8 : decode cX2_isStart 8 = .ok (.iconst 1, 1) := by decide +kernel
theorem dX2_isStart_9 : decode cX2_isStart 9 = .ok (.goto 4, 3) := by decide +kernel
theorem dX2_isStart_12 : decode cX2_isStart 12 = .ok (.iconst 0, 1) := by decide +kernel
theorem dX2_isStart_13 : decode cX2_isStart 13 = .ok (.ireturn, 1) := by decide +kernel
theorem dX2_canFollow_0 : decode cX2_canFollow 0 = .ok (.iload_n 0, 1) := by decide +kernel
theorem dX2_canFollow_1 : decode cX2_canFollow 1 = .ok (.ifCond .eq 12, 3) := by decide +kernel
theorem dX2_canFollow_4 : decode cX2_canFollow 4 = .ok (.iload_n 1, 1) := by decide +kernel
theorem dX2_canFollow_5 : decode cX2_canFollow 5 = .ok (.ifCond .eq 8, 3) := by decide +kernel
theorem dX2_canFollow_8 : decode cX2_canFollow 8 = .ok (.iload_n 0, 1) := by decide +kernel
theorem dX2_canFollow_9 : decode cX2_canFollow 9 = .ok (.iload_n 1, 1) := by decide +kernel
theorem dX2_canFollow_10 : decode cX2_canFollow 10 = .ok (.if_icmp .ne 7, 3) := by decide +kernel
theorem dX2_canFollow_13 : decode cX2_canFollow 13 = .ok (.iconst 1, 1) := by decide +kernel
theorem dX2_canFollow_14 : decode cX2_canFollow 14 = .ok (.goto 4, 3) := by decide +kernel
theorem dX2_canFollow_17 : decode cX2_canFollow 17 = .ok (.iconst 0, 1) := by decide +kernel
theorem dX2_canFollow_18 : decode cX2_canFollow 18 = .ok (.ireturn, 1) := by decide +kernel
theorem dX2_turnTo_0 : decode cX2_turnTo 0 = .ok (.aload_n 0, 1) := by decide +kernel
theorem dX2_turnTo_1 : decode cX2_turnTo 1 = .ok (.getfield 27, 3) := by decide +kernel
theorem dX2_turnTo_4 : decode cX2_turnTo 4 = .ok (.iload_n 1, 1) := by decide +kernel
theorem dX2_turnTo_5 : decode cX2_turnTo 5 = .ok (.invokestatic 37, 3) := by decide +kernel
theorem dX2_turnTo_8 : decode cX2_turnTo 8 = .ok (.ifCond .eq 13, 3) := by decide +kernel
theorem dX2_turnTo_11 : decode cX2_turnTo 11 = .ok (.aload_n 0, 1) := by decide +kernel
theorem dX2_turnTo_12 : decode cX2_turnTo 12 = .ok (.dup, 1) := by decide +kernel
theorem dX2_turnTo_13 : decode cX2_turnTo 13 = .ok (.getfield 30, 3) := by decide +kernel
theorem dX2_turnTo_16 : decode cX2_turnTo 16 = .ok (.iconst 1, 1) := by decide +kernel
theorem dX2_turnTo_17 : decode cX2_turnTo 17 = .ok (.iadd, 1) := by decide +kernel
theorem dX2_turnTo_18 : decode cX2_turnTo 18 = .ok (.putfield 30, 3) := by decide +kernel
theorem dX2_turnTo_21 : decode cX2_turnTo 21 = .ok (.aload_n 0, 1) := by decide +kernel
theorem dX2_turnTo_22 : decode cX2_turnTo 22 = .ok (.iload_n 1, 1) := by decide +kernel
theorem dX2_turnTo_23 : decode cX2_turnTo 23 = .ok (.putfield 27, 3) := by decide +kernel
theorem dX2_turnTo_26 : decode cX2_turnTo 26 = .ok (.return_, 1) := by decide +kernel
