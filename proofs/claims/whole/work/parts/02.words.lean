set_option maxRecDepth 20000 in
theorem ggX0_foresee_X0_lookAt : GoodIn wsX0_foresee wsX0_lookAt := goodIn_r _ [6, 1, 7, 8, 9, 10, 11, 12, 13, 14, 15, 16, 17, 18, 19, 5, 20, 21, 22, 23, 24, 25, 26, 27, 28, 29, 30, 31, 32, 33, 34, 35, 36, 37, 38, 39, 40, 41, 42, 43, 44, 45, 46, 47, 48, 49, 50, 51, 52, 53, 54, 55, 56, 57, 58, 59, 60, 61, 62, 63, 64, 65, 66, 67, 81, 82, 83, 84, 85, 86, 87, 88, 89, 90, 91, 92, 93, 94, 95, 96, 97, 98, 99, 100, 101, 102, 103, 104, 105, 106] rfl (by decide +kernel)
set_option maxRecDepth 20000 in
theorem gX0_foresee_X0_lookAt : GoodIn wsX0_foresee (wsV RX0 41 RX0 yX0_lookAt wsX0_lookAt) := goodIn_app (goodIn_r _ [2, 3, 4, 5] rfl (by decide +kernel)) ggX0_foresee_X0_lookAt
set_option maxRecDepth 20000 in
theorem ggX0_foresee_X0_countStarts : GoodIn wsX0_foresee wsX0_countStarts := goodIn_r _ [71, 72, 73, 74, 75, 5, 76, 21, 22, 77, 26, 78, 79, 80, 81, 82, 83, 84, 85, 86, 87, 88, 89, 99, 100, 101, 102, 103, 104, 105, 106] rfl (by decide +kernel)
set_option maxRecDepth 20000 in
theorem gX0_foresee_X0_countStarts : GoodIn wsX0_foresee (wsV RX0 53 RX0 yX0_countStarts wsX0_countStarts) := goodIn_app (goodIn_r _ [68, 69, 70, 5] rfl (by decide +kernel)) ggX0_foresee_X0_countStarts
set_option maxRecDepth 20000 in
theorem ggX0_lookAt_X0_measure : GoodIn wsX0_lookAt wsX0_measure := goodIn_r _ [16, 17, 18, 19, 4, 1, 20, 21, 22, 23, 24, 25, 26, 27, 28, 29, 30, 31, 64, 65, 66, 67, 68, 69, 70, 71, 72, 73, 74, 75, 76, 77, 78, 79, 80, 81, 82, 83, 84, 85, 86, 87, 88, 89] rfl (by decide +kernel)
set_option maxRecDepth 20000 in
theorem gX0_lookAt_X0_measure : GoodIn wsX0_lookAt (wsV RX0 56 RX0 yX0_measure wsX0_measure) := goodIn_app (goodIn_r _ [12, 13, 14, 15] rfl (by decide +kernel)) ggX0_lookAt_X0_measure
set_option maxRecDepth 20000 in
theorem ggX0_lookAt_X0_isForbidden : GoodIn wsX0_lookAt wsX0_isForbidden := goodIn_r _ [35, 17, 18, 4, 36, 37, 7, 38, 1, 20, 39, 22, 40, 41, 42, 43, 44, 45, 31, 30, 64, 65, 66, 67, 68, 69, 70, 71, 72, 73, 74, 75, 76, 77, 78, 79, 80, 81, 82, 83, 84, 85, 86, 87, 88, 89] rfl (by decide +kernel)
set_option maxRecDepth 20000 in
theorem gX0_lookAt_X0_isForbidden : GoodIn wsX0_lookAt (wsV RX0 59 RX0 yX0_isForbidden wsX0_isForbidden) := goodIn_app (goodIn_r _ [32, 33, 34, 15] rfl (by decide +kernel)) ggX0_lookAt_X0_isForbidden
set_option maxRecDepth 20000 in
theorem ggX0_lookAt_X1_leastUpper : GoodIn wsX0_lookAt wsX1_leastUpper := goodIn_r _ [49, 50, 51, 6, 7, 8, 73, 74, 75, 76, 77, 78, 79, 80, 81] rfl (by decide +kernel)
set_option maxRecDepth 20000 in
theorem gX0_lookAt_X1_leastUpper_n63 : GoodIn wsX0_lookAt (wsX1_leastUpper) := ggX0_lookAt_X1_leastUpper
set_option maxRecDepth 20000 in
theorem ggX0_lookAt_X0_unitsNeeded : GoodIn wsX0_lookAt wsX0_unitsNeeded := goodIn_r _ [55, 1, 17, 18, 56, 22, 57, 58, 42, 25, 64, 65, 66, 67, 68, 69, 70, 71, 72, 73, 74, 75, 76, 77, 78, 79, 80, 81, 82, 83, 84, 85, 86, 87, 88, 89] rfl (by decide +kernel)
set_option maxRecDepth 20000 in
theorem gX0_lookAt_X0_unitsNeeded : GoodIn wsX0_lookAt (wsV RX0 73 RX0 yX0_unitsNeeded wsX0_unitsNeeded) := goodIn_app (goodIn_r _ [52, 53, 54, 15] rfl (by decide +kernel)) ggX0_lookAt_X0_unitsNeeded
set_option maxRecDepth 20000 in
theorem ggX0_lookAt_X1_mostUpper : GoodIn wsX0_lookAt wsX1_mostUpper := goodIn_r _ [61, 62, 63, 10, 7, 11, 73, 74, 75, 76, 77, 78, 79, 80, 81] rfl (by decide +kernel)
set_option maxRecDepth 20000 in
theorem gX0_lookAt_X1_mostUpper_n76 : GoodIn wsX0_lookAt (wsX1_mostUpper) := ggX0_lookAt_X1_mostUpper
set_option maxRecDepth 20000 in
theorem ggX0_measure_X2_letDown : GoodIn wsX0_measure wsX2_letDown := goodIn_r _ [10, 11, 12, 36, 37, 38, 39, 40, 41, 42, 43] rfl (by decide +kernel)
set_option maxRecDepth 20000 in
theorem gX0_measure_X2_letDown_n82 : GoodIn wsX0_measure (wsX2_letDown) := ggX0_measure_X2_letDown
set_option maxRecDepth 20000 in
theorem ggX0_measure_X2_energyOf : GoodIn wsX0_measure wsX2_energyOf := goodIn_r _ [15, 16, 17, 36, 37, 38, 39, 40, 41, 42, 43] rfl (by decide +kernel)
set_option maxRecDepth 20000 in
theorem gX0_measure_X2_energyOf_n87 : GoodIn wsX0_measure (wsX2_energyOf) := ggX0_measure_X2_energyOf
set_option maxRecDepth 20000 in
theorem ggX0_isForbidden_X2_canBe : GoodIn wsX0_isForbidden wsX2_canBe := goodIn_r _ [13, 14, 38, 39, 40, 41, 42, 43, 44, 45] rfl (by decide +kernel)
set_option maxRecDepth 20000 in
theorem gX0_isForbidden_X2_canBe_n90 : GoodIn wsX0_isForbidden (wsX2_canBe) := ggX0_isForbidden_X2_canBe
set_option maxRecDepth 20000 in
theorem ggX0_isForbidden_X2_backup : GoodIn wsX0_isForbidden wsX2_backup := goodIn_r _ [17, 18, 14, 19, 38, 39, 40, 41, 42, 43, 44, 45] rfl (by decide +kernel)
set_option maxRecDepth 20000 in
theorem gX0_isForbidden_X2_backup_n103 : GoodIn wsX0_isForbidden (wsX2_backup) := ggX0_isForbidden_X2_backup
set_option maxRecDepth 20000 in
theorem ggX0_unitsNeeded_X2_unitsForBackup : GoodIn wsX0_unitsNeeded wsX2_unitsForBackup := goodIn_r _ [7, 8, 9, 28, 29, 30, 31, 32, 33, 34, 35] rfl (by decide +kernel)
set_option maxRecDepth 20000 in
theorem gX0_unitsNeeded_X2_unitsForBackup_n109 : GoodIn wsX0_unitsNeeded (wsX2_unitsForBackup) := ggX0_unitsNeeded_X2_unitsForBackup
set_option maxRecDepth 20000 in
theorem ggX0_startCost_X2_canFollow : GoodIn wsX0_startCost wsX2_canFollow := goodIn_r _ [5] rfl (by decide +kernel)
set_option maxRecDepth 20000 in
theorem gX0_startCost_X2_canFollow_n112 : GoodIn wsX0_startCost (wsX2_canFollow) := ggX0_startCost_X2_canFollow
set_option maxRecDepth 20000 in
theorem ggX0_startCost_X2_isStart : GoodIn wsX0_startCost wsX2_isStart := goodIn_r _ [7] rfl (by decide +kernel)
set_option maxRecDepth 20000 in
theorem gX0_startCost_X2_isStart_n115 : GoodIn wsX0_startCost (wsX2_isStart) := ggX0_startCost_X2_isStart
set_option maxRecDepth 20000 in
theorem ggX0_countStarts_X0_startCost : GoodIn wsX0_countStarts wsX0_startCost := goodIn_r _ [6, 7, 8, 9, 10, 11, 12, 13, 14, 15, 16, 17, 18, 19, 20, 21, 22, 23, 24, 25, 26, 27, 28, 29, 30] rfl (by decide +kernel)
set_option maxRecDepth 20000 in
theorem gX0_countStarts_X0_startCost : GoodIn wsX0_countStarts (wsV RX0 121 RX0 yX0_startCost wsX0_startCost) := goodIn_app (goodIn_r _ [2, 3, 4, 5] rfl (by decide +kernel)) ggX0_countStarts_X0_startCost
set_option maxRecDepth 20000 in
theorem ggX2_turnTo_X2_isStart : GoodIn wsX2_turnTo wsX2_isStart := goodIn_r _ [6] rfl (by decide +kernel)
set_option maxRecDepth 20000 in
theorem gX2_turnTo_X2_isStart : GoodIn wsX2_turnTo (va_wsS RX2 37 yX2_isStart wsX2_isStart) := goodIn_app (goodIn_r _ [3, 4, 5] rfl (by decide +kernel)) ggX2_turnTo_X2_isStart
set_option maxRecDepth 20000 in
theorem ggX3_init_J7_fill_53178 : GoodIn wsX3_init wsJ7_fill_53178 := goodIn_r _ [13] rfl (by decide +kernel)
set_option maxRecDepth 20000 in
theorem gX3_init_J7_fill_53178 : GoodIn wsX3_init (va_wsS RX3 28 yJ7_fill_53178 wsJ7_fill_53178) := goodIn_app (goodIn_r _ [10, 11, 12] rfl (by decide +kernel)) ggX3_init_J7_fill_53178
set_option maxRecDepth 20000 in
theorem ggX3_plan_J7_fill_53178 : GoodIn wsX3_plan wsJ7_fill_53178 := goodIn_r _ [8] rfl (by decide +kernel)
set_option maxRecDepth 20000 in
theorem gX3_plan_J7_fill_53178 : GoodIn wsX3_plan (va_wsS RX3 28 yJ7_fill_53178 wsJ7_fill_53178) := goodIn_app (goodIn_r _ [5, 6, 7] rfl (by decide +kernel)) ggX3_plan_J7_fill_53178
set_option maxRecDepth 20000 in
theorem ggX3_plan_X3_tryFromAllModes : GoodIn wsX3_plan wsX3_tryFromAllModes := goodIn_r _ [13, 14, 15, 16, 17, 18, 12, 19, 1, 3, 2, 4, 20, 21, 22, 23, 24, 25, 26, 27, 28, 29, 30, 31, 32, 33] rfl (by decide +kernel)
set_option maxRecDepth 20000 in
theorem gX3_plan_X3_tryFromAllModes : GoodIn wsX3_plan (wsV RX3 35 RX3 yX3_tryFromAllModes wsX3_tryFromAllModes) := goodIn_app (goodIn_r _ [9, 10, 11, 12] rfl (by decide +kernel)) ggX3_plan_X3_tryFromAllModes
set_option maxRecDepth 20000 in
theorem ggX3_tryFromAllModes_X3_tryAtAllLevels : GoodIn wsX3_tryFromAllModes wsX3_tryAtAllLevels := goodIn_r _ [7, 8, 9, 10, 11, 17, 18, 19, 20, 21, 22, 23, 24, 25, 12, 13, 14, 15, 16] rfl (by decide +kernel)
set_option maxRecDepth 20000 in
theorem gX3_tryFromAllModes_X3_tryAtAllLevels : GoodIn wsX3_tryFromAllModes (wsV RX3 47 RX3 yX3_tryAtAllLevels wsX3_tryAtAllLevels) := goodIn_app (goodIn_r _ [3, 4, 5, 6] rfl (by decide +kernel)) ggX3_tryFromAllModes_X3_tryAtAllLevels
set_option maxRecDepth 20000 in
theorem ggX4_init_X1_init : GoodIn wsX4_init wsX1_init := goodIn_r _ [32, 33, 2, 3, 34, 35, 36, 37, 38, 39, 22, 40, 41, 42, 80, 81, 82, 83, 84, 85, 86, 87, 88] rfl (by decide +kernel)
set_option maxRecDepth 20000 in
theorem gX4_init_X1_init_n9 : GoodIn wsX4_init (wsX1_init) := ggX4_init_X1_init
set_option maxRecDepth 20000 in
theorem ggX4_init_X2_init : GoodIn wsX4_init wsX2_init := goodIn_r _ [44, 45, 2, 3, 46, 47, 48, 49, 50, 51, 52, 53, 54, 102, 103, 104, 105, 106, 107, 108, 109] rfl (by decide +kernel)
set_option maxRecDepth 20000 in
theorem gX4_init_X2_init_n18 : GoodIn wsX4_init (wsX2_init) := ggX4_init_X2_init
set_option maxRecDepth 20000 in
theorem ggX4_init_X0_init : GoodIn wsX4_init wsX0_init := goodIn_r _ [56, 57, 2, 3, 22, 58, 59, 60, 61, 62, 63, 64, 65, 66, 110, 111, 112, 113, 114, 115, 116, 117, 118] rfl (by decide +kernel)
set_option maxRecDepth 20000 in
theorem gX4_init_X0_init_n28 : GoodIn wsX4_init (wsX0_init) := ggX4_init_X0_init
set_option maxRecDepth 20000 in
theorem ggX4_init_X3_init : GoodIn wsX4_init wsX3_init := goodIn_r _ [68, 69, 2, 3, 22, 70, 71, 72, 73, 74, 75, 76, 77, 78, 119, 120, 121, 122, 123] rfl (by decide +kernel)
set_option maxRecDepth 20000 in
theorem gX4_init_X3_init_n41 : GoodIn wsX4_init (wsX3_init) := ggX4_init_X3_init
set_option maxRecDepth 20000 in
theorem ggX4_init_J7_fill_53178 : GoodIn wsX4_init wsJ7_fill_53178 := goodIn_r _ [78] rfl (by decide +kernel)
set_option maxRecDepth 20000 in
theorem gX4_init_J7_fill_53178 : GoodIn wsX4_init (va_wsS RX4 70 yJ7_fill_53178 wsJ7_fill_53178) := goodIn_app (goodIn_r _ [79, 76, 77] rfl (by decide +kernel)) ggX4_init_J7_fill_53178
set_option maxRecDepth 20000 in
theorem ggX4_lakes_X4_within : GoodIn wsX4_lakes wsX4_within := goodIn_r _ [6] rfl (by decide +kernel)
set_option maxRecDepth 20000 in
theorem gX4_lakes_X4_within : GoodIn wsX4_lakes (va_wsS RX4 76 yX4_within wsX4_within) := goodIn_app (goodIn_r _ [3, 4, 5] rfl (by decide +kernel)) ggX4_lakes_X4_within
set_option maxRecDepth 20000 in
theorem ggX4_lakes_X4_changed : GoodIn wsX4_lakes wsX4_changed := goodIn_r _ [10, 11, 12, 13, 14, 15, 16, 17, 18, 19, 20, 21, 22, 23, 24, 25, 26, 27, 28, 29, 30] rfl (by decide +kernel)
set_option maxRecDepth 20000 in
theorem gX4_lakes_X4_changed : GoodIn wsX4_lakes (wsV RX4 92 RX4 yX4_changed wsX4_changed) := goodIn_app (goodIn_r _ [7, 8, 9, 5] rfl (by decide +kernel)) ggX4_lakes_X4_changed
set_option maxRecDepth 20000 in
theorem ggX4_speeds_X4_within : GoodIn wsX4_speeds wsX4_within := goodIn_r _ [5] rfl (by decide +kernel)
set_option maxRecDepth 20000 in
theorem gX4_speeds_X4_within : GoodIn wsX4_speeds (va_wsS RX4 76 yX4_within wsX4_within) := goodIn_app (goodIn_r _ [2, 3, 4] rfl (by decide +kernel)) ggX4_speeds_X4_within
set_option maxRecDepth 20000 in
theorem ggX4_speeds_X4_changed : GoodIn wsX4_speeds wsX4_changed := goodIn_r _ [9, 10, 11, 12, 13, 14, 15, 16, 17, 18, 19, 20, 21, 22, 23, 24, 25, 26, 27, 28, 29] rfl (by decide +kernel)
set_option maxRecDepth 20000 in
theorem gX4_speeds_X4_changed : GoodIn wsX4_speeds (wsV RX4 92 RX4 yX4_changed wsX4_changed) := goodIn_app (goodIn_r _ [6, 7, 8, 4] rfl (by decide +kernel)) ggX4_speeds_X4_changed
set_option maxRecDepth 20000 in
theorem ggX4_flows_X4_isHour : GoodIn wsX4_flows wsX4_isHour := goodIn_r _ [5, 6, 7, 4, 8] rfl (by decide +kernel)
set_option maxRecDepth 20000 in
theorem gX4_flows_X4_isHour : GoodIn wsX4_flows (va_wsS RX4 102 yX4_isHour wsX4_isHour) := goodIn_app (goodIn_r _ [2, 3, 4] rfl (by decide +kernel)) ggX4_flows_X4_isHour
set_option maxRecDepth 20000 in
theorem ggX4_flows_X4_within : GoodIn wsX4_flows wsX4_within := goodIn_r _ [8] rfl (by decide +kernel)
set_option maxRecDepth 20000 in
theorem gX4_flows_X4_within : GoodIn wsX4_flows (va_wsS RX4 76 yX4_within wsX4_within) := goodIn_app (goodIn_r _ [6, 7, 4] rfl (by decide +kernel)) ggX4_flows_X4_within
set_option maxRecDepth 20000 in
theorem ggX4_flows_X4_changed : GoodIn wsX4_flows wsX4_changed := goodIn_r _ [12, 13, 14, 15, 16, 17, 18, 19, 20, 21, 22, 23, 24, 25, 26, 27, 28, 29, 30, 31, 32] rfl (by decide +kernel)
set_option maxRecDepth 20000 in
theorem gX4_flows_X4_changed : GoodIn wsX4_flows (wsV RX4 92 RX4 yX4_changed wsX4_changed) := goodIn_app (goodIn_r _ [9, 10, 11, 4] rfl (by decide +kernel)) ggX4_flows_X4_changed
set_option maxRecDepth 20000 in
theorem ggX4_machine_X4_isMachine : GoodIn wsX4_machine wsX4_isMachine := goodIn_r _ [4, 5, 6, 3, 7] rfl (by decide +kernel)
set_option maxRecDepth 20000 in
theorem gX4_machine_X4_isMachine : GoodIn wsX4_machine (va_wsS RX4 112 yX4_isMachine wsX4_isMachine) := goodIn_app (goodIn_r _ [1, 2, 3] rfl (by decide +kernel)) ggX4_machine_X4_isMachine
set_option maxRecDepth 20000 in
theorem ggX4_machine_X4_isOfMachine : GoodIn wsX4_machine wsX4_isOfMachine := goodIn_r _ [10, 5, 6, 3, 7] rfl (by decide +kernel)
set_option maxRecDepth 20000 in
theorem gX4_machine_X4_isOfMachine : GoodIn wsX4_machine (va_wsS RX4 115 yX4_isOfMachine wsX4_isOfMachine) := goodIn_app (goodIn_r _ [8, 9, 3] rfl (by decide +kernel)) ggX4_machine_X4_isOfMachine
set_option maxRecDepth 20000 in
theorem ggX4_machine_X4_machineOf : GoodIn wsX4_machine wsX4_machineOf := goodIn_r _ [14, 15, 16, 36, 37, 38, 39, 40, 41, 42, 43, 44, 45, 46, 47, 48] rfl (by decide +kernel)
set_option maxRecDepth 20000 in
theorem gX4_machine_X4_machineOf : GoodIn wsX4_machine (wsV RX4 118 RX4 yX4_machineOf wsX4_machineOf) := goodIn_app (goodIn_r _ [11, 12, 13, 3] rfl (by decide +kernel)) ggX4_machine_X4_machineOf
set_option maxRecDepth 20000 in
theorem ggX4_machine_X4_changed : GoodIn wsX4_machine wsX4_changed := goodIn_r _ [20, 21, 22, 23, 24, 25, 26, 27, 36, 37, 38, 39, 40, 41, 42, 43, 44, 45, 46, 47, 48] rfl (by decide +kernel)
set_option maxRecDepth 20000 in
theorem gX4_machine_X4_changed : GoodIn wsX4_machine (wsV RX4 92 RX4 yX4_changed wsX4_changed) := goodIn_app (goodIn_r _ [17, 18, 19, 3] rfl (by decide +kernel)) ggX4_machine_X4_changed
set_option maxRecDepth 20000 in
theorem ggX4_out_X4_isMachine : GoodIn wsX4_out wsX4_isMachine := goodIn_r _ [4, 5, 6, 3, 7] rfl (by decide +kernel)
set_option maxRecDepth 20000 in
theorem gX4_out_X4_isMachine : GoodIn wsX4_out (va_wsS RX4 112 yX4_isMachine wsX4_isMachine) := goodIn_app (goodIn_r _ [1, 2, 3] rfl (by decide +kernel)) ggX4_out_X4_isMachine
set_option maxRecDepth 20000 in
theorem ggX4_out_X4_isHour : GoodIn wsX4_out wsX4_isHour := goodIn_r _ [10, 5, 6, 3, 7] rfl (by decide +kernel)
set_option maxRecDepth 20000 in
theorem gX4_out_X4_isHour : GoodIn wsX4_out (va_wsS RX4 102 yX4_isHour wsX4_isHour) := goodIn_app (goodIn_r _ [8, 9, 3] rfl (by decide +kernel)) ggX4_out_X4_isHour
set_option maxRecDepth 20000 in
theorem ggX4_out_X4_machineOf : GoodIn wsX4_out wsX4_machineOf := goodIn_r _ [14, 15, 16, 36, 37, 38, 39, 40, 41, 42, 43, 44, 45, 46, 47, 48] rfl (by decide +kernel)
set_option maxRecDepth 20000 in
theorem gX4_out_X4_machineOf : GoodIn wsX4_out (wsV RX4 118 RX4 yX4_machineOf wsX4_machineOf) := goodIn_app (goodIn_r _ [11, 12, 13, 3] rfl (by decide +kernel)) ggX4_out_X4_machineOf
set_option maxRecDepth 20000 in
theorem ggX4_out_X4_changed : GoodIn wsX4_out wsX4_changed := goodIn_r _ [20, 21, 22, 23, 24, 25, 26, 27, 36, 37, 38, 39, 40, 41, 42, 43, 44, 45, 46, 47, 48] rfl (by decide +kernel)
set_option maxRecDepth 20000 in
theorem gX4_out_X4_changed : GoodIn wsX4_out (wsV RX4 92 RX4 yX4_changed wsX4_changed) := goodIn_app (goodIn_r _ [17, 18, 19, 3] rfl (by decide +kernel)) ggX4_out_X4_changed
set_option maxRecDepth 20000 in
theorem ggX4_reserve_X4_isHour : GoodIn wsX4_reserve wsX4_isHour := goodIn_r _ [5, 6, 7, 4, 8] rfl (by decide +kernel)
set_option maxRecDepth 20000 in
theorem gX4_reserve_X4_isHour : GoodIn wsX4_reserve (va_wsS RX4 102 yX4_isHour wsX4_isHour) := goodIn_app (goodIn_r _ [2, 3, 4] rfl (by decide +kernel)) ggX4_reserve_X4_isHour
set_option maxRecDepth 20000 in
theorem ggX4_reserve_X4_within : GoodIn wsX4_reserve wsX4_within := goodIn_r _ [8] rfl (by decide +kernel)
set_option maxRecDepth 20000 in
theorem gX4_reserve_X4_within : GoodIn wsX4_reserve (va_wsS RX4 76 yX4_within wsX4_within) := goodIn_app (goodIn_r _ [6, 7, 4] rfl (by decide +kernel)) ggX4_reserve_X4_within
set_option maxRecDepth 20000 in
theorem ggX4_reserve_X4_changed : GoodIn wsX4_reserve wsX4_changed := goodIn_r _ [12, 13, 14, 15, 16, 17, 18, 19, 20, 21, 22, 23, 24, 25, 26, 27, 28, 29, 30, 31, 32] rfl (by decide +kernel)
set_option maxRecDepth 20000 in
theorem gX4_reserve_X4_changed : GoodIn wsX4_reserve (wsV RX4 92 RX4 yX4_changed wsX4_changed) := goodIn_app (goodIn_r _ [9, 10, 11, 4] rfl (by decide +kernel)) ggX4_reserve_X4_changed
set_option maxRecDepth 20000 in
theorem ggX4_weights_X4_within : GoodIn wsX4_weights wsX4_within := goodIn_r _ [5] rfl (by decide +kernel)
set_option maxRecDepth 20000 in
theorem gX4_weights_X4_within : GoodIn wsX4_weights (va_wsS RX4 76 yX4_within wsX4_within) := goodIn_app (goodIn_r _ [2, 3, 4] rfl (by decide +kernel)) ggX4_weights_X4_within
set_option maxRecDepth 20000 in
theorem ggX4_weights_X4_changed : GoodIn wsX4_weights wsX4_changed := goodIn_r _ [9, 10, 11, 12, 13, 14, 15, 16, 17, 18, 19, 20, 21, 22, 23, 24, 25, 26, 27, 28, 29] rfl (by decide +kernel)
set_option maxRecDepth 20000 in
theorem gX4_weights_X4_changed : GoodIn wsX4_weights (wsV RX4 92 RX4 yX4_changed wsX4_changed) := goodIn_app (goodIn_r _ [6, 7, 8, 4] rfl (by decide +kernel)) ggX4_weights_X4_changed
set_option maxRecDepth 20000 in
theorem ggX4_price_X4_isWorld : GoodIn wsX4_price wsX4_isWorld := goodIn_r _ [5, 6, 7, 4, 8] rfl (by decide +kernel)
set_option maxRecDepth 20000 in
theorem gX4_price_X4_isWorld : GoodIn wsX4_price (va_wsS RX4 144 yX4_isWorld wsX4_isWorld) := goodIn_app (goodIn_r _ [2, 3, 4] rfl (by decide +kernel)) ggX4_price_X4_isWorld
set_option maxRecDepth 20000 in
theorem ggX4_price_X4_isHour : GoodIn wsX4_price wsX4_isHour := goodIn_r _ [11, 6, 7, 4, 8] rfl (by decide +kernel)
set_option maxRecDepth 20000 in
theorem gX4_price_X4_isHour : GoodIn wsX4_price (va_wsS RX4 102 yX4_isHour wsX4_isHour) := goodIn_app (goodIn_r _ [9, 10, 4] rfl (by decide +kernel)) ggX4_price_X4_isHour
set_option maxRecDepth 20000 in
theorem ggX4_price_X4_within : GoodIn wsX4_price wsX4_within := goodIn_r _ [8] rfl (by decide +kernel)
set_option maxRecDepth 20000 in
theorem gX4_price_X4_within : GoodIn wsX4_price (va_wsS RX4 76 yX4_within wsX4_within) := goodIn_app (goodIn_r _ [6, 7, 4] rfl (by decide +kernel)) ggX4_price_X4_within
set_option maxRecDepth 20000 in
theorem ggX4_price_X4_changed : GoodIn wsX4_price wsX4_changed := goodIn_r _ [15, 16, 17, 18, 19, 20, 21, 22, 23, 24, 25, 26, 27, 28, 29, 30, 31, 32, 33, 34, 35] rfl (by decide +kernel)
set_option maxRecDepth 20000 in
theorem gX4_price_X4_changed : GoodIn wsX4_price (wsV RX4 92 RX4 yX4_changed wsX4_changed) := goodIn_app (goodIn_r _ [12, 13, 14, 4] rfl (by decide +kernel)) ggX4_price_X4_changed
set_option maxRecDepth 20000 in
theorem ggX4_reveal_X4_within : GoodIn wsX4_reveal wsX4_within := goodIn_r _ [5] rfl (by decide +kernel)
set_option maxRecDepth 20000 in
theorem gX4_reveal_X4_within : GoodIn wsX4_reveal (va_wsS RX4 76 yX4_within wsX4_within) := goodIn_app (goodIn_r _ [2, 3, 4] rfl (by decide +kernel)) ggX4_reveal_X4_within
set_option maxRecDepth 20000 in
theorem ggX4_reveal_X4_changed : GoodIn wsX4_reveal wsX4_changed := goodIn_r _ [9, 10, 11, 12, 13, 14, 15, 16, 17, 18, 19, 20, 21, 22, 23, 24, 25, 26, 27, 28, 29] rfl (by decide +kernel)
set_option maxRecDepth 20000 in
theorem gX4_reveal_X4_changed : GoodIn wsX4_reveal (wsV RX4 92 RX4 yX4_changed wsX4_changed) := goodIn_app (goodIn_r _ [6, 7, 8, 4] rfl (by decide +kernel)) ggX4_reveal_X4_changed
set_option maxRecDepth 20000 in
theorem ggX4_end_X4_within : GoodIn wsX4_end wsX4_within := goodIn_r _ [5] rfl (by decide +kernel)
set_option maxRecDepth 20000 in
theorem gX4_end_X4_within : GoodIn wsX4_end (va_wsS RX4 76 yX4_within wsX4_within) := goodIn_app (goodIn_r _ [2, 3, 4] rfl (by decide +kernel)) ggX4_end_X4_within
set_option maxRecDepth 20000 in
theorem ggX4_end_X4_changed : GoodIn wsX4_end wsX4_changed := goodIn_r _ [9, 10, 11, 12, 13, 14, 15, 16, 17, 18, 19, 20, 21, 22, 23, 24, 25, 26, 27, 28, 29] rfl (by decide +kernel)
set_option maxRecDepth 20000 in
theorem gX4_end_X4_changed : GoodIn wsX4_end (wsV RX4 92 RX4 yX4_changed wsX4_changed) := goodIn_app (goodIn_r _ [6, 7, 8, 4] rfl (by decide +kernel)) ggX4_end_X4_changed
set_option maxRecDepth 20000 in
theorem ggX4_legal_X4_isMode : GoodIn wsX4_legal wsX4_isMode := goodIn_r _ [5, 6, 7, 4, 8] rfl (by decide +kernel)
set_option maxRecDepth 20000 in
theorem gX4_legal_X4_isMode : GoodIn wsX4_legal (va_wsS RX4 150 yX4_isMode wsX4_isMode) := goodIn_app (goodIn_r _ [2, 3, 4] rfl (by decide +kernel)) ggX4_legal_X4_isMode
set_option maxRecDepth 20000 in
theorem ggX4_legal_X4_isLegalNow : GoodIn wsX4_legal wsX4_isLegalNow := goodIn_r _ [12, 13, 1, 14, 15, 16, 17, 18, 19, 20, 21, 22, 23, 24, 25, 26, 27, 28, 29, 30, 31, 32, 33, 34, 35, 36, 37, 38, 39, 40, 41, 42, 43, 44, 45, 46, 47, 48, 49, 50, 51, 52, 53, 54, 55, 56, 57, 58, 59, 60, 61, 62, 63, 64, 65, 66, 67, 68, 69, 70, 71, 72, 73, 74, 75, 76, 77, 78, 79, 80, 81, 82, 83, 4, 84, 85, 86, 87, 88, 89, 90, 91, 92, 93, 94, 95, 96, 97, 98, 99, 100, 101, 102, 103, 104, 105, 106, 107, 108, 109, 110, 111, 112, 113, 114, 115, 116, 117, 118, 119, 120, 121, 122, 123, 124, 125, 126, 127, 128, 129, 130, 131, 132, 133, 134, 135] rfl (by decide +kernel)
set_option maxRecDepth 20000 in
theorem gX4_legal_X4_isLegalNow : GoodIn wsX4_legal (wsV RX4 153 RX4 yX4_isLegalNow wsX4_isLegalNow) := goodIn_app (goodIn_r _ [9, 10, 11, 4] rfl (by decide +kernel)) ggX4_legal_X4_isLegalNow
set_option maxRecDepth 20000 in
theorem ggX4_worth_X4_worthWith : GoodIn wsX4_worth wsX4_worthWith := goodIn_r _ [6, 7, 8, 9, 10, 11, 12, 5, 13, 14, 15, 1, 16, 17, 18, 19, 20, 21, 22, 23, 24, 25, 26, 27, 28, 29, 30, 31, 32, 33, 34, 35, 36, 37, 38, 39, 40, 41, 42, 43, 44, 45, 46, 47, 48, 49, 50, 51, 52, 53, 54, 55, 56, 57, 58, 59, 60, 61, 62, 63, 64, 65, 66, 67, 68, 69, 70, 71, 72, 73, 74, 75, 76, 77, 78, 79, 80, 81, 82, 83, 84, 85, 86, 87, 88, 89, 90, 91, 92, 93, 94, 95, 96, 97, 98, 99, 100, 101, 102, 103, 104, 105, 106, 107, 108, 109, 110, 111, 112, 113, 114, 115, 116, 117, 118, 119, 120, 121, 122, 123, 124, 125, 126, 127, 128, 129, 130, 131, 132, 133, 134, 135, 136, 137, 138, 139, 140, 141, 142, 143, 144, 145, 146, 147, 148, 149, 150, 151, 152, 153, 154, 155, 156, 157, 158, 159, 169, 170, 171, 172, 173, 160, 161, 162, 163, 164, 165, 166, 167, 168, 174, 175, 176, 177, 178, 179, 180, 181, 182, 183, 184, 185, 186, 187, 188, 189, 190] rfl (by decide +kernel)
set_option maxRecDepth 20000 in
theorem gX4_worth_X4_worthWith : GoodIn wsX4_worth (wsV RX4 156 RX4 yX4_worthWith wsX4_worthWith) := goodIn_app (goodIn_r _ [2, 3, 4, 5] rfl (by decide +kernel)) ggX4_worth_X4_worthWith
set_option maxRecDepth 20000 in
theorem ggX4_mode_X4_isWorld : GoodIn wsX4_mode wsX4_isWorld := goodIn_r _ [5, 6, 7, 4, 8] rfl (by decide +kernel)
set_option maxRecDepth 20000 in
theorem gX4_mode_X4_isWorld : GoodIn wsX4_mode (va_wsS RX4 144 yX4_isWorld wsX4_isWorld) := goodIn_app (goodIn_r _ [2, 3, 4] rfl (by decide +kernel)) ggX4_mode_X4_isWorld
set_option maxRecDepth 20000 in
theorem ggX4_mode_X4_isMachine : GoodIn wsX4_mode wsX4_isMachine := goodIn_r _ [11, 6, 7, 4, 8] rfl (by decide +kernel)
set_option maxRecDepth 20000 in
theorem gX4_mode_X4_isMachine : GoodIn wsX4_mode (va_wsS RX4 112 yX4_isMachine wsX4_isMachine) := goodIn_app (goodIn_r _ [9, 10, 4] rfl (by decide +kernel)) ggX4_mode_X4_isMachine
set_option maxRecDepth 20000 in
theorem ggX4_mode_X4_bestDoing : GoodIn wsX4_mode wsX4_bestDoing := goodIn_r _ [15, 1, 16, 17, 18, 19, 20, 21, 22, 23, 24, 25, 4, 26, 27, 28, 29, 30, 31, 32, 33, 34, 35, 36, 37, 38, 39, 40, 41, 42, 43, 44, 45, 46, 47, 48, 49, 50, 51, 52, 53, 54, 55, 56, 57, 58, 59, 60, 61, 62, 63, 64, 65, 66, 67, 68, 69, 70, 71, 72, 73, 74, 75, 76, 77, 78, 79, 80, 81, 82, 83, 84, 85, 86, 87, 88, 89, 90, 91, 92, 93, 94, 95, 96, 97, 98, 99, 100, 101, 102, 103, 104, 105, 106, 107, 108, 109, 110, 111, 112, 113, 114, 115, 116, 117, 118, 119, 120, 121, 122, 123, 124, 125, 126, 127, 128, 129, 130, 131, 132, 133, 134, 135, 136, 137, 138, 139, 140, 141, 142, 143, 144, 145, 146, 147, 148, 149, 150, 151, 152, 153, 154, 155, 156, 157, 158, 159, 160, 161, 162, 163, 164, 165, 166, 167, 168, 169, 170, 171, 172, 173, 174, 175, 176, 177, 178, 179, 180, 181, 182, 183, 184, 185, 186, 187, 188, 189, 190, 191, 192, 193, 194, 195, 196, 197, 198, 199] rfl (by decide +kernel)
set_option maxRecDepth 20000 in
theorem gX4_mode_X4_bestDoing : GoodIn wsX4_mode (wsV RX4 160 RX4 yX4_bestDoing wsX4_bestDoing) := goodIn_app (goodIn_r _ [12, 13, 14, 4] rfl (by decide +kernel)) ggX4_mode_X4_bestDoing
set_option maxRecDepth 20000 in
theorem ggX4_water_X4_within : GoodIn wsX4_water wsX4_within := goodIn_r _ [6] rfl (by decide +kernel)
set_option maxRecDepth 20000 in
theorem gX4_water_X4_within : GoodIn wsX4_water (va_wsS RX4 76 yX4_within wsX4_within) := goodIn_app (goodIn_r _ [3, 4, 5] rfl (by decide +kernel)) ggX4_water_X4_within
set_option maxRecDepth 20000 in
theorem ggX4_water_X4_worthWith : GoodIn wsX4_water wsX4_worthWith := goodIn_r _ [10, 11, 12, 13, 14, 15, 16, 5, 17, 18, 19, 1, 20, 21, 22, 23, 24, 25, 26, 27, 28, 29, 30, 31, 32, 33, 34, 35, 36, 37, 38, 39, 40, 41, 42, 43, 44, 45, 46, 47, 48, 49, 50, 51, 52, 53, 54, 55, 56, 57, 58, 59, 60, 61, 62, 63, 64, 65, 66, 67, 68, 69, 70, 71, 72, 73, 74, 75, 76, 77, 78, 79, 80, 81, 82, 83, 84, 85, 86, 87, 88, 89, 90, 91, 92, 93, 94, 95, 96, 97, 98, 99, 100, 101, 102, 103, 104, 105, 106, 107, 108, 109, 110, 111, 112, 113, 114, 115, 116, 117, 118, 119, 120, 121, 122, 123, 124, 125, 126, 127, 128, 129, 130, 131, 132, 133, 134, 135, 136, 137, 138, 139, 140, 141, 142, 143, 144, 145, 146, 147, 148, 149, 150, 151, 152, 153, 154, 155, 156, 157, 158, 159, 160, 161, 162, 163, 173, 174, 175, 176, 177, 164, 165, 166, 167, 168, 169, 170, 171, 172, 178, 179, 180, 181, 182, 183, 184, 185, 186, 187, 188, 189, 190, 191, 192, 193, 194] rfl (by decide +kernel)
set_option maxRecDepth 20000 in
theorem gX4_water_X4_worthWith : GoodIn wsX4_water (wsV RX4 156 RX4 yX4_worthWith wsX4_worthWith) := goodIn_app (goodIn_r _ [7, 8, 9, 5] rfl (by decide +kernel)) ggX4_water_X4_worthWith
set_option maxRecDepth 20000 in
theorem ggX4_runs_X4_within : GoodIn wsX4_runs wsX4_within := goodIn_r _ [5] rfl (by decide +kernel)
set_option maxRecDepth 20000 in
theorem gX4_runs_X4_within : GoodIn wsX4_runs (va_wsS RX4 76 yX4_within wsX4_within) := goodIn_app (goodIn_r _ [2, 3, 4] rfl (by decide +kernel)) ggX4_runs_X4_within
set_option maxRecDepth 20000 in
theorem ggX4_runs_X4_isWorld : GoodIn wsX4_runs wsX4_isWorld := goodIn_r _ [8, 2, 3, 4, 5] rfl (by decide +kernel)
set_option maxRecDepth 20000 in
theorem gX4_runs_X4_isWorld : GoodIn wsX4_runs (va_wsS RX4 144 yX4_isWorld wsX4_isWorld) := goodIn_app (goodIn_r _ [6, 7, 4] rfl (by decide +kernel)) ggX4_runs_X4_isWorld
set_option maxRecDepth 20000 in
theorem ggX4_runs_X4_bestDoing : GoodIn wsX4_runs wsX4_bestDoing := goodIn_r _ [12, 1, 13, 14, 15, 16, 17, 18, 19, 20, 21, 22, 4, 23, 24, 25, 26, 27, 28, 29, 30, 31, 32, 33, 34, 35, 36, 37, 38, 39, 40, 41, 42, 43, 44, 45, 46, 47, 48, 49, 50, 51, 52, 53, 54, 55, 56, 57, 58, 59, 60, 61, 62, 63, 64, 65, 66, 67, 68, 69, 70, 71, 72, 73, 74, 75, 76, 77, 78, 79, 80, 81, 82, 83, 84, 85, 86, 87, 88, 89, 90, 91, 92, 93, 94, 95, 96, 97, 98, 99, 100, 101, 102, 103, 104, 105, 106, 107, 108, 109, 110, 111, 112, 113, 114, 115, 116, 117, 118, 119, 120, 121, 122, 123, 124, 125, 126, 127, 128, 129, 130, 131, 132, 133, 134, 135, 136, 137, 138, 139, 140, 141, 142, 143, 144, 145, 146, 147, 148, 149, 150, 151, 152, 169, 170, 171, 172, 173, 174, 175, 176, 177, 178, 179, 180, 181, 182, 183, 184, 185, 186, 187, 188, 189, 190, 191, 192, 193, 194, 195, 196, 197, 198, 199, 200, 201, 202, 203, 204, 205, 206, 207, 208, 209, 210, 211, 212] rfl (by decide +kernel)
set_option maxRecDepth 20000 in
theorem gX4_runs_X4_bestDoing : GoodIn wsX4_runs (wsV RX4 160 RX4 yX4_bestDoing wsX4_bestDoing) := goodIn_app (goodIn_r _ [9, 10, 11, 4] rfl (by decide +kernel)) ggX4_runs_X4_bestDoing
set_option maxRecDepth 20000 in
theorem ggX4_runs_X4_carryOut : GoodIn wsX4_runs wsX4_carryOut := goodIn_r _ [156, 17, 1, 16, 19, 151, 152, 157, 31, 26, 32, 33, 29, 34, 35, 36, 37, 38, 39, 40, 41, 42, 43, 44, 45, 46, 47, 48, 49, 50, 51, 52, 53, 54, 55, 56, 57, 58, 59, 60, 61, 62, 63, 64, 65, 66, 67, 68, 69, 70, 71, 72, 73, 74, 75, 76, 77, 78, 79, 80, 81, 82, 83, 84, 85, 86, 87, 88, 89, 90, 91, 92, 93, 94, 147, 148, 149, 4, 150, 101, 102, 103, 104, 105, 106, 107, 158, 159, 160, 161, 162, 163, 164, 165, 166, 167, 168, 15, 14, 143, 126, 127, 128, 169, 170, 171, 172, 173, 174, 175, 176, 177, 178, 179, 180, 181, 182, 183, 184, 185, 186, 187, 188, 189, 190, 191, 192, 193, 194, 195, 196, 197, 198, 199, 200, 201, 202, 203, 204, 205, 206, 207, 208, 209, 210, 211, 212] rfl (by decide +kernel)
set_option maxRecDepth 20000 in
theorem gX4_runs_X4_carryOut : GoodIn wsX4_runs (wsV RX4 173 RX4 yX4_carryOut wsX4_carryOut) := goodIn_app (goodIn_r _ [153, 154, 155, 4] rfl (by decide +kernel)) ggX4_runs_X4_carryOut
set_option maxRecDepth 20000 in
theorem ggX4_isHour_X4_within : GoodIn wsX4_isHour wsX4_within := goodIn_r _ [4] rfl (by decide +kernel)
set_option maxRecDepth 20000 in
theorem gX4_isHour_X4_within : GoodIn wsX4_isHour (va_wsS RX4 76 yX4_within wsX4_within) := goodIn_app (goodIn_r _ [1, 2, 3] rfl (by decide +kernel)) ggX4_isHour_X4_within
set_option maxRecDepth 20000 in
theorem ggX4_isWorld_X4_within : GoodIn wsX4_isWorld wsX4_within := goodIn_r _ [4] rfl (by decide +kernel)
set_option maxRecDepth 20000 in
theorem gX4_isWorld_X4_within : GoodIn wsX4_isWorld (va_wsS RX4 76 yX4_within wsX4_within) := goodIn_app (goodIn_r _ [1, 2, 3] rfl (by decide +kernel)) ggX4_isWorld_X4_within
set_option maxRecDepth 20000 in
theorem ggX4_isMachine_X4_within : GoodIn wsX4_isMachine wsX4_within := goodIn_r _ [4] rfl (by decide +kernel)
set_option maxRecDepth 20000 in
theorem gX4_isMachine_X4_within : GoodIn wsX4_isMachine (va_wsS RX4 76 yX4_within wsX4_within) := goodIn_app (goodIn_r _ [1, 2, 3] rfl (by decide +kernel)) ggX4_isMachine_X4_within
set_option maxRecDepth 20000 in
theorem ggX4_isMode_X4_within : GoodIn wsX4_isMode wsX4_within := goodIn_r _ [4] rfl (by decide +kernel)
set_option maxRecDepth 20000 in
theorem gX4_isMode_X4_within : GoodIn wsX4_isMode (va_wsS RX4 76 yX4_within wsX4_within) := goodIn_app (goodIn_r _ [1, 2, 3] rfl (by decide +kernel)) ggX4_isMode_X4_within
set_option maxRecDepth 20000 in
theorem ggX4_isOfMachine_X4_within : GoodIn wsX4_isOfMachine wsX4_within := goodIn_r _ [4] rfl (by decide +kernel)
set_option maxRecDepth 20000 in
theorem gX4_isOfMachine_X4_within : GoodIn wsX4_isOfMachine (va_wsS RX4 76 yX4_within wsX4_within) := goodIn_app (goodIn_r _ [1, 2, 3] rfl (by decide +kernel)) ggX4_isOfMachine_X4_within
set_option maxRecDepth 20000 in
theorem ggX4_changed_J7_fill_53178 : GoodIn wsX4_changed wsJ7_fill_53178 := goodIn_r _ [7] rfl (by decide +kernel)
set_option maxRecDepth 20000 in
theorem gX4_changed_J7_fill_53178 : GoodIn wsX4_changed (va_wsS RX4 70 yJ7_fill_53178 wsJ7_fill_53178) := goodIn_app (goodIn_r _ [4, 5, 6] rfl (by decide +kernel)) ggX4_changed_J7_fill_53178
set_option maxRecDepth 20000 in
theorem ggX4_isLegalNow_X0_lookAt : GoodIn wsX4_isLegalNow wsX0_lookAt := goodIn_r _ [7, 8, 9, 10, 11, 12, 13, 14, 15, 16, 17, 18, 19, 20, 21, 5, 22, 23, 24, 25, 26, 27, 28, 29, 30, 31, 32, 33, 34, 35, 36, 37, 38, 39, 40, 41, 42, 43, 44, 45, 46, 47, 48, 49, 50, 51, 52, 53, 54, 55, 56, 57, 58, 59, 60, 61, 62, 63, 64, 65, 66, 67, 68, 69, 109, 110, 111, 112, 113, 114, 115, 116, 117, 100, 101, 102, 103, 104, 105, 106, 107, 108, 118, 119, 120, 121, 122, 123, 124, 125] rfl (by decide +kernel)
set_option maxRecDepth 20000 in
theorem gX4_isLegalNow_X0_lookAt_n183 : GoodIn wsX4_isLegalNow (wsX0_lookAt) := ggX4_isLegalNow_X0_lookAt
set_option maxRecDepth 20000 in
theorem ggX4_isLegalNow_X4_modesNow : GoodIn wsX4_isLegalNow wsX4_modesNow := goodIn_r _ [74, 75, 76, 87, 88, 89, 90, 91, 92, 93, 94, 95, 96, 97, 98, 99, 118, 119, 120, 121, 122, 123, 124, 125] rfl (by decide +kernel)
set_option maxRecDepth 20000 in
theorem gX4_isLegalNow_X4_modesNow : GoodIn wsX4_isLegalNow (wsV RX4 187 RX4 yX4_modesNow wsX4_modesNow) := goodIn_app (goodIn_r _ [70, 71, 72, 73] rfl (by decide +kernel)) ggX4_isLegalNow_X4_modesNow
set_option maxRecDepth 20000 in
theorem ggX4_isLegalNow_X0_startCost : GoodIn wsX4_isLegalNow wsX0_startCost := goodIn_r _ [79, 23, 24, 80, 28, 81, 82, 83, 109, 110, 111, 112, 113, 114, 115, 116, 117, 118, 119, 120, 121, 122, 123, 124, 125] rfl (by decide +kernel)
set_option maxRecDepth 20000 in
theorem gX4_isLegalNow_X0_startCost_n191 : GoodIn wsX4_isLegalNow (wsX0_startCost) := ggX4_isLegalNow_X0_startCost
set_option maxRecDepth 20000 in
theorem ggX4_isLegalNow_X0_isOpen : GoodIn wsX4_isLegalNow wsX0_isOpen := goodIn_r _ [86, 9, 10, 109, 110, 111, 112, 113, 114, 115, 116, 117] rfl (by decide +kernel)
set_option maxRecDepth 20000 in
theorem gX4_isLegalNow_X0_isOpen_n193 : GoodIn wsX4_isLegalNow (wsX0_isOpen) := ggX4_isLegalNow_X0_isOpen
set_option maxRecDepth 20000 in
theorem ggX4_carryOut_X0_lookAt : GoodIn wsX4_carryOut wsX0_lookAt := goodIn_r _ [11, 12, 13, 14, 15, 16, 17, 18, 19, 20, 21, 22, 23, 24, 25, 9, 26, 27, 28, 29, 30, 31, 32, 33, 34, 35, 36, 37, 38, 39, 40, 41, 42, 43, 44, 45, 46, 47, 48, 49, 50, 51, 52, 53, 54, 55, 56, 57, 58, 59, 60, 61, 62, 63, 64, 65, 66, 67, 68, 69, 70, 71, 72, 73, 130, 131, 132, 133, 134, 135, 136, 137, 138, 116, 117, 118, 119, 120, 121, 122, 123, 124, 139, 140, 141, 142, 143, 144, 145, 146] rfl (by decide +kernel)
set_option maxRecDepth 20000 in
theorem gX4_carryOut_X0_lookAt_n183 : GoodIn wsX4_carryOut (wsX0_lookAt) := ggX4_carryOut_X0_lookAt
set_option maxRecDepth 20000 in
theorem ggX4_carryOut_X4_modesNow : GoodIn wsX4_carryOut wsX4_modesNow := goodIn_r _ [78, 5, 6, 103, 104, 105, 106, 107, 108, 109, 110, 111, 112, 113, 114, 115, 139, 140, 141, 142, 143, 144, 145, 146] rfl (by decide +kernel)
set_option maxRecDepth 20000 in
theorem gX4_carryOut_X4_modesNow : GoodIn wsX4_carryOut (wsV RX4 187 RX4 yX4_modesNow wsX4_modesNow) := goodIn_app (goodIn_r _ [74, 75, 76, 77] rfl (by decide +kernel)) ggX4_carryOut_X4_modesNow
set_option maxRecDepth 20000 in
theorem ggX4_carryOut_X0_startCost : GoodIn wsX4_carryOut wsX0_startCost := goodIn_r _ [81, 27, 28, 82, 32, 83, 84, 85, 130, 131, 132, 133, 134, 135, 136, 137, 138, 139, 140, 141, 142, 143, 144, 145, 146] rfl (by decide +kernel)
set_option maxRecDepth 20000 in
theorem gX4_carryOut_X0_startCost_n191 : GoodIn wsX4_carryOut (wsX0_startCost) := ggX4_carryOut_X0_startCost
set_option maxRecDepth 20000 in
theorem ggX4_carryOut_X2_turnTo : GoodIn wsX4_carryOut wsX2_turnTo := goodIn_r _ [88, 89, 90, 91, 84, 32, 85, 139, 140, 141, 142, 143, 144, 145, 146] rfl (by decide +kernel)
set_option maxRecDepth 20000 in
theorem gX4_carryOut_X2_turnTo_n206 : GoodIn wsX4_carryOut (wsX2_turnTo) := ggX4_carryOut_X2_turnTo
set_option maxRecDepth 20000 in
theorem ggX4_carryOut_X4_changed : GoodIn wsX4_carryOut wsX4_changed := goodIn_r _ [95, 96, 97, 98, 99, 100, 101, 102, 103, 104, 105, 106, 107, 108, 109, 110, 111, 112, 113, 114, 115] rfl (by decide +kernel)
set_option maxRecDepth 20000 in
theorem gX4_carryOut_X4_changed : GoodIn wsX4_carryOut (wsV RX4 92 RX4 yX4_changed wsX4_changed) := goodIn_app (goodIn_r _ [92, 93, 94, 77] rfl (by decide +kernel)) ggX4_carryOut_X4_changed
set_option maxRecDepth 20000 in
theorem ggX4_worthWith_X4_planAll : GoodIn wsX4_worthWith wsX4_planAll := goodIn_r _ [8, 9, 10, 11, 12, 3, 13, 14, 15, 16, 17, 18, 19, 20, 21, 22, 23, 24, 25, 26, 27, 28, 29, 30, 31, 32, 33, 34, 35, 36, 37, 38, 39, 40, 41, 42, 43, 44, 45, 46, 47, 48, 49, 50, 51, 52, 53, 54, 55, 56, 57, 58, 59, 60, 61, 62, 63, 64, 65, 66, 67, 68, 69, 70, 71, 72, 73, 74, 75, 76, 77, 78, 79, 80, 81, 82, 83, 84, 85, 86, 87, 88, 89, 90, 91, 92, 93, 94, 95, 96, 97, 98, 99, 7, 100, 101, 102, 103, 104, 105, 106, 107, 108, 109, 110, 111, 112, 113, 114, 115, 116, 117, 118, 119, 120, 121, 122, 123, 124, 125, 126, 127, 128, 129, 130, 131, 132, 133, 134, 135, 136, 143, 144, 145, 146, 147, 148, 149, 150, 151, 152, 153, 154, 155, 161, 162, 163, 164, 165, 166, 167, 168, 169, 170, 171, 172, 173, 174, 175, 176, 177, 178, 179, 180, 181, 182, 183, 184, 185, 186, 156, 157, 158, 159, 160] rfl (by decide +kernel)
set_option maxRecDepth 20000 in
theorem gX4_worthWith_X4_planAll : GoodIn wsX4_worthWith (wsV RX4 210 RX4 yX4_planAll wsX4_planAll) := goodIn_app (goodIn_r _ [4, 5, 6, 7] rfl (by decide +kernel)) ggX4_worthWith_X4_planAll
set_option maxRecDepth 20000 in
theorem ggX4_worthWith_X4_modesNow : GoodIn wsX4_worthWith wsX4_modesNow := goodIn_r _ [140, 141, 142, 143, 144, 145, 146, 147, 148, 149, 150, 151, 152, 153, 154, 155, 179, 180, 181, 182, 183, 184, 185, 186] rfl (by decide +kernel)
set_option maxRecDepth 20000 in
theorem gX4_worthWith_X4_modesNow : GoodIn wsX4_worthWith (wsV RX4 187 RX4 yX4_modesNow wsX4_modesNow) := goodIn_app (goodIn_r _ [137, 138, 139, 7] rfl (by decide +kernel)) ggX4_worthWith_X4_modesNow
set_option maxRecDepth 20000 in
theorem ggX4_bestDoing_X4_planAll : GoodIn wsX4_bestDoing wsX4_planAll := goodIn_r _ [13, 6, 1, 5, 14, 7, 2, 15, 16, 17, 18, 19, 20, 21, 22, 23, 24, 25, 26, 27, 28, 29, 30, 31, 32, 33, 34, 35, 36, 37, 38, 39, 40, 41, 42, 43, 44, 45, 46, 47, 48, 49, 50, 51, 52, 53, 54, 55, 56, 57, 58, 59, 60, 61, 62, 63, 64, 65, 66, 67, 68, 69, 70, 71, 72, 73, 74, 75, 76, 77, 78, 79, 80, 81, 82, 83, 84, 85, 86, 87, 88, 89, 90, 91, 92, 93, 94, 95, 96, 97, 98, 99, 100, 12, 101, 8, 102, 103, 104, 105, 106, 107, 108, 109, 110, 111, 112, 113, 114, 115, 116, 117, 118, 119, 120, 121, 122, 123, 124, 125, 126, 127, 128, 129, 130, 131, 132, 133, 134, 135, 136, 143, 144, 145, 146, 147, 148, 149, 150, 151, 152, 153, 154, 155, 156, 157, 158, 159, 160, 161, 162, 163, 164, 170, 171, 172, 173, 174, 175, 176, 177, 178, 179, 180, 181, 182, 183, 184, 185, 186, 165, 166, 167, 168, 169] rfl (by decide +kernel)
set_option maxRecDepth 20000 in
theorem gX4_bestDoing_X4_planAll : GoodIn wsX4_bestDoing (wsV RX4 210 RX4 yX4_planAll wsX4_planAll) := goodIn_app (goodIn_r _ [9, 10, 11, 12] rfl (by decide +kernel)) ggX4_bestDoing_X4_planAll
set_option maxRecDepth 20000 in
theorem ggX4_bestDoing_X0_foresee : GoodIn wsX4_bestDoing wsX0_foresee := goodIn_r _ [18, 19, 20, 21, 22, 16, 23, 24, 25, 26, 27, 28, 29, 30, 31, 32, 33, 34, 35, 36, 37, 38, 39, 40, 41, 42, 43, 44, 45, 46, 47, 48, 49, 50, 51, 52, 53, 54, 55, 56, 57, 58, 59, 60, 61, 62, 63, 64, 65, 66, 67, 68, 69, 70, 71, 72, 73, 74, 75, 76, 77, 78, 79, 80, 81, 82, 83, 84, 85, 86, 87, 88, 89, 90, 91, 92, 93, 94, 95, 96, 97, 170, 171, 172, 173, 174, 175, 176, 177, 178, 156, 157, 158, 159, 160, 161, 162, 163, 164, 179, 180, 181, 182, 183, 184, 185, 186] rfl (by decide +kernel)
set_option maxRecDepth 20000 in
theorem gX4_bestDoing_X0_foresee_n216 : GoodIn wsX4_bestDoing (wsX0_foresee) := ggX4_bestDoing_X0_foresee
set_option maxRecDepth 20000 in
theorem ggX4_bestDoing_X4_planWorld : GoodIn wsX4_bestDoing wsX4_planWorld := goodIn_r _ [101, 8, 102, 6, 1, 2, 103, 28, 29, 30, 104, 105, 106, 107, 108, 109, 110, 111, 112, 113, 114, 115, 116, 117, 118, 119, 120, 121, 122, 123, 124, 125, 126, 127, 128, 143, 144, 145, 146, 147, 148, 149, 150, 151, 152, 153, 154, 155, 165, 166, 167, 168, 169, 170, 171, 172, 173, 174, 175, 176, 177, 178] rfl (by decide +kernel)
set_option maxRecDepth 20000 in
theorem gX4_bestDoing_X4_planWorld : GoodIn wsX4_bestDoing (wsV RX4 219 RX4 yX4_planWorld wsX4_planWorld) := goodIn_app (goodIn_r _ [98, 99, 100, 12] rfl (by decide +kernel)) ggX4_bestDoing_X4_planWorld
set_option maxRecDepth 20000 in
theorem ggX4_bestDoing_X4_modesNow : GoodIn wsX4_bestDoing wsX4_modesNow := goodIn_r _ [140, 141, 142, 143, 144, 145, 146, 147, 148, 149, 150, 151, 152, 153, 154, 155, 179, 180, 181, 182, 183, 184, 185, 186] rfl (by decide +kernel)
set_option maxRecDepth 20000 in
theorem gX4_bestDoing_X4_modesNow : GoodIn wsX4_bestDoing (wsV RX4 187 RX4 yX4_modesNow wsX4_modesNow) := goodIn_app (goodIn_r _ [137, 138, 139, 12] rfl (by decide +kernel)) ggX4_bestDoing_X4_modesNow
set_option maxRecDepth 20000 in
theorem ggX4_planAll_X0_foresee : GoodIn wsX4_planAll wsX0_foresee := goodIn_r _ [10, 11, 12, 13, 14, 8, 15, 16, 17, 18, 19, 20, 21, 22, 23, 24, 25, 26, 27, 28, 29, 30, 31, 32, 33, 34, 35, 36, 37, 38, 39, 40, 41, 42, 43, 44, 45, 46, 47, 48, 49, 50, 51, 52, 53, 54, 55, 56, 57, 58, 59, 60, 61, 62, 63, 64, 65, 66, 67, 68, 69, 70, 71, 72, 73, 74, 75, 76, 77, 78, 79, 80, 81, 82, 83, 84, 85, 86, 87, 88, 89, 153, 154, 155, 156, 157, 158, 159, 160, 161, 144, 145, 146, 147, 148, 149, 150, 151, 152, 162, 163, 164, 165, 166, 167, 168, 169] rfl (by decide +kernel)
set_option maxRecDepth 20000 in
theorem gX4_planAll_X0_foresee_n216 : GoodIn wsX4_planAll (wsX0_foresee) := ggX4_planAll_X0_foresee
set_option maxRecDepth 20000 in
theorem ggX4_planAll_X4_planWorld : GoodIn wsX4_planAll wsX4_planWorld := goodIn_r _ [94, 95, 96, 1, 2, 6, 97, 20, 21, 22, 98, 99, 100, 101, 102, 103, 104, 105, 106, 107, 108, 109, 110, 111, 112, 113, 114, 115, 116, 117, 118, 119, 120, 121, 122, 131, 132, 133, 134, 135, 136, 137, 138, 139, 140, 141, 142, 143, 170, 171, 172, 173, 174, 153, 154, 155, 156, 157, 158, 159, 160, 161] rfl (by decide +kernel)
set_option maxRecDepth 20000 in
theorem gX4_planAll_X4_planWorld : GoodIn wsX4_planAll (wsV RX4 219 RX4 yX4_planWorld wsX4_planWorld) := goodIn_app (goodIn_r _ [90, 91, 92, 93] rfl (by decide +kernel)) ggX4_planAll_X4_planWorld
set_option maxRecDepth 20000 in
theorem ggX4_planAll_X4_mixWorlds : GoodIn wsX4_planAll wsX4_mixWorlds := goodIn_r _ [126, 5, 4, 95, 127, 110, 111, 112, 128, 99, 129, 130, 118, 117, 102, 107, 131, 132, 133, 134, 135, 136, 137, 138, 139, 140, 141, 142, 143, 170, 171, 172, 173, 174] rfl (by decide +kernel)
set_option maxRecDepth 20000 in
theorem gX4_planAll_X4_mixWorlds : GoodIn wsX4_planAll (wsV RX4 225 RX4 yX4_mixWorlds wsX4_mixWorlds) := goodIn_app (goodIn_r _ [123, 124, 125, 93] rfl (by decide +kernel)) ggX4_planAll_X4_mixWorlds
set_option maxRecDepth 20000 in
theorem ggX4_planAll_X3_plan : GoodIn wsX4_planAll wsX3_plan := goodIn_r _ [105, 106, 102, 107, 108, 109, 110, 111, 112, 113, 114, 115, 99, 116, 117, 118, 119, 120, 121, 122, 170, 171, 172, 173, 174, 153, 154, 155, 156, 157, 158, 159, 160, 161] rfl (by decide +kernel)
set_option maxRecDepth 20000 in
theorem gX4_planAll_X3_plan_n228 : GoodIn wsX4_planAll (wsX3_plan) := ggX4_planAll_X3_plan
set_option maxRecDepth 20000 in
theorem ggX4_planWorld_X3_endWith : GoodIn wsX4_planWorld wsX3_endWith := goodIn_r _ [13, 14, 48, 49, 50, 51, 52] rfl (by decide +kernel)
set_option maxRecDepth 20000 in
theorem gX4_planWorld_X3_endWith_n232 : GoodIn wsX4_planWorld (wsX3_endWith) := ggX4_planWorld_X3_endWith
set_option maxRecDepth 20000 in
theorem ggX4_planWorld_X3_plan : GoodIn wsX4_planWorld wsX3_plan := goodIn_r _ [17, 18, 14, 19, 20, 21, 22, 23, 24, 25, 26, 27, 11, 28, 29, 30, 31, 32, 33, 34, 48, 49, 50, 51, 52, 53, 54, 55, 56, 57, 58, 59, 60, 61] rfl (by decide +kernel)
set_option maxRecDepth 20000 in
theorem gX4_planWorld_X3_plan_n228 : GoodIn wsX4_planWorld (wsX3_plan) := ggX4_planWorld_X3_plan
set_option maxRecDepth 20000 in
theorem ggX4_mixWorlds_J7_fill_53178 : GoodIn wsX4_mixWorlds wsJ7_fill_53178 := goodIn_r _ [7] rfl (by decide +kernel)
set_option maxRecDepth 20000 in
theorem gX4_mixWorlds_J7_fill_53178 : GoodIn wsX4_mixWorlds (va_wsS RX4 70 yJ7_fill_53178 wsJ7_fill_53178) := goodIn_app (goodIn_r _ [4, 5, 6] rfl (by decide +kernel)) ggX4_mixWorlds_J7_fill_53178
set_option maxRecDepth 20000 in
theorem ggX4_mixWorlds_X3_mixIn : GoodIn wsX4_mixWorlds wsX3_mixIn := goodIn_r _ [11, 12, 13, 14, 15, 29, 30, 31, 32, 33] rfl (by decide +kernel)
set_option maxRecDepth 20000 in
theorem gX4_mixWorlds_X3_mixIn_n243 : GoodIn wsX4_mixWorlds (wsX3_mixIn) := ggX4_mixWorlds_X3_mixIn
set_option maxRecDepth 20000 in
theorem ggX5_lakes_X5_within : GoodIn wsX5_lakes wsX5_within := goodIn_r _ [10] rfl (by decide +kernel)
set_option maxRecDepth 20000 in
theorem gX5_lakes_X5_within : GoodIn wsX5_lakes (va_wsS RX5 81 yX5_within wsX5_within) := goodIn_app (goodIn_r _ [7, 8, 9] rfl (by decide +kernel)) ggX5_lakes_X5_within
set_option maxRecDepth 20000 in
theorem ggX5_speeds_X5_within : GoodIn wsX5_speeds wsX5_within := goodIn_r _ [7] rfl (by decide +kernel)
set_option maxRecDepth 20000 in
theorem gX5_speeds_X5_within : GoodIn wsX5_speeds (va_wsS RX5 81 yX5_within wsX5_within) := goodIn_app (goodIn_r _ [4, 5, 6] rfl (by decide +kernel)) ggX5_speeds_X5_within
set_option maxRecDepth 20000 in
theorem ggX5_isHour_X5_within : GoodIn wsX5_isHour wsX5_within := goodIn_r _ [4] rfl (by decide +kernel)
set_option maxRecDepth 20000 in
theorem gX5_isHour_X5_within : GoodIn wsX5_isHour (va_wsS RX5 81 yX5_within wsX5_within) := goodIn_app (goodIn_r _ [1, 2, 3] rfl (by decide +kernel)) ggX5_isHour_X5_within
set_option maxRecDepth 20000 in
theorem ggX5_flows_X5_isHour : GoodIn wsX5_flows wsX5_isHour := goodIn_r _ [7, 8, 9, 6, 10] rfl (by decide +kernel)
set_option maxRecDepth 20000 in
theorem gX5_flows_X5_isHour : GoodIn wsX5_flows (va_wsS RX5 85 yX5_isHour wsX5_isHour) := goodIn_app (goodIn_r _ [4, 5, 6] rfl (by decide +kernel)) ggX5_flows_X5_isHour
set_option maxRecDepth 20000 in
theorem ggX5_flows_X5_within : GoodIn wsX5_flows wsX5_within := goodIn_r _ [10] rfl (by decide +kernel)
set_option maxRecDepth 20000 in
theorem gX5_flows_X5_within : GoodIn wsX5_flows (va_wsS RX5 81 yX5_within wsX5_within) := goodIn_app (goodIn_r _ [8, 9, 6] rfl (by decide +kernel)) ggX5_flows_X5_within
set_option maxRecDepth 20000 in
theorem ggX5_machine_X5_within : GoodIn wsX5_machine wsX5_within := goodIn_r _ [10] rfl (by decide +kernel)
set_option maxRecDepth 20000 in
theorem gX5_machine_X5_within : GoodIn wsX5_machine (va_wsS RX5 81 yX5_within wsX5_within) := goodIn_app (goodIn_r _ [7, 8, 9] rfl (by decide +kernel)) ggX5_machine_X5_within
set_option maxRecDepth 20000 in
theorem ggX5_out_X5_within : GoodIn wsX5_out wsX5_within := goodIn_r _ [6] rfl (by decide +kernel)
set_option maxRecDepth 20000 in
theorem gX5_out_X5_within : GoodIn wsX5_out (va_wsS RX5 81 yX5_within wsX5_within) := goodIn_app (goodIn_r _ [3, 4, 5] rfl (by decide +kernel)) ggX5_out_X5_within
set_option maxRecDepth 20000 in
theorem ggX5_out_X5_isHour : GoodIn wsX5_out wsX5_isHour := goodIn_r _ [9, 3, 4, 5, 6] rfl (by decide +kernel)
set_option maxRecDepth 20000 in
theorem gX5_out_X5_isHour : GoodIn wsX5_out (va_wsS RX5 85 yX5_isHour wsX5_isHour) := goodIn_app (goodIn_r _ [7, 8, 5] rfl (by decide +kernel)) ggX5_out_X5_isHour
set_option maxRecDepth 20000 in
theorem ggX5_reserve_X5_isHour : GoodIn wsX5_reserve wsX5_isHour := goodIn_r _ [6, 7, 8, 5, 9] rfl (by decide +kernel)
set_option maxRecDepth 20000 in
theorem gX5_reserve_X5_isHour : GoodIn wsX5_reserve (va_wsS RX5 85 yX5_isHour wsX5_isHour) := goodIn_app (goodIn_r _ [3, 4, 5] rfl (by decide +kernel)) ggX5_reserve_X5_isHour
set_option maxRecDepth 20000 in
theorem ggX5_reserve_X5_within : GoodIn wsX5_reserve wsX5_within := goodIn_r _ [9] rfl (by decide +kernel)
set_option maxRecDepth 20000 in
theorem gX5_reserve_X5_within : GoodIn wsX5_reserve (va_wsS RX5 81 yX5_within wsX5_within) := goodIn_app (goodIn_r _ [7, 8, 5] rfl (by decide +kernel)) ggX5_reserve_X5_within
set_option maxRecDepth 20000 in
theorem ggX5_weights_X5_within : GoodIn wsX5_weights wsX5_within := goodIn_r _ [6] rfl (by decide +kernel)
set_option maxRecDepth 20000 in
theorem gX5_weights_X5_within : GoodIn wsX5_weights (va_wsS RX5 81 yX5_within wsX5_within) := goodIn_app (goodIn_r _ [3, 4, 5] rfl (by decide +kernel)) ggX5_weights_X5_within
set_option maxRecDepth 20000 in
theorem ggX5_isWorld_X5_within : GoodIn wsX5_isWorld wsX5_within := goodIn_r _ [4] rfl (by decide +kernel)
set_option maxRecDepth 20000 in
theorem gX5_isWorld_X5_within : GoodIn wsX5_isWorld (va_wsS RX5 81 yX5_within wsX5_within) := goodIn_app (goodIn_r _ [1, 2, 3] rfl (by decide +kernel)) ggX5_isWorld_X5_within
set_option maxRecDepth 20000 in
theorem ggX5_price_X5_isWorld : GoodIn wsX5_price wsX5_isWorld := goodIn_r _ [6, 7, 8, 5, 9] rfl (by decide +kernel)
set_option maxRecDepth 20000 in
theorem gX5_price_X5_isWorld : GoodIn wsX5_price (va_wsS RX5 89 yX5_isWorld wsX5_isWorld) := goodIn_app (goodIn_r _ [3, 4, 5] rfl (by decide +kernel)) ggX5_price_X5_isWorld
set_option maxRecDepth 20000 in
theorem ggX5_price_X5_isHour : GoodIn wsX5_price wsX5_isHour := goodIn_r _ [12, 7, 8, 5, 9] rfl (by decide +kernel)
set_option maxRecDepth 20000 in
theorem gX5_price_X5_isHour : GoodIn wsX5_price (va_wsS RX5 85 yX5_isHour wsX5_isHour) := goodIn_app (goodIn_r _ [10, 11, 5] rfl (by decide +kernel)) ggX5_price_X5_isHour
set_option maxRecDepth 20000 in
theorem ggX5_price_X5_within : GoodIn wsX5_price wsX5_within := goodIn_r _ [9] rfl (by decide +kernel)
set_option maxRecDepth 20000 in
theorem gX5_price_X5_within : GoodIn wsX5_price (va_wsS RX5 81 yX5_within wsX5_within) := goodIn_app (goodIn_r _ [7, 8, 5] rfl (by decide +kernel)) ggX5_price_X5_within
set_option maxRecDepth 20000 in
theorem ggX5_reveal_X5_within : GoodIn wsX5_reveal wsX5_within := goodIn_r _ [6] rfl (by decide +kernel)
set_option maxRecDepth 20000 in
theorem gX5_reveal_X5_within : GoodIn wsX5_reveal (va_wsS RX5 81 yX5_within wsX5_within) := goodIn_app (goodIn_r _ [3, 4, 5] rfl (by decide +kernel)) ggX5_reveal_X5_within
set_option maxRecDepth 20000 in
theorem ggX5_end_X5_within : GoodIn wsX5_end wsX5_within := goodIn_r _ [6] rfl (by decide +kernel)
set_option maxRecDepth 20000 in
theorem gX5_end_X5_within : GoodIn wsX5_end (va_wsS RX5 81 yX5_within wsX5_within) := goodIn_app (goodIn_r _ [3, 4, 5] rfl (by decide +kernel)) ggX5_end_X5_within
set_option maxRecDepth 20000 in
theorem ggX5_isReserved_X5_isReady : GoodIn wsX5_isReserved wsX5_isReady := goodIn_r _ [9, 10, 11, 12, 13, 14, 15, 16, 17, 18, 19, 20, 21, 22, 23, 24, 25, 26, 27, 28, 29, 30, 31, 32, 33, 34, 35, 36] rfl (by decide +kernel)
set_option maxRecDepth 20000 in
theorem gX5_isReserved_X5_isReady : GoodIn wsX5_isReserved (wsV RX5 98 RX5 yX5_isReady wsX5_isReady) := goodIn_app (goodIn_r _ [5, 6, 7, 8] rfl (by decide +kernel)) ggX5_isReserved_X5_isReady
set_option maxRecDepth 20000 in
theorem ggX5_isLegal_X5_loses : GoodIn wsX5_isLegal wsX5_loses := goodIn_r _ [11, 12, 13, 36, 37, 38, 39, 40, 41, 42, 43, 44, 45, 46, 47, 48, 49, 50, 51, 52, 53, 54, 55, 56, 57, 58, 59, 60, 61] rfl (by decide +kernel)
set_option maxRecDepth 20000 in
theorem gX5_isLegal_X5_loses : GoodIn wsX5_isLegal (wsV RX5 101 RX5 yX5_loses wsX5_loses) := goodIn_app (goodIn_r _ [7, 8, 9, 10] rfl (by decide +kernel)) ggX5_isLegal_X5_loses
set_option maxRecDepth 20000 in
theorem ggX5_isLegal_X5_within : GoodIn wsX5_isLegal wsX5_within := goodIn_r _ [16] rfl (by decide +kernel)
set_option maxRecDepth 20000 in
theorem gX5_isLegal_X5_within : GoodIn wsX5_isLegal (va_wsS RX5 81 yX5_within wsX5_within) := goodIn_app (goodIn_r _ [14, 15, 10] rfl (by decide +kernel)) ggX5_isLegal_X5_within
set_option maxRecDepth 20000 in
theorem ggX5_isLegal_X5_far : GoodIn wsX5_isLegal wsX5_far := goodIn_r _ [19] rfl (by decide +kernel)
set_option maxRecDepth 20000 in
theorem gX5_isLegal_X5_far : GoodIn wsX5_isLegal (va_wsS RX5 105 yX5_far wsX5_far) := goodIn_app (goodIn_r _ [17, 18, 10] rfl (by decide +kernel)) ggX5_isLegal_X5_far
set_option maxRecDepth 20000 in
theorem ggX5_isLegal_X5_mayGo : GoodIn wsX5_isLegal wsX5_mayGo := goodIn_r _ [23, 24, 36, 37, 38, 39, 40, 41, 42, 43, 44, 45, 46, 47, 48, 49, 50, 51, 52, 53, 54, 55, 56, 57, 58, 59, 60, 61] rfl (by decide +kernel)
set_option maxRecDepth 20000 in
theorem gX5_isLegal_X5_mayGo : GoodIn wsX5_isLegal (wsV RX5 108 RX5 yX5_mayGo wsX5_mayGo) := goodIn_app (goodIn_r _ [20, 21, 22, 10] rfl (by decide +kernel)) ggX5_isLegal_X5_mayGo
set_option maxRecDepth 20000 in
theorem ggX5_isLegal_X5_isReserved : GoodIn wsX5_isLegal wsX5_isReserved := goodIn_r _ [28, 29, 30, 12, 31, 32, 33, 34, 10, 35, 24, 36, 37, 38, 39, 40, 41, 42, 43, 44, 45, 46, 47, 48, 49, 50, 51, 52, 53, 54, 55, 56, 57, 58, 59, 60, 61] rfl (by decide +kernel)
set_option maxRecDepth 20000 in
theorem gX5_isLegal_X5_isReserved : GoodIn wsX5_isLegal (wsV RX5 112 RX5 yX5_isReserved wsX5_isReserved) := goodIn_app (goodIn_r _ [25, 26, 27, 10] rfl (by decide +kernel)) ggX5_isLegal_X5_isReserved
set_option maxRecDepth 20000 in
theorem ggX5_laysOut_X5_bestOf : GoodIn wsX5_laysOut wsX5_bestOf := goodIn_r _ [13, 14, 15, 16, 17, 12, 18, 3, 5, 7, 19, 20, 21, 22, 23, 4, 24, 25, 26, 27, 28, 29, 30, 31, 32, 33, 34, 35, 36, 37, 38, 39, 40, 41, 42, 43, 44, 45, 46, 47, 48, 49, 50, 51, 52, 53, 54, 55, 56, 57, 58, 59, 60, 61, 66, 67, 68, 69, 70, 71, 72, 73, 74, 75, 76, 77, 78, 79, 80, 81, 82, 83, 84, 85, 86, 87, 88, 89, 90, 91] rfl (by decide +kernel)
set_option maxRecDepth 20000 in
theorem gX5_laysOut_X5_bestOf : GoodIn wsX5_laysOut (wsV RX5 115 RX5 yX5_bestOf wsX5_bestOf) := goodIn_app (goodIn_r _ [9, 10, 11, 12] rfl (by decide +kernel)) ggX5_laysOut_X5_bestOf
set_option maxRecDepth 20000 in
theorem ggX5_laysOut_X5_weighed : GoodIn wsX5_laysOut wsX5_weighed := goodIn_r _ [65, 5, 14, 19, 66, 67, 68, 69, 70, 71, 72, 73, 74, 75, 76, 77, 78, 79, 80, 81, 82, 83, 84, 85, 86, 87, 88, 89, 90, 91] rfl (by decide +kernel)
set_option maxRecDepth 20000 in
theorem gX5_laysOut_X5_weighed : GoodIn wsX5_laysOut (wsV RX5 119 RX5 yX5_weighed wsX5_weighed) := goodIn_app (goodIn_r _ [62, 63, 64, 12] rfl (by decide +kernel)) ggX5_laysOut_X5_weighed
set_option maxRecDepth 20000 in
theorem ggX5_brings_X5_isLegal : GoodIn wsX5_brings wsX5_isLegal := goodIn_r _ [10, 2, 11, 12, 13, 14, 15, 16, 17, 18, 9, 19, 20, 21, 22, 23, 24, 25, 26, 27, 28, 29, 30, 31, 32, 33, 34, 35, 36, 37, 38, 39, 40, 41, 42, 43, 50, 51, 52, 53, 54, 55, 56, 57, 58, 59, 60, 61, 62, 63, 64, 65, 66, 67, 68, 69, 70, 71, 72, 73, 74, 75] rfl (by decide +kernel)
set_option maxRecDepth 20000 in
theorem gX5_brings_X5_isLegal : GoodIn wsX5_brings (wsV RX5 123 RX5 yX5_isLegal wsX5_isLegal) := goodIn_app (goodIn_r _ [6, 7, 8, 9] rfl (by decide +kernel)) ggX5_brings_X5_isLegal
set_option maxRecDepth 20000 in
theorem ggX5_brings_X5_loses : GoodIn wsX5_brings wsX5_loses := goodIn_r _ [19, 20, 21, 50, 51, 52, 53, 54, 55, 56, 57, 58, 59, 60, 61, 62, 63, 64, 65, 66, 67, 68, 69, 70, 71, 72, 73, 74, 75] rfl (by decide +kernel)
set_option maxRecDepth 20000 in
theorem gX5_brings_X5_loses : GoodIn wsX5_brings (wsV RX5 101 RX5 yX5_loses wsX5_loses) := goodIn_app (goodIn_r _ [16, 17, 18, 9] rfl (by decide +kernel)) ggX5_brings_X5_loses
set_option maxRecDepth 20000 in
theorem ggX5_brings_X5_money : GoodIn wsX5_brings wsX5_money := goodIn_r _ [47, 37, 38, 48, 49, 50, 51, 52, 53, 54, 55, 56, 57, 58, 59, 60, 61, 62, 63, 64, 65, 66, 67, 68, 69, 70, 71, 72, 73, 74, 75] rfl (by decide +kernel)
set_option maxRecDepth 20000 in
theorem gX5_brings_X5_money : GoodIn wsX5_brings (wsV RX5 127 RX5 yX5_money wsX5_money) := goodIn_app (goodIn_r _ [44, 45, 46, 9] rfl (by decide +kernel)) ggX5_brings_X5_money
set_option maxRecDepth 20000 in
theorem ggX5_bestOf_X5_brings : GoodIn wsX5_bestOf wsX5_brings := goodIn_r _ [6, 1, 7, 8, 9, 10, 11, 12, 13, 5, 14, 15, 16, 17, 18, 19, 20, 21, 22, 23, 24, 25, 26, 27, 28, 29, 30, 31, 32, 33, 34, 35, 36, 37, 38, 39, 40, 41, 42, 43, 44, 45, 46, 47, 48, 49, 50, 51, 52, 53, 54, 55, 56, 57, 58, 59, 60, 61, 62, 63, 64, 65, 66, 67, 68, 69, 70, 71, 72, 73, 74, 75, 76, 77, 78, 79] rfl (by decide +kernel)
set_option maxRecDepth 20000 in
theorem gX5_bestOf_X5_brings : GoodIn wsX5_bestOf (wsV RX5 131 RX5 yX5_brings wsX5_brings) := goodIn_app (goodIn_r _ [2, 3, 4, 5] rfl (by decide +kernel)) ggX5_bestOf_X5_brings
set_option maxRecDepth 20000 in
theorem ggX5_worthNow_X5_laysOut : GoodIn wsX5_worthNow wsX5_laysOut := goodIn_r _ [9, 10, 4, 11, 12, 13, 14, 3, 15, 16, 17, 18, 8, 19, 20, 21, 22, 23, 24, 25, 26, 27, 28, 29, 30, 31, 32, 33, 34, 35, 36, 37, 38, 39, 40, 41, 42, 43, 44, 45, 46, 47, 48, 49, 50, 51, 52, 53, 54, 55, 56, 57, 58, 59, 60, 61, 62, 63, 64, 65, 66, 67, 68, 69, 70, 71, 77, 78, 79, 80, 81, 82, 83, 84, 85, 86, 87, 88, 89, 90, 91, 92, 93, 94, 95, 96, 97, 98, 99, 100, 101, 102] rfl (by decide +kernel)
set_option maxRecDepth 20000 in
theorem gX5_worthNow_X5_laysOut : GoodIn wsX5_worthNow (wsV RX5 134 RX5 yX5_laysOut wsX5_laysOut) := goodIn_app (goodIn_r _ [5, 6, 7, 8] rfl (by decide +kernel)) ggX5_worthNow_X5_laysOut
set_option maxRecDepth 20000 in
theorem ggX5_worthNow_X5_stateNow : GoodIn wsX5_worthNow wsX5_stateNow := goodIn_r _ [75, 1, 76, 77, 78, 79, 80, 81, 82, 83, 84, 85, 86, 87, 88, 89, 90, 91, 92, 93, 94, 95, 96, 97, 98, 99, 100, 101, 102] rfl (by decide +kernel)
set_option maxRecDepth 20000 in
theorem gX5_worthNow_X5_stateNow : GoodIn wsX5_worthNow (wsV RX5 138 RX5 yX5_stateNow wsX5_stateNow) := goodIn_app (goodIn_r _ [72, 73, 74, 8] rfl (by decide +kernel)) ggX5_worthNow_X5_stateNow
set_option maxRecDepth 20000 in
theorem ggX5_worth_X5_worthNow : GoodIn wsX5_worth wsX5_worthNow := goodIn_r _ [6, 7, 8, 9, 10, 11, 12, 13, 5, 14, 15, 16, 17, 18, 19, 20, 21, 22, 23, 24, 25, 26, 27, 28, 29, 30, 31, 32, 33, 34, 35, 36, 37, 38, 39, 40, 41, 42, 43, 44, 45, 46, 47, 48, 49, 50, 51, 52, 53, 54, 55, 56, 57, 58, 59, 60, 61, 62, 63, 64, 65, 66, 67, 68, 69, 70, 71, 72, 73, 74, 75, 76, 77, 78, 79, 80, 81, 82, 83, 84, 85, 86, 87, 88, 89, 90, 91, 92, 93, 94, 95, 96, 97, 98, 99, 100, 101, 102, 103, 104, 105, 106, 107] rfl (by decide +kernel)
set_option maxRecDepth 20000 in
theorem gX5_worth_X5_worthNow : GoodIn wsX5_worth (wsV RX5 142 RX5 yX5_worthNow wsX5_worthNow) := goodIn_app (goodIn_r _ [2, 3, 4, 5] rfl (by decide +kernel)) ggX5_worth_X5_worthNow
set_option maxRecDepth 20000 in
theorem ggX5_doing_X5_laysOut : GoodIn wsX5_doing wsX5_laysOut := goodIn_r _ [10, 11, 3, 12, 13, 14, 15, 16, 4, 17, 18, 19, 9, 20, 5, 21, 22, 23, 24, 25, 26, 27, 28, 29, 30, 31, 32, 33, 34, 35, 36, 37, 38, 39, 40, 41, 42, 43, 44, 45, 46, 47, 48, 49, 50, 51, 52, 53, 54, 55, 56, 57, 58, 59, 60, 61, 62, 63, 64, 65, 66, 67, 68, 69, 70, 71, 77, 78, 79, 80, 81, 82, 83, 84, 85, 86, 87, 88, 89, 90, 91, 92, 93, 94, 95, 96, 97, 98, 99, 100, 101, 102] rfl (by decide +kernel)
set_option maxRecDepth 20000 in
theorem gX5_doing_X5_laysOut : GoodIn wsX5_doing (wsV RX5 134 RX5 yX5_laysOut wsX5_laysOut) := goodIn_app (goodIn_r _ [6, 7, 8, 9] rfl (by decide +kernel)) ggX5_doing_X5_laysOut
set_option maxRecDepth 20000 in
theorem ggX5_doing_X5_stateNow : GoodIn wsX5_doing wsX5_stateNow := goodIn_r _ [75, 1, 76, 77, 78, 79, 80, 81, 82, 83, 84, 85, 86, 87, 88, 89, 90, 91, 92, 93, 94, 95, 96, 97, 98, 99, 100, 101, 102] rfl (by decide +kernel)
set_option maxRecDepth 20000 in
theorem gX5_doing_X5_stateNow : GoodIn wsX5_doing (wsV RX5 138 RX5 yX5_stateNow wsX5_stateNow) := goodIn_app (goodIn_r _ [72, 73, 74, 9] rfl (by decide +kernel)) ggX5_doing_X5_stateNow
set_option maxRecDepth 20000 in
theorem ggX5_doing_X5_bestOf : GoodIn wsX5_doing wsX5_bestOf := goodIn_r _ [20, 5, 21, 22, 23, 9, 24, 12, 14, 16, 25, 26, 27, 28, 29, 13, 30, 31, 32, 33, 34, 35, 36, 37, 38, 39, 40, 41, 42, 43, 44, 45, 46, 47, 48, 49, 50, 51, 52, 53, 54, 55, 56, 57, 58, 59, 60, 61, 62, 63, 64, 65, 66, 67, 77, 78, 79, 80, 81, 82, 83, 84, 85, 86, 87, 88, 89, 90, 91, 92, 93, 94, 95, 96, 97, 98, 99, 100, 101, 102] rfl (by decide +kernel)
set_option maxRecDepth 20000 in
theorem gX5_doing_X5_bestOf : GoodIn wsX5_doing (wsV RX5 115 RX5 yX5_bestOf wsX5_bestOf) := goodIn_app (goodIn_r _ [17, 18, 19, 9] rfl (by decide +kernel)) ggX5_doing_X5_bestOf
set_option maxRecDepth 20000 in
theorem ggX5_doing_X5_brings : GoodIn wsX5_doing wsX5_brings := goodIn_r _ [24, 5, 12, 14, 16, 25, 26, 27, 28, 9, 29, 13, 30, 31, 32, 33, 34, 35, 36, 37, 38, 39, 40, 41, 42, 43, 44, 45, 46, 47, 48, 49, 50, 51, 52, 53, 54, 55, 56, 57, 58, 59, 60, 61, 62, 63, 64, 65, 66, 67, 77, 78, 79, 80, 81, 82, 83, 84, 85, 86, 87, 88, 89, 90, 91, 92, 93, 94, 95, 96, 97, 98, 99, 100, 101, 102] rfl (by decide +kernel)
set_option maxRecDepth 20000 in
theorem gX5_doing_X5_brings : GoodIn wsX5_doing (wsV RX5 131 RX5 yX5_brings wsX5_brings) := goodIn_app (goodIn_r _ [21, 22, 23, 9] rfl (by decide +kernel)) ggX5_doing_X5_brings
set_option maxRecDepth 20000 in
theorem ggX5_mode_X5_isWorld : GoodIn wsX5_mode wsX5_isWorld := goodIn_r _ [6, 7, 8, 5, 9] rfl (by decide +kernel)
set_option maxRecDepth 20000 in
theorem gX5_mode_X5_isWorld : GoodIn wsX5_mode (va_wsS RX5 89 yX5_isWorld wsX5_isWorld) := goodIn_app (goodIn_r _ [3, 4, 5] rfl (by decide +kernel)) ggX5_mode_X5_isWorld
set_option maxRecDepth 20000 in
theorem ggX5_mode_X5_within : GoodIn wsX5_mode wsX5_within := goodIn_r _ [9] rfl (by decide +kernel)
set_option maxRecDepth 20000 in
theorem gX5_mode_X5_within : GoodIn wsX5_mode (va_wsS RX5 81 yX5_within wsX5_within) := goodIn_app (goodIn_r _ [7, 8, 5] rfl (by decide +kernel)) ggX5_mode_X5_within
set_option maxRecDepth 20000 in
theorem ggX5_mode_X5_doing : GoodIn wsX5_mode wsX5_doing := goodIn_r _ [13, 14, 15, 2, 16, 17, 18, 19, 20, 5, 21, 22, 23, 24, 25, 26, 27, 28, 29, 30, 31, 32, 33, 34, 35, 36, 37, 38, 39, 40, 41, 42, 43, 44, 45, 46, 47, 48, 49, 50, 7, 8, 9, 51, 52, 53, 54, 55, 56, 57, 58, 59, 60, 61, 62, 63, 64, 65, 66, 67, 68, 69, 70, 71, 72, 73, 74, 75, 76, 77, 78, 79, 80, 81, 82, 83, 84, 85, 86, 87, 88, 89, 90, 91, 92, 93, 94, 95, 96, 97, 98, 99, 100, 101, 102, 103, 104, 105, 106, 107, 108, 109, 110] rfl (by decide +kernel)
set_option maxRecDepth 20000 in
theorem gX5_mode_X5_doing : GoodIn wsX5_mode (wsV RX5 145 RX5 yX5_doing wsX5_doing) := goodIn_app (goodIn_r _ [10, 11, 12, 5] rfl (by decide +kernel)) ggX5_mode_X5_doing
set_option maxRecDepth 20000 in
theorem ggX5_water_X5_laysOut : GoodIn wsX5_water wsX5_laysOut := goodIn_r _ [12, 13, 6, 14, 15, 16, 17, 5, 18, 19, 20, 21, 11, 22, 3, 23, 24, 25, 26, 27, 28, 29, 30, 31, 2, 32, 33, 34, 35, 36, 37, 38, 39, 40, 41, 42, 43, 44, 45, 46, 47, 48, 49, 50, 51, 52, 53, 54, 55, 56, 57, 58, 59, 60, 61, 62, 63, 64, 65, 66, 67, 68, 69, 70, 71, 72, 73, 74, 75, 76, 77, 78, 79, 80, 81, 82, 83, 84, 85, 86, 87, 88, 89, 90, 91, 92, 93, 94, 95, 96, 97, 98] rfl (by decide +kernel)
set_option maxRecDepth 20000 in
theorem gX5_water_X5_laysOut : GoodIn wsX5_water (wsV RX5 134 RX5 yX5_laysOut wsX5_laysOut) := goodIn_app (goodIn_r _ [8, 9, 10, 11] rfl (by decide +kernel)) ggX5_water_X5_laysOut
set_option maxRecDepth 20000 in
theorem ggX5_areModes_X5_within : GoodIn wsX5_areModes wsX5_within := goodIn_r _ [4] rfl (by decide +kernel)
set_option maxRecDepth 20000 in
theorem gX5_areModes_X5_within : GoodIn wsX5_areModes (va_wsS RX5 81 yX5_within wsX5_within) := goodIn_app (goodIn_r _ [1, 2, 3] rfl (by decide +kernel)) ggX5_areModes_X5_within
set_option maxRecDepth 20000 in
theorem ggX5_isLegalNow_X5_isLegal : GoodIn wsX5_isLegalNow wsX5_isLegal := goodIn_r _ [9, 10, 11, 12, 13, 14, 15, 16, 17, 18, 8, 19, 20, 21, 22, 23, 24, 25, 26, 27, 28, 29, 30, 31, 32, 33, 34, 35, 36, 37, 38, 39, 40, 41, 42, 43, 44, 45, 46, 47, 48, 49, 50, 51, 52, 53, 54, 55, 56, 57, 58, 59, 60, 61, 62, 63, 64, 65, 66, 67, 68, 69] rfl (by decide +kernel)
set_option maxRecDepth 20000 in
theorem gX5_isLegalNow_X5_isLegal : GoodIn wsX5_isLegalNow (wsV RX5 123 RX5 yX5_isLegal wsX5_isLegal) := goodIn_app (goodIn_r _ [5, 6, 7, 8] rfl (by decide +kernel)) ggX5_isLegalNow_X5_isLegal
set_option maxRecDepth 20000 in
theorem ggX5_legal_X5_areModes : GoodIn wsX5_legal wsX5_areModes := goodIn_r _ [6, 7, 8, 5, 9] rfl (by decide +kernel)
set_option maxRecDepth 20000 in
theorem gX5_legal_X5_areModes : GoodIn wsX5_legal (va_wsS RX5 149 yX5_areModes wsX5_areModes) := goodIn_app (goodIn_r _ [3, 4, 5] rfl (by decide +kernel)) ggX5_legal_X5_areModes
set_option maxRecDepth 20000 in
theorem ggX5_legal_X5_isLegalNow : GoodIn wsX5_legal wsX5_isLegalNow := goodIn_r _ [13, 2, 14, 15, 16, 17, 18, 19, 5, 20, 21, 22, 23, 24, 25, 26, 27, 28, 29, 30, 31, 32, 7, 8, 9, 33, 34, 35, 36, 37, 38, 39, 40, 41, 42, 43, 44, 45, 46, 47, 48, 49, 50, 51, 52, 53, 54, 55, 56, 57, 58, 59, 60, 61, 62, 63, 64, 65, 66, 67, 68, 69, 70, 71, 72, 73, 74, 75, 76, 77] rfl (by decide +kernel)
set_option maxRecDepth 20000 in
theorem gX5_legal_X5_isLegalNow : GoodIn wsX5_legal (wsV RX5 153 RX5 yX5_isLegalNow wsX5_isLegalNow) := goodIn_app (goodIn_r _ [10, 11, 12, 5] rfl (by decide +kernel)) ggX5_legal_X5_isLegalNow
set_option maxRecDepth 20000 in
theorem ggX5_does_X5_money : GoodIn wsX5_does wsX5_money := goodIn_r _ [13, 14, 15, 16, 17, 24, 25, 26, 27, 28, 29, 30, 31, 32, 33, 34, 35, 36, 37, 38, 39, 40, 41, 42, 43, 44, 45, 46, 47, 48, 49] rfl (by decide +kernel)
set_option maxRecDepth 20000 in
theorem gX5_does_X5_money : GoodIn wsX5_does (wsV RX5 127 RX5 yX5_money wsX5_money) := goodIn_app (goodIn_r _ [9, 10, 11, 12] rfl (by decide +kernel)) ggX5_does_X5_money
set_option maxRecDepth 20000 in
theorem ggX5_does_X5_loses : GoodIn wsX5_does wsX5_loses := goodIn_r _ [21, 22, 23, 24, 25, 26, 27, 28, 29, 30, 31, 32, 33, 34, 35, 36, 37, 38, 39, 40, 41, 42, 43, 44, 45, 46, 47, 48, 49] rfl (by decide +kernel)
set_option maxRecDepth 20000 in
theorem gX5_does_X5_loses : GoodIn wsX5_does (wsV RX5 101 RX5 yX5_loses wsX5_loses) := goodIn_app (goodIn_r _ [18, 19, 20, 12] rfl (by decide +kernel)) ggX5_does_X5_loses
set_option maxRecDepth 20000 in
theorem ggX5_done_X5_areModes : GoodIn wsX5_done wsX5_areModes := goodIn_r _ [6, 7, 8, 5, 9] rfl (by decide +kernel)
set_option maxRecDepth 20000 in
theorem gX5_done_X5_areModes : GoodIn wsX5_done (va_wsS RX5 149 yX5_areModes wsX5_areModes) := goodIn_app (goodIn_r _ [3, 4, 5] rfl (by decide +kernel)) ggX5_done_X5_areModes
set_option maxRecDepth 20000 in
theorem ggX5_done_X5_isWorld : GoodIn wsX5_done wsX5_isWorld := goodIn_r _ [12, 7, 8, 5, 9] rfl (by decide +kernel)
set_option maxRecDepth 20000 in
theorem gX5_done_X5_isWorld : GoodIn wsX5_done (va_wsS RX5 89 yX5_isWorld wsX5_isWorld) := goodIn_app (goodIn_r _ [10, 11, 5] rfl (by decide +kernel)) ggX5_done_X5_isWorld
set_option maxRecDepth 20000 in
theorem ggX5_done_X5_isLegalNow : GoodIn wsX5_done wsX5_isLegalNow := goodIn_r _ [16, 1, 17, 18, 19, 20, 21, 22, 5, 23, 24, 25, 26, 27, 28, 29, 30, 31, 32, 33, 34, 35, 7, 8, 9, 36, 37, 38, 39, 40, 41, 42, 43, 44, 45, 46, 47, 48, 49, 50, 51, 52, 53, 54, 67, 68, 69, 70, 71, 72, 73, 74, 75, 76, 77, 78, 79, 80, 81, 82, 83, 84, 85, 86, 87, 88, 89, 90, 91, 92] rfl (by decide +kernel)
set_option maxRecDepth 20000 in
theorem gX5_done_X5_isLegalNow : GoodIn wsX5_done (wsV RX5 153 RX5 yX5_isLegalNow wsX5_isLegalNow) := goodIn_app (goodIn_r _ [13, 14, 15, 5] rfl (by decide +kernel)) ggX5_done_X5_isLegalNow
set_option maxRecDepth 20000 in
theorem ggX5_done_X5_does : GoodIn wsX5_done wsX5_does := goodIn_r _ [58, 1, 19, 59, 17, 24, 18, 25, 60, 61, 62, 63, 5, 64, 48, 49, 65, 66, 30, 31, 32, 33, 34, 35, 67, 68, 69, 70, 71, 72, 73, 74, 75, 76, 77, 78, 79, 80, 81, 82, 83, 84, 85, 86, 87, 88, 89, 90, 91, 92] rfl (by decide +kernel)
set_option maxRecDepth 20000 in
theorem gX5_done_X5_does : GoodIn wsX5_done (wsV RX5 159 RX5 yX5_does wsX5_does) := goodIn_app (goodIn_r _ [55, 56, 57, 5] rfl (by decide +kernel)) ggX5_done_X5_does
set_option maxRecDepth 20000 in
theorem ggX5_runs_X5_isWorld : GoodIn wsX5_runs wsX5_isWorld := goodIn_r _ [6, 7, 8, 5, 9] rfl (by decide +kernel)
set_option maxRecDepth 20000 in
theorem gX5_runs_X5_isWorld : GoodIn wsX5_runs (va_wsS RX5 89 yX5_isWorld wsX5_isWorld) := goodIn_app (goodIn_r _ [3, 4, 5] rfl (by decide +kernel)) ggX5_runs_X5_isWorld
set_option maxRecDepth 20000 in
theorem ggX5_runs_X5_within : GoodIn wsX5_runs wsX5_within := goodIn_r _ [9] rfl (by decide +kernel)
set_option maxRecDepth 20000 in
theorem gX5_runs_X5_within : GoodIn wsX5_runs (va_wsS RX5 81 yX5_within wsX5_within) := goodIn_app (goodIn_r _ [7, 8, 5] rfl (by decide +kernel)) ggX5_runs_X5_within
set_option maxRecDepth 20000 in
theorem ggX5_runs_X5_doing : GoodIn wsX5_runs wsX5_doing := goodIn_r _ [13, 14, 15, 2, 16, 17, 18, 19, 20, 5, 21, 22, 23, 24, 25, 26, 27, 28, 29, 30, 31, 32, 33, 34, 35, 36, 37, 38, 39, 40, 41, 42, 43, 44, 45, 46, 47, 48, 49, 50, 7, 8, 9, 51, 52, 53, 54, 55, 56, 57, 58, 59, 60, 61, 62, 63, 64, 65, 66, 67, 68, 69, 70, 71, 72, 73, 74, 75, 76, 77, 78, 79, 80, 81, 82, 83, 84, 91, 92, 93, 94, 95, 96, 97, 98, 99, 100, 101, 102, 103, 104, 105, 106, 107, 108, 109, 110, 111, 112, 113, 114, 115, 116] rfl (by decide +kernel)
set_option maxRecDepth 20000 in
theorem gX5_runs_X5_doing : GoodIn wsX5_runs (wsV RX5 145 RX5 yX5_doing wsX5_doing) := goodIn_app (goodIn_r _ [10, 11, 12, 5] rfl (by decide +kernel)) ggX5_runs_X5_doing
set_option maxRecDepth 20000 in
theorem ggX5_runs_X5_does : GoodIn wsX5_runs wsX5_does := goodIn_r _ [88, 2, 84, 89, 14, 23, 15, 24, 90, 70, 71, 72, 5, 73, 63, 64, 74, 75, 45, 46, 47, 48, 49, 50, 91, 92, 93, 94, 95, 96, 97, 98, 99, 100, 101, 102, 103, 104, 105, 106, 107, 108, 109, 110, 111, 112, 113, 114, 115, 116] rfl (by decide +kernel)
set_option maxRecDepth 20000 in
theorem gX5_runs_X5_does : GoodIn wsX5_runs (wsV RX5 159 RX5 yX5_does wsX5_does) := goodIn_app (goodIn_r _ [85, 86, 87, 5] rfl (by decide +kernel)) ggX5_runs_X5_does
