set_option maxRecDepth 40000 in
theorem ggX4_done_X4_isMode : GoodIn wsX4_done wsX4_isMode := goodIn_r _ [7, 8, 9, 6, 10] rfl (by decide +kernel)
set_option maxRecDepth 40000 in
theorem gX4_done_X4_isMode : GoodIn wsX4_done (va_wsS RX4 150 yX4_isMode wsX4_isMode) := goodIn_app (goodIn_r _ [4, 5, 6] rfl (by decide +kernel)) ggX4_done_X4_isMode
set_option maxRecDepth 40000 in
theorem ggX4_done_X4_isWorld : GoodIn wsX4_done wsX4_isWorld := goodIn_r _ [13, 8, 9, 6, 10] rfl (by decide +kernel)
set_option maxRecDepth 40000 in
theorem gX4_done_X4_isWorld : GoodIn wsX4_done (va_wsS RX4 144 yX4_isWorld wsX4_isWorld) := goodIn_app (goodIn_r _ [11, 12, 6] rfl (by decide +kernel)) ggX4_done_X4_isWorld
set_option maxRecDepth 40000 in
theorem ggX4_done_X4_isLegalNow : GoodIn wsX4_done wsX4_isLegalNow := goodIn_r _ [17, 18, 3, 19, 20, 21, 22, 23, 24, 25, 26, 27, 28, 29, 30, 31, 32, 33, 34, 35, 36, 37, 38, 39, 40, 41, 42, 43, 44, 45, 46, 47, 48, 49, 50, 51, 52, 53, 54, 55, 56, 57, 58, 59, 60, 61, 62, 63, 64, 65, 66, 67, 68, 69, 70, 71, 72, 73, 74, 75, 76, 77, 78, 79, 80, 81, 82, 83, 84, 85, 86, 87, 88, 6, 89, 90, 91, 92, 93, 94, 95, 96, 97, 98, 99, 100, 101, 125, 126, 127, 128, 129, 130, 131, 132, 133, 134, 135, 136, 137, 138, 139, 140, 141, 142, 143, 144, 145, 146, 147, 148, 149, 150, 151, 152, 153, 154, 155, 156, 157, 158, 159, 160, 161, 162, 163] rfl (by decide +kernel)
set_option maxRecDepth 40000 in
theorem gX4_done_X4_isLegalNow : GoodIn wsX4_done (wsV RX4 153 RX4 yX4_isLegalNow wsX4_isLegalNow) := goodIn_app (goodIn_r _ [14, 15, 16, 6] rfl (by decide +kernel)) ggX4_done_X4_isLegalNow
set_option maxRecDepth 40000 in
theorem ggX4_done_X4_carryOut : GoodIn wsX4_done wsX4_carryOut := goodIn_r _ [105, 18, 3, 19, 106, 90, 91, 107, 20, 21, 22, 23, 24, 25, 26, 27, 28, 29, 30, 31, 32, 33, 34, 35, 36, 37, 38, 39, 40, 41, 42, 43, 44, 45, 46, 47, 48, 49, 50, 51, 52, 53, 54, 55, 56, 57, 58, 59, 60, 61, 62, 63, 64, 65, 66, 67, 68, 69, 70, 71, 72, 73, 74, 75, 76, 77, 78, 79, 80, 81, 82, 83, 84, 85, 86, 87, 88, 6, 89, 92, 93, 94, 95, 96, 97, 98, 108, 109, 110, 111, 112, 113, 114, 115, 116, 117, 118, 119, 120, 121, 122, 123, 124, 125, 126, 127, 128, 129, 130, 131, 132, 133, 134, 135, 136, 137, 138, 139, 140, 141, 142, 143, 144, 145, 146, 164, 165, 166, 167, 168, 147, 148, 149, 150, 151, 152, 153, 154, 155, 156, 157, 158, 159, 160, 161, 162, 163] rfl (by decide +kernel)
set_option maxRecDepth 40000 in
theorem gX4_done_X4_carryOut : GoodIn wsX4_done (wsV RX4 173 RX4 yX4_carryOut wsX4_carryOut) := goodIn_app (goodIn_r _ [102, 103, 104, 6] rfl (by decide +kernel)) ggX4_done_X4_carryOut
set_option maxRecDepth 40000 in
theorem ggL_done_X4_done : GoodIn wsL_done wsX4_done := goodIn_ca (goodIn_r _ [6, 7, 8, 9, 10, 11, 5, 12, 13, 14, 15, 16, 17, 18, 19, 20, 21, 22, 23, 24, 25, 26, 27, 28, 29, 30, 31, 32, 33, 34, 35, 36, 37, 38, 39, 40, 41, 42, 43, 44, 45, 46, 47, 48, 49, 50, 51, 52, 53, 54, 55, 56, 57, 58, 59, 60, 61, 62, 63, 64, 65, 66, 67, 68, 69, 70, 71, 72, 73, 74, 75, 76, 77, 78, 79, 80, 81, 82, 83, 84, 85, 86, 87, 88, 89, 90, 91, 92, 93, 94, 95, 96, 97, 98, 99, 100, 101, 102, 103, 104, 105, 106, 107, 108, 109, 110, 111, 112, 113, 114, 115, 116, 117, 118, 119, 120, 121, 122, 123, 124, 125, 126, 127, 128, 129, 130, 131, 132, 133, 134, 135, 136, 137, 138, 139, 140, 141, 142, 143, 144, 145, 146, 147, 148, 149, 150, 151, 152, 153, 154, 155, 156, 157, 158, 159, 160, 161, 162, 163, 164, 165, 166, 167, 168, 169, 170, 171, 172, 173] rfl (by decide +kernel)) (goodIn_sub (fun _ h => List.mem_cons_of_mem _ (List.mem_append_right _ h)) (by decide +kernel))
set_option maxRecDepth 40000 in
theorem gL_done_X4_done : GoodIn wsL_done (wsV RL 7 RX4 yX4_done wsX4_done) := goodIn_app (goodIn_r _ [2, 3, 4, 5] rfl (by decide +kernel)) ggL_done_X4_done
