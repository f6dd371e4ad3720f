set_option maxRecDepth 40000 in
theorem ggL_law_X4_init : GoodIn wsL_law wsX4_init := goodIn_r _ [9, 10, 11, 12, 13, 14, 15, 16, 17, 18, 19, 20, 21, 22, 23, 24, 25, 26, 27, 28, 29, 30, 31, 32, 33, 34, 35, 36, 37, 38, 39, 40, 41, 42, 43, 44, 45, 46, 47, 48, 49, 50, 51, 52, 53, 54, 55, 56, 57, 58, 59, 60, 61, 62, 63, 64, 65, 66, 67, 68, 69, 70, 71, 72, 73, 74, 75, 76, 77, 78, 79, 80, 81, 82, 83, 84, 85, 86, 87, 88, 530, 531, 532, 533, 534, 535, 536, 537, 538, 491, 492, 493, 494, 495, 496, 497, 498, 499, 500, 501, 502, 503, 539, 540, 541, 542, 543, 544, 545, 546, 547, 548, 549, 550, 551, 552, 553, 554, 555, 556, 557, 558, 559, 560] rfl (by decide +kernel)
set_option maxRecDepth 40000 in
theorem gL_law_X4_init : GoodIn wsL_law (wsX4_init) := ggL_law_X4_init
set_option maxRecDepth 40000 in
theorem ggL_law_X5_init : GoodIn wsL_law wsX5_init := goodIn_r _ [91, 92, 11, 12, 93, 94, 95, 96, 97, 98, 31, 99, 100, 101, 102, 103, 104, 105, 106, 62, 107, 108, 109, 110, 111, 112, 113, 504, 505, 506, 507, 508, 509, 510, 511, 512, 513, 514, 515, 516, 517, 518, 519, 520, 521, 522, 523, 524, 525, 526, 527, 528, 529] rfl (by decide +kernel)
set_option maxRecDepth 40000 in
theorem gL_law_X5_init : GoodIn wsL_law (wsX5_init) := ggL_law_X5_init
set_option maxRecDepth 40000 in
theorem ggL_law_X4_lakes : GoodIn wsL_law wsX4_lakes := goodIn_r _ [117, 37, 16, 118, 119, 2, 120, 121, 122, 123, 124, 33, 39, 34, 88, 85, 86, 87, 491, 492, 493, 494, 495, 496, 497, 498, 499, 500, 501, 502, 503, 530, 531, 532, 533, 534, 535, 536, 537, 538] rfl (by decide +kernel)
set_option maxRecDepth 40000 in
theorem gL_law_X4_lakes : GoodIn wsL_law (wsV RL 19 RX4 yX4_lakes wsX4_lakes) := goodIn_app (goodIn_r _ [114, 115, 116, 2] rfl (by decide +kernel)) ggL_law_X4_lakes
set_option maxRecDepth 40000 in
theorem ggL_law_X5_lakes : GoodIn wsL_law wsX5_lakes := goodIn_r _ [128, 129, 130, 93, 94, 95, 96, 131, 132, 5, 133, 504, 505, 506, 507, 508, 509, 510, 511, 512, 513, 514, 515, 516, 517, 518, 519, 520, 521, 522, 523, 524, 525, 526, 527, 528, 529] rfl (by decide +kernel)
set_option maxRecDepth 40000 in
theorem gL_law_X5_lakes : GoodIn wsL_law (wsV RL 23 RX5 yX5_lakes wsX5_lakes) := goodIn_app (goodIn_r _ [125, 126, 127, 5] rfl (by decide +kernel)) ggL_law_X5_lakes
set_option maxRecDepth 40000 in
theorem ggL_law_X4_speeds : GoodIn wsL_law wsX4_speeds := goodIn_r _ [137, 16, 118, 119, 2, 120, 121, 122, 123, 124, 33, 39, 34, 88, 85, 86, 87, 491, 492, 493, 494, 495, 496, 497, 498, 499, 500, 501, 502, 503, 530, 531, 532, 533, 534, 535, 536, 537, 538] rfl (by decide +kernel)
set_option maxRecDepth 40000 in
theorem gL_law_X4_speeds : GoodIn wsL_law (wsV RL 24 RX4 yX4_speeds wsX4_speeds) := goodIn_app (goodIn_r _ [134, 135, 136, 2] rfl (by decide +kernel)) ggL_law_X4_speeds
set_option maxRecDepth 40000 in
theorem ggL_law_X5_speeds : GoodIn wsL_law wsX5_speeds := goodIn_r _ [141, 129, 97, 98, 131, 132, 5, 133, 504, 505, 506, 507, 508, 509, 510, 511, 512, 513, 514, 515, 516, 517, 518, 519, 520, 521, 522, 523, 524, 525, 526, 527, 528, 529] rfl (by decide +kernel)
set_option maxRecDepth 40000 in
theorem gL_law_X5_speeds : GoodIn wsL_law (wsV RL 28 RX5 yX5_speeds wsX5_speeds) := goodIn_app (goodIn_r _ [138, 139, 140, 5] rfl (by decide +kernel)) ggL_law_X5_speeds
set_option maxRecDepth 40000 in
theorem ggL_law_X4_flows : GoodIn wsL_law wsX4_flows := goodIn_r _ [145, 16, 146, 147, 2, 148, 118, 119, 120, 121, 122, 123, 124, 33, 39, 34, 88, 85, 86, 87, 491, 492, 493, 494, 495, 496, 497, 498, 499, 500, 501, 502, 503, 530, 531, 532, 533, 534, 535, 536, 537, 538] rfl (by decide +kernel)
set_option maxRecDepth 40000 in
theorem gL_law_X4_flows : GoodIn wsL_law (wsV RL 29 RX4 yX4_flows wsX4_flows) := goodIn_app (goodIn_r _ [142, 143, 144, 2] rfl (by decide +kernel)) ggL_law_X4_flows
set_option maxRecDepth 40000 in
theorem ggL_law_X5_flows : GoodIn wsL_law wsX5_flows := goodIn_r _ [152, 129, 99, 100, 153, 154, 5, 155, 131, 132, 133, 504, 505, 506, 507, 508, 509, 510, 511, 512, 513, 514, 515, 516, 517, 518, 519, 520, 521, 522, 523, 524, 525, 526, 527, 528, 529] rfl (by decide +kernel)
set_option maxRecDepth 40000 in
theorem gL_law_X5_flows : GoodIn wsL_law (wsV RL 33 RX5 yX5_flows wsX5_flows) := goodIn_app (goodIn_r _ [149, 150, 151, 5] rfl (by decide +kernel)) ggL_law_X5_flows
set_option maxRecDepth 40000 in
theorem ggL_law_X4_machine : GoodIn wsL_law wsX4_machine := goodIn_r _ [159, 160, 161, 2, 162, 118, 119, 120, 163, 164, 165, 166, 167, 168, 169, 20, 21, 121, 122, 123, 124, 33, 39, 34, 88, 85, 86, 87, 539, 540, 541, 542, 543, 544, 545, 546, 491, 492, 493, 494, 495, 496, 497, 498, 499, 500, 501, 502, 503] rfl (by decide +kernel)
set_option maxRecDepth 40000 in
theorem gL_law_X4_machine : GoodIn wsL_law (wsV RL 34 RX4 yX4_machine wsX4_machine) := goodIn_app (goodIn_r _ [156, 157, 158, 2] rfl (by decide +kernel)) ggL_law_X4_machine
set_option maxRecDepth 40000 in
theorem ggL_law_X5_machine : GoodIn wsL_law wsX5_machine := goodIn_r _ [173, 129, 102, 103, 104, 105, 106, 131, 132, 5, 133, 504, 505, 506, 507, 508, 509, 510, 511, 512, 513, 514, 515, 516, 517, 518, 519, 520, 521, 522, 523, 524, 525, 526, 527, 528, 529] rfl (by decide +kernel)
set_option maxRecDepth 40000 in
theorem gL_law_X5_machine : GoodIn wsL_law (wsV RL 38 RX5 yX5_machine wsX5_machine) := goodIn_app (goodIn_r _ [170, 171, 172, 5] rfl (by decide +kernel)) ggL_law_X5_machine
