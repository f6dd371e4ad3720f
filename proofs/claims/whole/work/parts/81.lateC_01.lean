set_option maxRecDepth 40000 in
theorem ggL_law_X4_out : GoodIn wsL_law wsX4_out := goodIn_r _ [177, 160, 161, 2, 162, 118, 119, 120, 146, 147, 148, 166, 167, 168, 169, 20, 21, 121, 122, 123, 124, 33, 39, 34, 88, 85, 86, 87, 539, 540, 541, 542, 543, 544, 545, 546, 491, 492, 493, 494, 495, 496, 497, 498, 499, 500, 501, 502, 503] rfl (by decide +kernel)
set_option maxRecDepth 40000 in
theorem gL_law_X4_out : GoodIn wsL_law (wsV RL 39 RX4 yX4_out wsX4_out) := goodIn_app (goodIn_r _ [174, 175, 176, 2] rfl (by decide +kernel)) ggL_law_X4_out
set_option maxRecDepth 40000 in
theorem ggL_law_X5_out : GoodIn wsL_law wsX5_out := goodIn_r _ [181, 129, 107, 131, 132, 5, 133, 153, 154, 155, 504, 505, 506, 507, 508, 509, 510, 511, 512, 513, 514, 515, 516, 517, 518, 519, 520, 521, 522, 523, 524, 525, 526, 527, 528, 529] rfl (by decide +kernel)
set_option maxRecDepth 40000 in
theorem gL_law_X5_out : GoodIn wsL_law (wsV RL 43 RX5 yX5_out wsX5_out) := goodIn_app (goodIn_r _ [178, 179, 180, 5] rfl (by decide +kernel)) ggL_law_X5_out
set_option maxRecDepth 40000 in
theorem ggL_law_X4_reserve : GoodIn wsL_law wsX4_reserve := goodIn_r _ [185, 16, 146, 147, 2, 148, 118, 119, 120, 121, 122, 123, 124, 33, 39, 34, 88, 85, 86, 87, 491, 492, 493, 494, 495, 496, 497, 498, 499, 500, 501, 502, 503, 530, 531, 532, 533, 534, 535, 536, 537, 538] rfl (by decide +kernel)
set_option maxRecDepth 40000 in
theorem gL_law_X4_reserve : GoodIn wsL_law (wsV RL 44 RX4 yX4_reserve wsX4_reserve) := goodIn_app (goodIn_r _ [182, 183, 184, 2] rfl (by decide +kernel)) ggL_law_X4_reserve
set_option maxRecDepth 40000 in
theorem ggL_law_X5_reserve : GoodIn wsL_law wsX5_reserve := goodIn_r _ [189, 129, 101, 153, 154, 5, 155, 131, 132, 133, 504, 505, 506, 507, 508, 509, 510, 511, 512, 513, 514, 515, 516, 517, 518, 519, 520, 521, 522, 523, 524, 525, 526, 527, 528, 529] rfl (by decide +kernel)
set_option maxRecDepth 40000 in
theorem gL_law_X5_reserve : GoodIn wsL_law (wsV RL 47 RX5 yX5_reserve wsX5_reserve) := goodIn_app (goodIn_r _ [186, 187, 188, 5] rfl (by decide +kernel)) ggL_law_X5_reserve
set_option maxRecDepth 40000 in
theorem ggL_law_X4_weights : GoodIn wsL_law wsX4_weights := goodIn_r _ [193, 32, 118, 119, 2, 120, 121, 122, 123, 124, 33, 39, 34, 88, 85, 86, 87, 491, 492, 493, 494, 495, 496, 497, 498, 499, 500, 501, 502, 503] rfl (by decide +kernel)
set_option maxRecDepth 40000 in
theorem gL_law_X4_weights : GoodIn wsL_law (wsV RL 48 RX4 yX4_weights wsX4_weights) := goodIn_app (goodIn_r _ [190, 191, 192, 2] rfl (by decide +kernel)) ggL_law_X4_weights
set_option maxRecDepth 40000 in
theorem ggL_law_X5_weights : GoodIn wsL_law wsX5_weights := goodIn_r _ [197, 129, 108, 131, 132, 5, 133, 504, 505, 506, 507, 508, 509, 510, 511, 512, 513, 514, 515, 516, 517, 518, 519, 520, 521, 522, 523, 524, 525, 526, 527, 528, 529] rfl (by decide +kernel)
set_option maxRecDepth 40000 in
theorem gL_law_X5_weights : GoodIn wsL_law (wsV RL 51 RX5 yX5_weights wsX5_weights) := goodIn_app (goodIn_r _ [194, 195, 196, 5] rfl (by decide +kernel)) ggL_law_X5_weights
set_option maxRecDepth 40000 in
theorem ggL_law_X4_price : GoodIn wsL_law wsX4_price := goodIn_r _ [201, 27, 202, 203, 2, 204, 118, 119, 120, 146, 147, 148, 121, 122, 123, 124, 33, 39, 34, 88, 85, 86, 87, 491, 492, 493, 494, 495, 496, 497, 498, 499, 500, 501, 502, 503, 556, 557, 558, 559, 560] rfl (by decide +kernel)
set_option maxRecDepth 40000 in
theorem gL_law_X4_price : GoodIn wsL_law (wsV RL 52 RX4 yX4_price wsX4_price) := goodIn_app (goodIn_r _ [198, 199, 200, 2] rfl (by decide +kernel)) ggL_law_X4_price
set_option maxRecDepth 40000 in
theorem ggL_law_X5_price : GoodIn wsL_law wsX5_price := goodIn_r _ [208, 129, 109, 209, 210, 5, 211, 131, 132, 133, 153, 154, 155, 504, 505, 506, 507, 508, 509, 510, 511, 512, 513, 514, 515, 516, 517, 518, 519, 520, 521, 522, 523, 524, 525, 526, 527, 528, 529] rfl (by decide +kernel)
set_option maxRecDepth 40000 in
theorem gL_law_X5_price : GoodIn wsL_law (wsV RL 55 RX5 yX5_price wsX5_price) := goodIn_app (goodIn_r _ [205, 206, 207, 5] rfl (by decide +kernel)) ggL_law_X5_price
set_option maxRecDepth 40000 in
theorem ggL_law_X4_reveal : GoodIn wsL_law wsX4_reveal := goodIn_r _ [215, 35, 118, 119, 2, 120, 121, 122, 123, 124, 33, 39, 34, 88, 85, 86, 87, 491, 492, 493, 494, 495, 496, 497, 498, 499, 500, 501, 502, 503] rfl (by decide +kernel)
set_option maxRecDepth 40000 in
theorem gL_law_X4_reveal : GoodIn wsL_law (wsV RL 56 RX4 yX4_reveal wsX4_reveal) := goodIn_app (goodIn_r _ [212, 213, 214, 2] rfl (by decide +kernel)) ggL_law_X4_reveal
set_option maxRecDepth 40000 in
theorem ggL_law_X5_reveal : GoodIn wsL_law wsX5_reveal := goodIn_r _ [219, 129, 220, 131, 132, 5, 133, 504, 505, 506, 507, 508, 509, 510, 511, 512, 513, 514, 515, 516, 517, 518, 519, 520, 521, 522, 523, 524, 525, 526, 527, 528, 529] rfl (by decide +kernel)
set_option maxRecDepth 40000 in
theorem gL_law_X5_reveal : GoodIn wsL_law (wsV RL 60 RX5 yX5_reveal wsX5_reveal) := goodIn_app (goodIn_r _ [216, 217, 218, 5] rfl (by decide +kernel)) ggL_law_X5_reveal
