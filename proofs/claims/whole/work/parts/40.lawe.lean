/-! the law's calls -/
set_option maxRecDepth 20000 in
theorem ggL_law_X2_init : GoodIn wsL_law wsX2_init := goodIn_r _ [9, 10, 11, 12, 13, 14, 15, 16, 17, 18, 19, 20, 21, 22, 23, 24, 25, 26, 27, 28, 29, 30, 31, 32, 33, 34, 35, 36, 37, 38, 39, 40, 41, 42, 43, 44, 45, 46, 47, 48, 49, 502, 503, 504, 505, 506, 490, 491, 492, 507, 508, 509, 510, 511, 512, 513, 514, 515, 516, 517, 518, 519, 520, 521] (by decide +kernel) (by decide +kernel)
set_option maxRecDepth 20000 in
theorem gL_law_X2_init : GoodIn wsL_law (wsX2_init) := ggL_law_X2_init
set_option maxRecDepth 20000 in
theorem ggL_law_X4_init : GoodIn wsL_law wsX4_init := goodIn_r _ [52, 53, 11, 12, 54, 25, 55, 56, 57, 58, 59, 60, 61, 62, 63, 64, 65, 66, 67, 68, 69, 70, 71, 72, 493, 494, 495, 496, 497, 498, 499, 500, 501, 522, 523, 524, 525, 526, 527, 528, 529, 530, 531, 532, 533] (by decide +kernel) (by decide +kernel)
set_option maxRecDepth 20000 in
theorem gL_law_X4_init : GoodIn wsL_law (wsX4_init) := ggL_law_X4_init
set_option maxRecDepth 20000 in
theorem ggL_law_L_set : GoodIn wsL_law wsL_set := goodIn_ca (goodIn_ca (goodIn_r _ [76, 77, 78, 79, 80, 81, 2, 82, 83, 84, 85, 86, 20, 87, 88, 89, 90, 19, 91, 92, 44, 34, 35, 36, 490, 491, 492, 507, 508, 509, 510, 511, 512, 513, 514, 515, 516, 517, 518, 519, 520, 521] (by decide +kernel) (by decide +kernel)) (goodIn_sub (fun _ h => List.mem_append_left _ (List.mem_append_left _ (List.mem_append_right _ h))) (by decide +kernel))) (goodIn_sub (fun _ h => List.mem_append_left _ (List.mem_append_right _ h)) (by decide +kernel))
set_option maxRecDepth 20000 in
theorem gL_law_L_set : GoodIn wsL_law (va_wsS RL 67 yL_set wsL_set) := goodIn_app (goodIn_of _ (by decide +kernel)) ggL_law_L_set
set_option maxRecDepth 20000 in
theorem ggL_law_X4_set : GoodIn wsL_law wsX4_set := goodIn_r _ [96, 97, 98, 56, 57, 61, 99, 100, 5, 101, 102, 103, 104, 105, 106, 107, 108, 493, 494, 495, 496, 497, 498, 499, 500, 501, 522, 523, 524, 525, 526, 527, 528, 529, 530, 531, 532, 533] (by decide +kernel) (by decide +kernel)
set_option maxRecDepth 20000 in
theorem gL_law_X4_set : GoodIn wsL_law (wsV RL 72 RX4 yX4_set wsX4_set) := goodIn_app (goodIn_of _ (by decide +kernel)) ggL_law_X4_set
set_option maxRecDepth 20000 in
theorem ggL_law_X4_thrown : GoodIn wsL_law wsX4_thrown := goodIn_r _ [112, 97, 493, 494, 495, 496, 497, 498, 499, 500, 501] (by decide +kernel) (by decide +kernel)
set_option maxRecDepth 20000 in
theorem gL_law_X4_thrown : GoodIn wsL_law (wsV RL 73 RX4 yX4_thrown wsX4_thrown) := goodIn_app (goodIn_of _ (by decide +kernel)) ggL_law_X4_thrown
set_option maxRecDepth 20000 in
theorem ggL_law_L_drop : GoodIn wsL_law wsL_drop := goodIn_ca (goodIn_ca (goodIn_ca (goodIn_r _ [115, 116, 77, 78, 117, 118, 119, 2, 120, 121, 122, 83, 84, 85, 86, 20, 123, 19, 124, 125, 44, 87, 88, 89, 126, 127, 128, 35, 129, 130, 131, 132, 36, 133, 134, 135, 136, 137, 138, 139, 140, 141, 142, 490, 491, 492, 507, 508, 509, 510, 511, 512, 513, 514, 515, 516, 517, 518, 519, 520, 521] (by decide +kernel) (by decide +kernel)) (goodIn_sub (fun _ h => List.mem_append_right _ h) (by decide +kernel))) (goodIn_sub (fun _ h => List.mem_append_left _ (List.mem_append_left _ (List.mem_append_right _ h))) (by decide +kernel))) (goodIn_sub (fun _ h => List.mem_append_left _ (List.mem_append_right _ h)) (by decide +kernel))
set_option maxRecDepth 20000 in
theorem gL_law_L_drop : GoodIn wsL_law (va_wsS RL 77 yL_drop wsL_drop) := goodIn_app (goodIn_of _ (by decide +kernel)) ggL_law_L_drop
set_option maxRecDepth 20000 in
theorem ggL_law_X4_drop : GoodIn wsL_law wsX4_drop := goodIn_r _ [146, 97, 61, 57, 147, 148, 149, 5, 150, 98, 102, 103, 104, 105, 106, 107, 108, 151, 152, 153, 60, 154, 65, 69, 155, 134, 135, 136, 493, 494, 495, 496, 497, 498, 499, 500, 501, 522, 523, 524, 525, 526, 527, 528, 529, 530, 531, 532, 533] (by decide +kernel) (by decide +kernel)
set_option maxRecDepth 20000 in
theorem gL_law_X4_drop : GoodIn wsL_law (wsV RL 80 RX4 yX4_drop wsX4_drop) := goodIn_app (goodIn_of _ (by decide +kernel)) ggL_law_X4_drop
set_option maxRecDepth 20000 in
theorem ggL_law_L_pump : GoodIn wsL_law wsL_pump := goodIn_ca (goodIn_ca (goodIn_r _ [158, 116, 77, 159, 160, 161, 2, 162, 121, 122, 83, 84, 20, 87, 88, 89, 490, 491, 492, 507, 508, 509, 510, 511, 512, 513, 514, 515, 516, 517, 518, 519, 520, 521] (by decide +kernel) (by decide +kernel)) (goodIn_sub (fun _ h => List.mem_append_right _ h) (by decide +kernel))) (goodIn_sub (fun _ h => List.mem_append_left _ (List.mem_append_left _ (List.mem_append_right _ h))) (by decide +kernel))
set_option maxRecDepth 20000 in
theorem gL_law_L_pump : GoodIn wsL_law (va_wsS RL 81 yL_pump wsL_pump) := goodIn_app (goodIn_of _ (by decide +kernel)) ggL_law_L_pump
set_option maxRecDepth 20000 in
theorem ggL_law_X4_pump : GoodIn wsL_law wsX4_pump := goodIn_r _ [166, 97, 61, 99, 100, 5, 101, 102, 103, 104, 105, 106, 107, 108, 493, 494, 495, 496, 497, 498, 499, 500, 501, 522, 523, 524, 525, 526, 527, 528, 529, 530, 531, 532, 533] (by decide +kernel) (by decide +kernel)
set_option maxRecDepth 20000 in
theorem gL_law_X4_pump : GoodIn wsL_law (wsV RL 83 RX4 yX4_pump wsX4_pump) := goodIn_app (goodIn_of _ (by decide +kernel)) ggL_law_X4_pump
set_option maxRecDepth 20000 in
theorem ggL_law_L_glass : GoodIn wsL_law wsL_glass := goodIn_ca (goodIn_r _ [169, 116, 170, 171, 172, 2, 173, 121, 122, 20, 123, 19, 124, 125, 44, 87, 88, 89, 130, 131, 132, 35, 36, 133, 134, 135, 136, 129, 137, 138, 139, 140, 141, 142, 174, 175, 176, 177, 178, 179, 180, 39, 181, 182, 183, 490, 491, 492, 507, 508, 509, 510, 511, 512, 513, 514, 515, 516, 517, 518, 519, 520, 521] (by decide +kernel) (by decide +kernel)) (goodIn_sub (fun _ h => List.mem_append_right _ h) (by decide +kernel))
set_option maxRecDepth 20000 in
theorem gL_law_L_glass : GoodIn wsL_law (va_wsS RL 84 yL_glass wsL_glass) := goodIn_app (goodIn_of _ (by decide +kernel)) ggL_law_L_glass
set_option maxRecDepth 20000 in
theorem ggL_law_X4_glass : GoodIn wsL_law wsX4_glass := goodIn_r _ [187, 97, 147, 148, 149, 5, 150, 98, 102, 103, 104, 188, 189, 190, 191, 25, 56, 57, 61, 151, 152, 153, 60, 154, 65, 69, 155, 134, 135, 136, 192, 193, 194, 195, 196, 197, 198, 199, 200, 201, 202, 71, 203, 105, 106, 107, 108, 493, 494, 495, 496, 497, 498, 499, 500, 501, 522, 523, 524, 525, 526, 527, 528, 529, 530, 531, 532, 533] (by decide +kernel) (by decide +kernel)
set_option maxRecDepth 20000 in
theorem gL_law_X4_glass : GoodIn wsL_law (wsV RL 86 RX4 yX4_glass wsX4_glass) := goodIn_app (goodIn_of _ (by decide +kernel)) ggL_law_X4_glass
set_option maxRecDepth 20000 in
theorem ggL_law_L_row : GoodIn wsL_law wsL_row := goodIn_ca (goodIn_r _ [206, 116, 207, 208, 209, 2, 210, 121, 122, 20, 87, 88, 89, 211, 19, 212, 213, 44, 34, 490, 491, 492, 507, 508, 509, 510, 511, 512, 513, 514, 515, 516, 517, 518, 519, 520, 521] (by decide +kernel) (by decide +kernel)) (goodIn_sub (fun _ h => List.mem_append_right _ h) (by decide +kernel))
set_option maxRecDepth 20000 in
theorem gL_law_L_row : GoodIn wsL_law (va_wsS RL 87 yL_row wsL_row) := goodIn_app (goodIn_of _ (by decide +kernel)) ggL_law_L_row
set_option maxRecDepth 20000 in
theorem ggL_law_X4_row : GoodIn wsL_law wsX4_row := goodIn_r _ [217, 97, 99, 100, 5, 101, 102, 103, 104, 218, 219, 220, 221, 98, 56, 61, 105, 106, 107, 108, 493, 494, 495, 496, 497, 498, 499, 500, 501, 522, 523, 524, 525, 526, 527, 528, 529, 530, 531, 532, 533] (by decide +kernel) (by decide +kernel)
set_option maxRecDepth 20000 in
theorem gL_law_X4_row : GoodIn wsL_law (wsV RL 89 RX4 yX4_row wsX4_row) := goodIn_app (goodIn_of _ (by decide +kernel)) ggL_law_X4_row
set_option maxRecDepth 20000 in
theorem ggL_law_L_setLength : GoodIn wsL_law wsL_setLength := goodIn_ca (goodIn_r _ [224, 77, 225, 226, 227, 2, 228, 83, 84, 16, 87, 88, 89, 490, 491, 492, 502, 503, 504, 505, 506] (by decide +kernel) (by decide +kernel)) (goodIn_sub (fun _ h => List.mem_append_left _ (List.mem_append_left _ (List.mem_append_right _ h))) (by decide +kernel))
set_option maxRecDepth 20000 in
theorem gL_law_L_setLength : GoodIn wsL_law (va_wsS RL 90 yL_setLength wsL_setLength) := goodIn_app (goodIn_of _ (by decide +kernel)) ggL_law_L_setLength
set_option maxRecDepth 20000 in
theorem ggL_law_X4_setLength : GoodIn wsL_law wsX4_setLength := goodIn_r _ [232, 97, 54, 102, 103, 5, 104, 105, 106, 107, 108, 493, 494, 495, 496, 497, 498, 499, 500, 501] (by decide +kernel) (by decide +kernel)
set_option maxRecDepth 20000 in
theorem gL_law_X4_setLength : GoodIn wsL_law (wsV RL 93 RX4 yX4_setLength wsX4_setLength) := goodIn_app (goodIn_of _ (by decide +kernel)) ggL_law_X4_setLength
set_option maxRecDepth 20000 in
theorem ggL_law_L_note : GoodIn wsL_law wsL_note := goodIn_ca (goodIn_ca (goodIn_r _ [235, 77, 78, 236, 237, 238, 2, 239, 83, 84, 85, 86, 16, 87, 88, 89, 240, 15, 241, 242, 29, 26, 27, 28, 490, 491, 492, 502, 503, 504, 505, 506] (by decide +kernel) (by decide +kernel)) (goodIn_sub (fun _ h => List.mem_append_left _ (List.mem_append_left _ (List.mem_append_right _ h))) (by decide +kernel))) (goodIn_sub (fun _ h => List.mem_append_left _ (List.mem_append_right _ h)) (by decide +kernel))
set_option maxRecDepth 20000 in
theorem gL_law_L_note : GoodIn wsL_law (va_wsS RL 94 yL_note wsL_note) := goodIn_app (goodIn_of _ (by decide +kernel)) ggL_law_L_note
set_option maxRecDepth 20000 in
theorem ggL_law_X4_note : GoodIn wsL_law wsX4_note := goodIn_r _ [246, 97, 247, 25, 55, 248, 249, 250, 251, 102, 103, 5, 104, 105, 106, 107, 108, 493, 494, 495, 496, 497, 498, 499, 500, 501] (by decide +kernel) (by decide +kernel)
set_option maxRecDepth 20000 in
theorem gL_law_X4_note : GoodIn wsL_law (wsV RL 96 RX4 yX4_note wsX4_note) := goodIn_app (goodIn_of _ (by decide +kernel)) ggL_law_X4_note
set_option maxRecDepth 20000 in
theorem ggL_law_L_strike : GoodIn wsL_law wsL_strike := goodIn_ca (goodIn_r _ [254, 116, 255, 256, 257, 2, 258, 121, 122, 16, 259, 15, 260, 261, 29, 262, 263, 264, 26, 27, 28, 265, 490, 491, 492, 502, 503, 504, 505, 506] (by decide +kernel) (by decide +kernel)) (goodIn_sub (fun _ h => List.mem_append_right _ h) (by decide +kernel))
set_option maxRecDepth 20000 in
theorem gL_law_L_strike : GoodIn wsL_law (va_wsS RL 97 yL_strike wsL_strike) := goodIn_app (goodIn_of _ (by decide +kernel)) ggL_law_L_strike
set_option maxRecDepth 20000 in
theorem ggL_law_X4_strike : GoodIn wsL_law wsX4_strike := goodIn_r _ [269, 97, 247, 55, 248, 249, 250, 251, 102, 103, 5, 104, 105, 106, 107, 108, 493, 494, 495, 496, 497, 498, 499, 500, 501] (by decide +kernel) (by decide +kernel)
