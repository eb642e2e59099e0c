/-! the law's calls -/
set_option maxRecDepth 20000 in
theorem gL_law_X4_strike : GoodIn wsL_law (wsV RL 99 RX4 yX4_strike wsX4_strike) := goodIn_app (goodIn_of _ (by decide +kernel)) ggL_law_X4_strike
set_option maxRecDepth 20000 in
theorem ggL_law_L_written : GoodIn wsL_law wsL_written := goodIn_ca (goodIn_r _ [272, 116, 273, 274, 275, 2, 276, 121, 122, 16, 259, 15, 260, 261, 29, 87, 88, 89, 490, 491, 492, 502, 503, 504, 505, 506] (by decide +kernel) (by decide +kernel)) (goodIn_sub (fun _ h => List.mem_append_right _ h) (by decide +kernel))
set_option maxRecDepth 20000 in
theorem gL_law_L_written : GoodIn wsL_law (va_wsS RL 100 yL_written wsL_written) := goodIn_app (goodIn_of _ (by decide +kernel)) ggL_law_L_written
set_option maxRecDepth 20000 in
theorem ggL_law_X4_written : GoodIn wsL_law wsX4_written := goodIn_r _ [280, 97, 247, 55, 102, 103, 5, 104, 105, 106, 107, 108, 493, 494, 495, 496, 497, 498, 499, 500, 501] (by decide +kernel) (by decide +kernel)
set_option maxRecDepth 20000 in
theorem gL_law_X4_written : GoodIn wsL_law (wsV RL 102 RX4 yX4_written wsX4_written) := goodIn_app (goodIn_of _ (by decide +kernel)) ggL_law_X4_written
set_option maxRecDepth 20000 in
theorem ggL_law_L_play : GoodIn wsL_law wsL_play := goodIn_ca (goodIn_r _ [283, 77, 284, 285, 286, 2, 287, 83, 84, 20, 87, 88, 89, 288, 19, 289, 290, 45, 291, 292, 293, 294, 42, 43, 295, 296, 135, 297, 298, 299, 300, 301, 44, 41, 49, 48, 302, 15, 303, 304, 30, 305, 306, 307, 308, 38, 34, 309, 310, 311, 312, 181, 130, 131, 132, 35, 36, 133, 134, 136, 129, 123, 124, 125, 137, 138, 139, 140, 141, 142, 182, 183, 313, 314, 315, 316, 46, 47, 40, 39, 317, 318, 319, 320, 490, 491, 492, 507, 508, 509, 510, 511, 512, 513, 514, 515, 516, 517, 518, 519, 520, 521, 502, 503, 504, 505, 506] (by decide +kernel) (by decide +kernel)) (goodIn_sub (fun _ h => List.mem_append_left _ (List.mem_append_left _ (List.mem_append_right _ h))) (by decide +kernel))
set_option maxRecDepth 20000 in
theorem gL_law_L_play : GoodIn wsL_law (va_wsS RL 103 yL_play wsL_play) := goodIn_app (goodIn_of _ (by decide +kernel)) ggL_law_L_play
set_option maxRecDepth 20000 in
theorem ggL_law_X4_play : GoodIn wsL_law wsX4_play := goodIn_r _ [324, 97, 61, 102, 103, 5, 104, 105, 106, 107, 108, 325, 326, 327, 60, 328, 67, 68, 329, 296, 135, 297, 330, 65, 331, 71, 155, 134, 136, 69, 332, 333, 334, 335, 70, 336, 337, 338, 72, 339, 340, 341, 342, 200, 201, 202, 203, 152, 153, 154, 493, 494, 495, 496, 497, 498, 499, 500, 501, 522, 523, 524, 525, 526, 527, 528, 529, 530, 531, 532, 533] (by decide +kernel) (by decide +kernel)
set_option maxRecDepth 20000 in
theorem gL_law_X4_play : GoodIn wsL_law (wsV RL 105 RX4 yX4_play wsX4_play) := goodIn_app (goodIn_of _ (by decide +kernel)) ggL_law_X4_play
set_option maxRecDepth 20000 in
theorem ggL_law_L_count : GoodIn wsL_law wsL_count := goodIn_ca (goodIn_r _ [345, 116, 346, 347, 348, 2, 349, 121, 122, 20, 16, 87, 88, 89, 350, 19, 351, 352, 44, 38, 353, 354, 355, 42, 356, 357, 358, 359, 174, 175, 176, 177, 178, 179, 180, 39, 129, 123, 124, 125, 181, 130, 131, 132, 35, 36, 133, 134, 135, 136, 137, 138, 139, 140, 141, 142, 182, 183, 490, 491, 492, 507, 508, 509, 510, 511, 512, 513, 514, 515, 516, 517, 518, 519, 520, 521, 502, 503, 504, 505, 506] (by decide +kernel) (by decide +kernel)) (goodIn_sub (fun _ h => List.mem_append_right _ h) (by decide +kernel))
set_option maxRecDepth 20000 in
theorem gL_law_L_count : GoodIn wsL_law (va_wsS RL 106 yL_count wsL_count) := goodIn_app (goodIn_of _ (by decide +kernel)) ggL_law_L_count
set_option maxRecDepth 20000 in
theorem ggL_law_X4_count : GoodIn wsL_law wsX4_count := goodIn_r _ [363, 97, 102, 103, 5, 104, 364, 365, 366, 367, 61, 98, 25, 247, 192, 193, 194, 195, 196, 197, 198, 60, 199, 200, 201, 135, 202, 71, 203, 152, 153, 154, 65, 69, 155, 134, 136, 368, 369, 370, 371, 70, 105, 106, 107, 108, 493, 494, 495, 496, 497, 498, 499, 500, 501, 522, 523, 524, 525, 526, 527, 528, 529, 530, 531, 532, 533] (by decide +kernel) (by decide +kernel)
set_option maxRecDepth 20000 in
theorem gL_law_X4_count : GoodIn wsL_law (wsV RL 108 RX4 yX4_count wsX4_count) := goodIn_app (goodIn_of _ (by decide +kernel)) ggL_law_X4_count
set_option maxRecDepth 20000 in
theorem ggL_law_L_needs : GoodIn wsL_law wsL_needs := goodIn_ca (goodIn_ca (goodIn_r _ [374, 116, 77, 375, 376, 377, 2, 378, 121, 122, 83, 84, 20, 123, 19, 124, 125, 44, 87, 88, 89, 379, 380, 381, 35, 129, 137, 138, 139, 140, 141, 142, 382, 126, 127, 128, 490, 491, 492, 507, 508, 509, 510, 511, 512, 513, 514, 515, 516, 517, 518, 519, 520, 521] (by decide +kernel) (by decide +kernel)) (goodIn_sub (fun _ h => List.mem_append_right _ h) (by decide +kernel))) (goodIn_sub (fun _ h => List.mem_append_left _ (List.mem_append_left _ (List.mem_append_right _ h))) (by decide +kernel))
set_option maxRecDepth 20000 in
theorem gL_law_L_needs : GoodIn wsL_law (va_wsS RL 109 yL_needs wsL_needs) := goodIn_app (goodIn_of _ (by decide +kernel)) ggL_law_L_needs
set_option maxRecDepth 20000 in
theorem ggL_law_X4_needs : GoodIn wsL_law wsX4_needs := goodIn_r _ [386, 97, 147, 148, 149, 5, 150, 98, 102, 103, 104, 105, 106, 107, 108, 387, 388, 389, 390, 57, 493, 494, 495, 496, 497, 498, 499, 500, 501] (by decide +kernel) (by decide +kernel)
set_option maxRecDepth 20000 in
theorem gL_law_X4_needs : GoodIn wsL_law (wsV RL 111 RX4 yX4_needs wsX4_needs) := goodIn_app (goodIn_of _ (by decide +kernel)) ggL_law_X4_needs
set_option maxRecDepth 20000 in
theorem ggL_law_L_foresee : GoodIn wsL_law wsL_foresee := goodIn_ca (goodIn_ca (goodIn_r _ [393, 77, 116, 394, 395, 396, 2, 397, 83, 84, 121, 122, 21, 20, 87, 88, 89, 398, 19, 399, 400, 44, 34, 35, 36, 38, 39, 40, 42, 43, 45, 46, 47, 48, 288, 289, 290, 291, 292, 293, 294, 295, 296, 135, 297, 298, 299, 300, 301, 41, 49, 302, 15, 303, 304, 30, 305, 306, 307, 308, 309, 310, 311, 312, 181, 130, 131, 132, 133, 134, 136, 129, 123, 124, 125, 137, 138, 139, 140, 141, 142, 182, 183, 313, 314, 315, 316, 317, 318, 319, 320, 350, 351, 352, 490, 491, 492, 507, 508, 509, 510, 511, 512, 513, 514, 515, 516, 517, 518, 519, 520, 521, 502, 503, 504, 505, 506] (by decide +kernel) (by decide +kernel)) (goodIn_sub (fun _ h => List.mem_append_left _ (List.mem_append_left _ (List.mem_append_right _ h))) (by decide +kernel))) (goodIn_sub (fun _ h => List.mem_append_right _ h) (by decide +kernel))
set_option maxRecDepth 20000 in
theorem gL_law_L_foresee : GoodIn wsL_law (va_wsS RL 112 yL_foresee wsL_foresee) := goodIn_app (goodIn_of _ (by decide +kernel)) ggL_law_L_foresee
set_option maxRecDepth 20000 in
theorem ggL_law_X4_foresee : GoodIn wsL_law wsX4_foresee := goodIn_r _ [404, 97, 62, 61, 25, 102, 103, 5, 104, 105, 106, 107, 108, 405, 406, 407, 60, 408, 331, 337, 338, 336, 67, 68, 69, 70, 71, 72, 409, 410, 411, 412, 413, 249, 250, 251, 414, 415, 416, 417, 325, 326, 327, 328, 329, 296, 135, 297, 330, 65, 155, 134, 136, 332, 333, 334, 335, 339, 340, 341, 342, 200, 201, 202, 203, 152, 153, 154, 368, 369, 370, 371, 493, 494, 495, 496, 497, 498, 499, 500, 501, 522, 523, 524, 525, 526, 527, 528, 529, 530, 531, 532, 533] (by decide +kernel) (by decide +kernel)
set_option maxRecDepth 20000 in
theorem gL_law_X4_foresee : GoodIn wsL_law (wsV RL 114 RX4 yX4_foresee wsX4_foresee) := goodIn_app (goodIn_of _ (by decide +kernel)) ggL_law_X4_foresee
set_option maxRecDepth 20000 in
theorem ggL_law_L_advise : GoodIn wsL_law wsL_advise := goodIn_ca (goodIn_r _ [420, 77, 421, 422, 423, 2, 424, 83, 84, 21, 20, 87, 88, 89, 398, 19, 399, 400, 44, 34, 35, 36, 38, 39, 40, 42, 43, 45, 46, 47, 48, 288, 289, 290, 291, 292, 293, 294, 295, 296, 135, 297, 298, 299, 300, 301, 41, 49, 302, 15, 303, 304, 30, 305, 306, 307, 308, 309, 310, 311, 312, 181, 130, 131, 132, 133, 134, 136, 129, 123, 124, 125, 137, 138, 139, 140, 141, 142, 182, 183, 313, 314, 315, 316, 317, 318, 319, 320, 425, 426, 427, 428, 379, 380, 381, 382, 126, 127, 128, 429, 430, 431, 432, 433, 434, 435, 436, 490, 491, 492, 507, 508, 509, 510, 511, 512, 513, 514, 515, 516, 517, 518, 519, 520, 521, 502, 503, 504, 505, 506] (by decide +kernel) (by decide +kernel)) (goodIn_sub (fun _ h => List.mem_append_left _ (List.mem_append_left _ (List.mem_append_right _ h))) (by decide +kernel))
set_option maxRecDepth 20000 in
theorem gL_law_L_advise : GoodIn wsL_law (va_wsS RL 115 yL_advise wsL_advise) := goodIn_app (goodIn_of _ (by decide +kernel)) ggL_law_L_advise
set_option maxRecDepth 20000 in
theorem ggL_law_X4_advise : GoodIn wsL_law wsX4_advise := goodIn_r _ [440, 97, 62, 61, 98, 102, 103, 5, 104, 105, 106, 107, 108, 405, 406, 407, 60, 408, 331, 337, 338, 336, 67, 68, 69, 70, 71, 72, 409, 410, 411, 412, 413, 249, 250, 251, 414, 415, 416, 417, 325, 326, 327, 328, 329, 296, 135, 297, 330, 65, 155, 134, 136, 332, 333, 334, 335, 339, 340, 341, 342, 200, 201, 202, 203, 152, 153, 154, 387, 388, 389, 390, 57, 493, 494, 495, 496, 497, 498, 499, 500, 501, 522, 523, 524, 525, 526, 527, 528, 529, 530, 531, 532, 533] (by decide +kernel) (by decide +kernel)
set_option maxRecDepth 20000 in
theorem gL_law_X4_advise : GoodIn wsL_law (wsV RL 117 RX4 yX4_advise wsX4_advise) := goodIn_app (goodIn_of _ (by decide +kernel)) ggL_law_X4_advise
set_option maxRecDepth 20000 in
theorem ggL_law_L_wants : GoodIn wsL_law wsL_wants := goodIn_ca (goodIn_ca (goodIn_r _ [443, 116, 77, 444, 445, 446, 2, 447, 121, 122, 83, 84, 87, 88, 89, 448, 449, 450, 451, 21, 20, 398, 19, 399, 400, 44, 34, 35, 36, 38, 39, 40, 42, 43, 45, 46, 47, 48, 452, 453, 454, 288, 289, 290, 291, 292, 293, 294, 295, 296, 135, 297, 298, 299, 300, 301, 41, 49, 302, 15, 303, 304, 30, 305, 306, 307, 308, 309, 310, 311, 312, 181, 130, 131, 132, 133, 134, 136, 129, 123, 124, 125, 137, 138, 139, 140, 141, 142, 182, 183, 313, 314, 315, 316, 317, 318, 319, 320, 490, 491, 492, 507, 508, 509, 510, 511, 512, 513, 514, 515, 516, 517, 518, 519, 520, 521, 502, 503, 504, 505, 506] (by decide +kernel) (by decide +kernel)) (goodIn_sub (fun _ h => List.mem_append_right _ h) (by decide +kernel))) (goodIn_sub (fun _ h => List.mem_append_left _ (List.mem_append_left _ (List.mem_append_right _ h))) (by decide +kernel))
set_option maxRecDepth 20000 in
theorem gL_law_L_wants : GoodIn wsL_law (va_wsS RL 118 yL_wants wsL_wants) := goodIn_app (goodIn_of _ (by decide +kernel)) ggL_law_L_wants
set_option maxRecDepth 20000 in
theorem ggL_law_X4_wants : GoodIn wsL_law wsX4_wants := goodIn_r _ [458, 97, 99, 100, 5, 101, 102, 103, 104, 105, 106, 107, 108, 459, 460, 461, 462, 62, 61, 405, 406, 407, 60, 408, 331, 337, 338, 336, 67, 68, 69, 70, 71, 72, 409, 410, 411, 412, 413, 249, 250, 251, 414, 415, 416, 417, 325, 326, 327, 328, 329, 296, 135, 297, 330, 65, 155, 134, 136, 332, 333, 334, 335, 339, 340, 341, 342, 200, 201, 202, 203, 152, 153, 154, 493, 494, 495, 496, 497, 498, 499, 500, 501, 522, 523, 524, 525, 526, 527, 528, 529, 530, 531, 532, 533] (by decide +kernel) (by decide +kernel)
set_option maxRecDepth 20000 in
theorem gL_law_X4_wants : GoodIn wsL_law (wsV RL 120 RX4 yX4_wants wsX4_wants) := goodIn_app (goodIn_of _ (by decide +kernel)) ggL_law_X4_wants
set_option maxRecDepth 20000 in
theorem ggL_law_X2_mean : GoodIn wsL_law wsX2_mean := goodIn_r _ [466, 20, 490, 491, 492, 507, 508, 509, 510, 511, 512, 513, 514, 515, 516, 517, 518, 519, 520, 521] (by decide +kernel) (by decide +kernel)
set_option maxRecDepth 20000 in
theorem gL_law_X2_mean : GoodIn wsL_law (wsV RL 121 RX2 yX2_mean wsX2_mean) := goodIn_app (goodIn_of _ (by decide +kernel)) ggL_law_X2_mean
set_option maxRecDepth 20000 in
theorem ggL_law_X4_mean : GoodIn wsL_law wsX4_mean := goodIn_r _ [470, 97, 61, 493, 494, 495, 496, 497, 498, 499, 500, 501, 522, 523, 524, 525, 526, 527, 528, 529, 530, 531, 532, 533] (by decide +kernel) (by decide +kernel)
set_option maxRecDepth 20000 in
theorem gL_law_X4_mean : GoodIn wsL_law (wsV RL 125 RX4 yX4_mean wsX4_mean) := goodIn_app (goodIn_of _ (by decide +kernel)) ggL_law_X4_mean
set_option maxRecDepth 20000 in
theorem ggL_law_X2_digest : GoodIn wsL_law wsX2_digest := goodIn_ca (goodIn_r _ [474, 475, 16, 20, 476, 347, 348, 2, 349, 121, 122, 87, 88, 89, 350, 19, 351, 352, 44, 38, 353, 354, 355, 42, 356, 357, 358, 359, 174, 175, 176, 177, 178, 179, 180, 39, 129, 123, 124, 125, 181, 130, 131, 132, 35, 36, 133, 134, 135, 136, 137, 138, 139, 140, 141, 142, 182, 183, 477, 478, 479, 480, 481, 171, 172, 173, 482, 208, 209, 210, 211, 212, 213, 34, 483, 274, 275, 276, 259, 15, 260, 261, 29, 490, 491, 492, 502, 503, 504, 505, 506, 507, 508, 509, 510, 511, 512, 513, 514, 515, 516, 517, 518, 519, 520, 521] (by decide +kernel) (by decide +kernel)) (goodIn_sub (fun _ h => List.mem_append_right _ h) (by decide +kernel))
set_option maxRecDepth 20000 in
theorem gL_law_X2_digest : GoodIn wsL_law (wsV RL 126 RX2 yX2_digest wsX2_digest) := goodIn_app (goodIn_of _ (by decide +kernel)) ggL_law_X2_digest
set_option maxRecDepth 20000 in
theorem ggL_law_X4_digest : GoodIn wsL_law wsX4_digest := goodIn_r _ [487, 97, 488, 489, 54, 98, 247, 55, 364, 365, 366, 5, 367, 61, 25, 192, 193, 194, 195, 196, 197, 198, 60, 199, 200, 201, 135, 202, 71, 203, 152, 153, 154, 65, 69, 155, 134, 136, 368, 369, 370, 371, 70, 188, 189, 190, 191, 56, 57, 151, 218, 219, 220, 221, 493, 494, 495, 496, 497, 498, 499, 500, 501, 522, 523, 524, 525, 526, 527, 528, 529, 530, 531, 532, 533] (by decide +kernel) (by decide +kernel)
set_option maxRecDepth 20000 in
theorem gL_law_X4_digest : GoodIn wsL_law (wsV RL 130 RX4 yX4_digest wsX4_digest) := goodIn_app (goodIn_of _ (by decide +kernel)) ggL_law_X4_digest
