set_option maxRecDepth 20000 in
theorem ggL_law_X1_init : GoodIn wsL_law wsX1_init := goodIn_r _ [9, 10, 11, 12, 13, 14, 15, 16, 17, 18, 19, 20, 21, 22, 23, 24, 25, 26, 27, 562, 563, 532, 533, 534, 535, 536, 537, 538, 539, 540, 541, 542, 543, 544, 545] (by decide +kernel) (by decide +kernel)
set_option maxRecDepth 20000 in
theorem gL_law_X1_init : GoodIn wsL_law (wsX1_init) := ggL_law_X1_init
set_option maxRecDepth 20000 in
theorem ggL_law_X2_init : GoodIn wsL_law wsX2_init := goodIn_r _ [30, 31, 11, 12, 32, 33, 17, 34, 35, 546, 547, 548, 549, 550, 551, 552, 553, 554, 555, 556, 557, 558, 559, 560, 561] (by decide +kernel) (by decide +kernel)
set_option maxRecDepth 20000 in
theorem gL_law_X2_init : GoodIn wsL_law (wsX2_init) := ggL_law_X2_init
set_option maxRecDepth 20000 in
theorem ggL_law_L_start : GoodIn wsL_law wsL_start := goodIn_ca (goodIn_r _ [39, 40, 41, 42, 43, 2, 44, 45, 46, 47, 48, 49, 50, 51, 52, 53, 19, 23, 16, 54, 55, 56, 57, 58, 59, 60, 61, 62, 63, 64, 65, 66, 67, 68, 69, 70, 71, 72, 73, 74, 75, 76, 18, 77, 78, 79, 80, 81, 82, 83, 84, 20, 21, 22, 85, 86, 87, 88, 15, 89, 90, 91, 27, 92, 93, 94, 95, 96, 97, 98, 99, 100, 101, 102, 103, 104, 105, 106, 107, 108, 109, 110, 111, 112, 113, 114, 115, 116, 117, 532, 533, 534, 535, 536, 537, 538, 539, 540, 541, 542, 543, 544, 545, 562, 563] (by decide +kernel) (by decide +kernel)) (goodIn_sub (fun _ h => List.mem_append_left _ (List.mem_append_left _ (List.mem_append_left _ (List.mem_append_right _ h)))) (by decide +kernel))
set_option maxRecDepth 20000 in
theorem gL_law_L_start : GoodIn wsL_law (va_wsS RL 90 yL_start wsL_start) := goodIn_app (goodIn_of _ (by decide +kernel)) ggL_law_L_start
set_option maxRecDepth 20000 in
theorem ggL_law_X2_start : GoodIn wsL_law wsX2_start := goodIn_r _ [121, 122, 123, 124, 125, 126, 33, 127, 128, 129, 130, 131, 132, 133, 5, 134, 135, 136, 137, 138, 139, 140, 141, 142, 143, 144, 145, 146, 147, 34, 148, 149, 150, 151, 152, 153, 154, 546, 547, 548, 549, 550, 551, 552, 553, 554, 555, 556, 557, 558, 559, 560, 561] (by decide +kernel) (by decide +kernel)
set_option maxRecDepth 20000 in
theorem gL_law_X2_start : GoodIn wsL_law (wsV RL 95 RX2 yX2_start wsX2_start) := goodIn_app (goodIn_of _ (by decide +kernel)) ggL_law_X2_start
set_option maxRecDepth 20000 in
theorem ggL_law_X2_thrown : GoodIn wsL_law wsX2_thrown := goodIn_r _ [158, 122, 546, 547, 548, 549, 550, 551, 552, 553, 554, 555, 556, 557, 558, 559, 560, 561] (by decide +kernel) (by decide +kernel)
set_option maxRecDepth 20000 in
theorem gL_law_X2_thrown : GoodIn wsL_law (wsV RL 96 RX2 yX2_thrown wsX2_thrown) := goodIn_app (goodIn_of _ (by decide +kernel)) ggL_law_X2_thrown
set_option maxRecDepth 20000 in
theorem ggL_law_X1_phase : GoodIn wsL_law wsX1_phase := goodIn_r _ [162, 19, 532, 533, 534, 535, 536, 537, 538, 539, 540, 541, 542, 543, 544, 545] (by decide +kernel) (by decide +kernel)
set_option maxRecDepth 20000 in
theorem gL_law_X1_phase : GoodIn wsL_law (wsV RL 99 RX1 yX1_phase wsX1_phase) := goodIn_app (goodIn_of _ (by decide +kernel)) ggL_law_X1_phase
set_option maxRecDepth 20000 in
theorem ggL_law_X2_phase : GoodIn wsL_law wsX2_phase := goodIn_r _ [166, 122, 128, 546, 547, 548, 549, 550, 551, 552, 553, 554, 555, 556, 557, 558, 559, 560, 561] (by decide +kernel) (by decide +kernel)
set_option maxRecDepth 20000 in
theorem gL_law_X2_phase : GoodIn wsL_law (wsV RL 102 RX2 yX2_phase wsX2_phase) := goodIn_app (goodIn_of _ (by decide +kernel)) ggL_law_X2_phase
set_option maxRecDepth 20000 in
theorem ggL_law_L_claim : GoodIn wsL_law wsL_claim := goodIn_ca (goodIn_ca (goodIn_ca (goodIn_ca (goodIn_r _ [169, 170, 171, 40, 172, 173, 174, 175, 2, 176, 45, 46, 177, 178, 179, 180, 181, 182, 19, 183, 184, 185, 186, 187, 188, 47, 189, 190, 191, 192, 193, 194, 70, 71, 72, 195, 196, 197, 198, 199, 200, 16, 201, 202, 203, 204, 51, 205, 15, 206, 207, 91, 208, 209, 210, 211, 212, 213, 27, 100, 101, 102, 103, 49, 52, 57, 58, 59, 104, 105, 106, 107, 108, 109, 110, 48, 111, 112, 113, 114, 115, 116, 117, 532, 533, 534, 535, 536, 537, 538, 539, 540, 541, 542, 543, 544, 545, 562, 563] (by decide +kernel) (by decide +kernel)) (goodIn_sub (fun _ h => List.mem_append_left _ (List.mem_append_left _ (List.mem_append_left _ (List.mem_append_right _ h)))) (by decide +kernel))) (goodIn_sub (fun _ h => List.mem_append_left _ (List.mem_append_left _ (List.mem_append_right _ h))) (by decide +kernel))) (goodIn_sub (fun _ h => List.mem_append_left _ (List.mem_append_right _ h)) (by decide +kernel))) (goodIn_sub (fun _ h => List.mem_append_right _ h) (by decide +kernel))
set_option maxRecDepth 20000 in
theorem gL_law_L_claim : GoodIn wsL_law (va_wsS RL 103 yL_claim wsL_claim) := goodIn_app (goodIn_of _ (by decide +kernel)) ggL_law_L_claim
set_option maxRecDepth 20000 in
theorem ggL_law_X2_claim : GoodIn wsL_law wsX2_claim := goodIn_r _ [217, 128, 122, 33, 218, 219, 220, 5, 221, 123, 135, 136, 137, 222, 223, 224, 225, 124, 125, 126, 226, 227, 228, 229, 230, 231, 141, 142, 143, 232, 233, 234, 235, 127, 151, 152, 153, 154, 546, 547, 548, 549, 550, 551, 552, 553, 554, 555, 556, 557, 558, 559, 560, 561] (by decide +kernel) (by decide +kernel)
set_option maxRecDepth 20000 in
theorem gL_law_X2_claim : GoodIn wsL_law (wsV RL 106 RX2 yX2_claim wsX2_claim) := goodIn_app (goodIn_of _ (by decide +kernel)) ggL_law_X2_claim
set_option maxRecDepth 20000 in
theorem ggL_law_L_claimAmong : GoodIn wsL_law wsL_claimAmong := goodIn_ca (goodIn_ca (goodIn_ca (goodIn_ca (goodIn_r _ [238, 170, 171, 40, 172, 239, 240, 241, 2, 242, 45, 46, 47, 177, 178, 179, 180, 181, 182, 19, 183, 184, 185, 186, 187, 188, 57, 58, 59, 195, 196, 197, 198, 199, 200, 16, 201, 202, 203, 204, 51, 70, 71, 72, 205, 15, 206, 207, 91, 208, 209, 210, 211, 212, 213, 27, 100, 101, 102, 103, 49, 52, 104, 105, 106, 107, 108, 109, 110, 48, 111, 112, 113, 114, 115, 116, 117, 532, 533, 534, 535, 536, 537, 538, 539, 540, 541, 542, 543, 544, 545, 562, 563] (by decide +kernel) (by decide +kernel)) (goodIn_sub (fun _ h => List.mem_append_left _ (List.mem_append_left _ (List.mem_append_left _ (List.mem_append_right _ h)))) (by decide +kernel))) (goodIn_sub (fun _ h => List.mem_append_left _ (List.mem_append_left _ (List.mem_append_right _ h))) (by decide +kernel))) (goodIn_sub (fun _ h => List.mem_append_left _ (List.mem_append_right _ h)) (by decide +kernel))) (goodIn_sub (fun _ h => List.mem_append_right _ h) (by decide +kernel))
set_option maxRecDepth 20000 in
theorem gL_law_L_claimAmong : GoodIn wsL_law (va_wsS RL 107 yL_claimAmong wsL_claimAmong) := goodIn_app (goodIn_of _ (by decide +kernel)) ggL_law_L_claimAmong
set_option maxRecDepth 20000 in
theorem ggL_law_X2_claimAmong : GoodIn wsL_law wsX2_claimAmong := goodIn_r _ [246, 128, 123, 124, 122, 33, 218, 219, 220, 5, 221, 135, 136, 137, 232, 233, 234, 235, 127, 141, 142, 143, 151, 152, 153, 154, 546, 547, 548, 549, 550, 551, 552, 553, 554, 555, 556, 557, 558, 559, 560, 561] (by decide +kernel) (by decide +kernel)
set_option maxRecDepth 20000 in
theorem gL_law_X2_claimAmong : GoodIn wsL_law (wsV RL 110 RX2 yX2_claimAmong wsX2_claimAmong) := goodIn_app (goodIn_of _ (by decide +kernel)) ggL_law_X2_claimAmong
set_option maxRecDepth 20000 in
theorem ggL_law_L_vote : GoodIn wsL_law wsL_vote := goodIn_ca (goodIn_ca (goodIn_ca (goodIn_r _ [249, 170, 171, 40, 250, 251, 252, 2, 253, 45, 46, 18, 254, 255, 256, 257, 181, 182, 19, 183, 184, 185, 186, 187, 188, 47, 201, 202, 203, 204, 51, 70, 71, 72, 258, 259, 260, 261, 532, 533, 534, 535, 536, 537, 538, 539, 540, 541, 542, 543, 544, 545] (by decide +kernel) (by decide +kernel)) (goodIn_sub (fun _ h => List.mem_append_left _ (List.mem_append_left _ (List.mem_append_left _ (List.mem_append_right _ h)))) (by decide +kernel))) (goodIn_sub (fun _ h => List.mem_append_left _ (List.mem_append_left _ (List.mem_append_right _ h))) (by decide +kernel))) (goodIn_sub (fun _ h => List.mem_append_left _ (List.mem_append_right _ h)) (by decide +kernel))
set_option maxRecDepth 20000 in
theorem gL_law_L_vote : GoodIn wsL_law (va_wsS RL 111 yL_vote wsL_vote) := goodIn_app (goodIn_of _ (by decide +kernel)) ggL_law_L_vote
set_option maxRecDepth 20000 in
theorem ggL_law_X2_vote : GoodIn wsL_law wsX2_vote := goodIn_r _ [265, 128, 127, 122, 34, 218, 219, 220, 5, 221, 123, 135, 136, 137, 141, 142, 143, 266, 267, 268, 269, 546, 547, 548, 549, 550, 551, 552, 553, 554, 555, 556, 557, 558, 559, 560, 561] (by decide +kernel) (by decide +kernel)
set_option maxRecDepth 20000 in
theorem gL_law_X2_vote : GoodIn wsL_law (wsV RL 113 RX2 yX2_vote wsX2_vote) := goodIn_app (goodIn_of _ (by decide +kernel)) ggL_law_X2_vote
set_option maxRecDepth 20000 in
theorem ggL_law_L_closeVote : GoodIn wsL_law wsL_closeVote := goodIn_ca (goodIn_r _ [272, 170, 273, 274, 275, 2, 276, 19, 254, 255, 256, 257, 181, 182, 277, 278, 279, 280, 47, 258, 259, 260, 261, 18, 73, 74, 75, 76, 77, 78, 79, 80, 281, 282, 283, 284, 51, 48, 70, 71, 72, 60, 61, 62, 63, 64, 65, 66, 532, 533, 534, 535, 536, 537, 538, 539, 540, 541, 542, 543, 544, 545] (by decide +kernel) (by decide +kernel)) (goodIn_sub (fun _ h => List.mem_append_left _ (List.mem_append_left _ (List.mem_append_right _ h))) (by decide +kernel))
set_option maxRecDepth 20000 in
theorem gL_law_L_closeVote : GoodIn wsL_law (va_wsS RL 114 yL_closeVote wsL_closeVote) := goodIn_app (goodIn_of _ (by decide +kernel)) ggL_law_L_closeVote
set_option maxRecDepth 20000 in
theorem ggL_law_X2_closeVote : GoodIn wsL_law wsX2_closeVote := goodIn_r _ [288, 128, 122, 123, 266, 267, 268, 5, 269, 34, 144, 145, 146, 147, 148, 149, 150, 289, 290, 291, 292, 127, 33, 124, 222, 223, 224, 225, 125, 126, 229, 230, 231, 141, 142, 143, 132, 133, 134, 546, 547, 548, 549, 550, 551, 552, 553, 554, 555, 556, 557, 558, 559, 560, 561] (by decide +kernel) (by decide +kernel)
set_option maxRecDepth 20000 in
theorem gL_law_X2_closeVote : GoodIn wsL_law (wsV RL 117 RX2 yX2_closeVote wsX2_closeVote) := goodIn_app (goodIn_of _ (by decide +kernel)) ggL_law_X2_closeVote
set_option maxRecDepth 20000 in
theorem ggL_law_L_protect : GoodIn wsL_law wsL_protect := goodIn_ca (goodIn_ca (goodIn_ca (goodIn_r _ [295, 170, 171, 40, 296, 297, 298, 2, 299, 45, 46, 50, 23, 20, 254, 255, 256, 257, 181, 182, 19, 300, 301, 302, 303, 201, 202, 203, 204, 51, 70, 71, 72, 183, 184, 185, 186, 187, 188, 47, 532, 533, 534, 535, 536, 537, 538, 539, 540, 541, 542, 543, 544, 545] (by decide +kernel) (by decide +kernel)) (goodIn_sub (fun _ h => List.mem_append_left _ (List.mem_append_left _ (List.mem_append_left _ (List.mem_append_right _ h)))) (by decide +kernel))) (goodIn_sub (fun _ h => List.mem_append_left _ (List.mem_append_left _ (List.mem_append_right _ h))) (by decide +kernel))) (goodIn_sub (fun _ h => List.mem_append_left _ (List.mem_append_right _ h)) (by decide +kernel))
set_option maxRecDepth 20000 in
theorem gL_law_L_protect : GoodIn wsL_law (va_wsS RL 118 yL_protect wsL_protect) := goodIn_app (goodIn_of _ (by decide +kernel)) ggL_law_L_protect
set_option maxRecDepth 20000 in
theorem ggL_law_X2_protect : GoodIn wsL_law wsX2_protect := goodIn_r _ [307, 128, 127, 126, 131, 122, 148, 141, 142, 5, 143, 218, 219, 220, 221, 123, 135, 136, 137, 546, 547, 548, 549, 550, 551, 552, 553, 554, 555, 556, 557, 558, 559, 560, 561] (by decide +kernel) (by decide +kernel)
set_option maxRecDepth 20000 in
theorem gL_law_X2_protect : GoodIn wsL_law (wsV RL 121 RX2 yX2_protect wsX2_protect) := goodIn_app (goodIn_of _ (by decide +kernel)) ggL_law_X2_protect
set_option maxRecDepth 20000 in
theorem ggL_law_L_attack : GoodIn wsL_law wsL_attack := goodIn_ca (goodIn_ca (goodIn_ca (goodIn_r _ [310, 170, 171, 40, 311, 312, 313, 2, 314, 45, 46, 21, 254, 255, 256, 257, 181, 182, 19, 183, 184, 185, 186, 187, 188, 47, 201, 202, 203, 204, 51, 70, 71, 72, 107, 108, 109, 110, 48, 532, 533, 534, 535, 536, 537, 538, 539, 540, 541, 542, 543, 544, 545] (by decide +kernel) (by decide +kernel)) (goodIn_sub (fun _ h => List.mem_append_left _ (List.mem_append_left _ (List.mem_append_left _ (List.mem_append_right _ h)))) (by decide +kernel))) (goodIn_sub (fun _ h => List.mem_append_left _ (List.mem_append_left _ (List.mem_append_right _ h))) (by decide +kernel))) (goodIn_sub (fun _ h => List.mem_append_left _ (List.mem_append_right _ h)) (by decide +kernel))
set_option maxRecDepth 20000 in
theorem gL_law_L_attack : GoodIn wsL_law (va_wsS RL 122 yL_attack wsL_attack) := goodIn_app (goodIn_of _ (by decide +kernel)) ggL_law_L_attack
set_option maxRecDepth 20000 in
theorem ggL_law_X2_attack : GoodIn wsL_law wsX2_attack := goodIn_r _ [318, 128, 127, 124, 122, 149, 218, 219, 220, 5, 221, 123, 135, 136, 137, 141, 142, 143, 546, 547, 548, 549, 550, 551, 552, 553, 554, 555, 556, 557, 558, 559, 560, 561] (by decide +kernel) (by decide +kernel)
set_option maxRecDepth 20000 in
theorem gL_law_X2_attack : GoodIn wsL_law (wsV RL 124 RX2 yX2_attack wsX2_attack) := goodIn_app (goodIn_of _ (by decide +kernel)) ggL_law_X2_attack
set_option maxRecDepth 20000 in
theorem ggL_law_L_look : GoodIn wsL_law wsL_look := goodIn_ca (goodIn_ca (goodIn_ca (goodIn_r _ [321, 170, 171, 40, 322, 323, 324, 2, 325, 45, 46, 49, 22, 254, 255, 256, 257, 181, 182, 19, 300, 301, 302, 303, 201, 202, 203, 204, 51, 70, 71, 72, 183, 184, 185, 186, 187, 188, 47, 532, 533, 534, 535, 536, 537, 538, 539, 540, 541, 542, 543, 544, 545] (by decide +kernel) (by decide +kernel)) (goodIn_sub (fun _ h => List.mem_append_left _ (List.mem_append_left _ (List.mem_append_left _ (List.mem_append_right _ h)))) (by decide +kernel))) (goodIn_sub (fun _ h => List.mem_append_left _ (List.mem_append_left _ (List.mem_append_right _ h))) (by decide +kernel))) (goodIn_sub (fun _ h => List.mem_append_left _ (List.mem_append_right _ h)) (by decide +kernel))
set_option maxRecDepth 20000 in
theorem gL_law_L_look : GoodIn wsL_law (va_wsS RL 125 yL_look wsL_look) := goodIn_app (goodIn_of _ (by decide +kernel)) ggL_law_L_look
set_option maxRecDepth 20000 in
theorem ggL_law_X2_look : GoodIn wsL_law wsX2_look := goodIn_r _ [329, 128, 127, 125, 122, 150, 141, 142, 5, 143, 218, 219, 220, 221, 123, 135, 136, 137, 546, 547, 548, 549, 550, 551, 552, 553, 554, 555, 556, 557, 558, 559, 560, 561] (by decide +kernel) (by decide +kernel)
set_option maxRecDepth 20000 in
theorem gL_law_X2_look : GoodIn wsL_law (wsV RL 127 RX2 yX2_look wsX2_look) := goodIn_app (goodIn_of _ (by decide +kernel)) ggL_law_X2_look
set_option maxRecDepth 20000 in
theorem ggL_law_L_endNight : GoodIn wsL_law wsL_endNight := goodIn_ca (goodIn_r _ [332, 170, 333, 334, 335, 2, 336, 21, 20, 19, 53, 23, 254, 255, 256, 257, 181, 182, 281, 282, 283, 284, 51, 48, 70, 71, 72, 60, 61, 62, 63, 64, 65, 66, 337, 338, 339, 340, 22, 49, 52, 201, 202, 203, 204, 81, 82, 83, 84, 532, 533, 534, 535, 536, 537, 538, 539, 540, 541, 542, 543, 544, 545] (by decide +kernel) (by decide +kernel)) (goodIn_sub (fun _ h => List.mem_append_left _ (List.mem_append_left _ (List.mem_append_right _ h))) (by decide +kernel))
set_option maxRecDepth 20000 in
theorem gL_law_L_endNight : GoodIn wsL_law (va_wsS RL 128 yL_endNight wsL_endNight) := goodIn_app (goodIn_of _ (by decide +kernel)) ggL_law_L_endNight
set_option maxRecDepth 20000 in
theorem ggL_law_X2_endNight : GoodIn wsL_law wsX2_endNight := goodIn_r _ [344, 128, 122, 149, 148, 130, 127, 125, 150, 129, 131, 289, 290, 291, 5, 292, 33, 124, 222, 223, 224, 225, 126, 229, 230, 231, 141, 142, 143, 132, 133, 134, 144, 145, 146, 147, 34, 546, 547, 548, 549, 550, 551, 552, 553, 554, 555, 556, 557, 558, 559, 560, 561] (by decide +kernel) (by decide +kernel)
set_option maxRecDepth 20000 in
theorem gL_law_X2_endNight : GoodIn wsL_law (wsV RL 130 RX2 yX2_endNight wsX2_endNight) := goodIn_app (goodIn_of _ (by decide +kernel)) ggL_law_X2_endNight
set_option maxRecDepth 20000 in
theorem ggL_law_L_day : GoodIn wsL_law wsL_day := goodIn_ca (goodIn_r _ [347, 170, 348, 349, 350, 2, 351, 53, 177, 178, 179, 180, 181, 182, 19, 532, 533, 534, 535, 536, 537, 538, 539, 540, 541, 542, 543, 544, 545] (by decide +kernel) (by decide +kernel)) (goodIn_sub (fun _ h => List.mem_append_left _ (List.mem_append_left _ (List.mem_append_right _ h))) (by decide +kernel))
set_option maxRecDepth 20000 in
theorem gL_law_L_day : GoodIn wsL_law (va_wsS RL 131 yL_day wsL_day) := goodIn_app (goodIn_of _ (by decide +kernel)) ggL_law_L_day
set_option maxRecDepth 20000 in
theorem ggL_law_X2_day : GoodIn wsL_law wsX2_day := goodIn_r _ [355, 129, 356, 357, 358, 5, 359, 128, 122, 546, 547, 548, 549, 550, 551, 552, 553, 554, 555, 556, 557, 558, 559, 560, 561] (by decide +kernel) (by decide +kernel)
set_option maxRecDepth 20000 in
theorem gL_law_X2_day : GoodIn wsL_law (wsV RL 133 RX2 yX2_day wsX2_day) := goodIn_app (goodIn_of _ (by decide +kernel)) ggL_law_X2_day
set_option maxRecDepth 20000 in
theorem ggL_law_L_alive : GoodIn wsL_law wsL_alive := goodIn_ca (goodIn_r _ [362, 170, 363, 364, 365, 2, 366, 51, 177, 178, 179, 180, 181, 182, 19, 532, 533, 534, 535, 536, 537, 538, 539, 540, 541, 542, 543, 544, 545] (by decide +kernel) (by decide +kernel)) (goodIn_sub (fun _ h => List.mem_append_left _ (List.mem_append_left _ (List.mem_append_right _ h))) (by decide +kernel))
set_option maxRecDepth 20000 in
theorem gL_law_L_alive : GoodIn wsL_law (va_wsS RL 134 yL_alive wsL_alive) := goodIn_app (goodIn_of _ (by decide +kernel)) ggL_law_L_alive
set_option maxRecDepth 20000 in
theorem ggL_law_X2_alive : GoodIn wsL_law wsX2_alive := goodIn_r _ [370, 127, 356, 357, 358, 5, 359, 128, 122, 546, 547, 548, 549, 550, 551, 552, 553, 554, 555, 556, 557, 558, 559, 560, 561] (by decide +kernel) (by decide +kernel)
set_option maxRecDepth 20000 in
theorem gL_law_X2_alive : GoodIn wsL_law (wsV RL 136 RX2 yX2_alive wsX2_alive) := goodIn_app (goodIn_of _ (by decide +kernel)) ggL_law_X2_alive
set_option maxRecDepth 20000 in
theorem ggL_law_L_votesFor : GoodIn wsL_law wsL_votesFor := goodIn_ca (goodIn_ca (goodIn_r _ [373, 170, 171, 374, 375, 376, 2, 377, 177, 178, 179, 180, 181, 182, 19, 183, 184, 185, 186, 187, 188, 47, 258, 259, 260, 261, 18, 532, 533, 534, 535, 536, 537, 538, 539, 540, 541, 542, 543, 544, 545] (by decide +kernel) (by decide +kernel)) (goodIn_sub (fun _ h => List.mem_append_left _ (List.mem_append_left _ (List.mem_append_right _ h))) (by decide +kernel))) (goodIn_sub (fun _ h => List.mem_append_left _ (List.mem_append_right _ h)) (by decide +kernel))
set_option maxRecDepth 20000 in
theorem gL_law_L_votesFor : GoodIn wsL_law (va_wsS RL 137 yL_votesFor wsL_votesFor) := goodIn_app (goodIn_of _ (by decide +kernel)) ggL_law_L_votesFor
set_option maxRecDepth 20000 in
theorem ggL_law_X2_votesFor : GoodIn wsL_law wsX2_votesFor := goodIn_r _ [381, 128, 122, 218, 219, 220, 5, 221, 123, 135, 136, 137, 266, 267, 268, 269, 34, 546, 547, 548, 549, 550, 551, 552, 553, 554, 555, 556, 557, 558, 559, 560, 561] (by decide +kernel) (by decide +kernel)
set_option maxRecDepth 20000 in
theorem gL_law_X2_votesFor : GoodIn wsL_law (wsV RL 139 RX2 yX2_votesFor wsX2_votesFor) := goodIn_app (goodIn_of _ (by decide +kernel)) ggL_law_X2_votesFor
set_option maxRecDepth 20000 in
theorem ggL_law_L_lookedAt : GoodIn wsL_law wsL_lookedAt := goodIn_ca (goodIn_r _ [384, 170, 385, 386, 387, 2, 388, 52, 177, 178, 179, 180, 181, 182, 19, 532, 533, 534, 535, 536, 537, 538, 539, 540, 541, 542, 543, 544, 545] (by decide +kernel) (by decide +kernel)) (goodIn_sub (fun _ h => List.mem_append_left _ (List.mem_append_left _ (List.mem_append_right _ h))) (by decide +kernel))
set_option maxRecDepth 20000 in
theorem gL_law_L_lookedAt : GoodIn wsL_law (va_wsS RL 140 yL_lookedAt wsL_lookedAt) := goodIn_app (goodIn_of _ (by decide +kernel)) ggL_law_L_lookedAt
set_option maxRecDepth 20000 in
theorem ggL_law_X2_lookedAt : GoodIn wsL_law wsX2_lookedAt := goodIn_r _ [392, 130, 356, 357, 358, 5, 359, 128, 122, 546, 547, 548, 549, 550, 551, 552, 553, 554, 555, 556, 557, 558, 559, 560, 561] (by decide +kernel) (by decide +kernel)
set_option maxRecDepth 20000 in
theorem gL_law_X2_lookedAt : GoodIn wsL_law (wsV RL 142 RX2 yX2_lookedAt wsX2_lookedAt) := goodIn_app (goodIn_of _ (by decide +kernel)) ggL_law_X2_lookedAt
set_option maxRecDepth 20000 in
theorem ggL_law_L_worlds : GoodIn wsL_law wsL_worlds := goodIn_ca (goodIn_ca (goodIn_r _ [395, 170, 171, 396, 397, 398, 2, 399, 16, 177, 178, 179, 180, 181, 182, 19, 400, 401, 402, 403, 183, 184, 185, 186, 187, 188, 47, 100, 101, 102, 103, 51, 49, 52, 57, 58, 59, 104, 105, 106, 70, 71, 72, 107, 108, 109, 110, 48, 111, 15, 112, 113, 27, 114, 115, 116, 117, 91, 532, 533, 534, 535, 536, 537, 538, 539, 540, 541, 542, 543, 544, 545, 562, 563] (by decide +kernel) (by decide +kernel)) (goodIn_sub (fun _ h => List.mem_append_left _ (List.mem_append_left _ (List.mem_append_right _ h))) (by decide +kernel))) (goodIn_sub (fun _ h => List.mem_append_left _ (List.mem_append_right _ h)) (by decide +kernel))
set_option maxRecDepth 20000 in
theorem gL_law_L_worlds : GoodIn wsL_law (va_wsS RL 143 yL_worlds wsL_worlds) := goodIn_app (goodIn_of _ (by decide +kernel)) ggL_law_L_worlds
set_option maxRecDepth 20000 in
theorem ggL_law_X2_worlds : GoodIn wsL_law wsX2_worlds := goodIn_r _ [407, 408, 409, 410, 5, 411, 128, 122, 412, 413, 414, 415, 218, 219, 220, 221, 123, 135, 136, 137, 416, 417, 418, 419, 420, 421, 422, 423, 33, 124, 130, 222, 223, 224, 225, 125, 126, 229, 230, 231, 141, 142, 143, 546, 547, 548, 549, 550, 551, 552, 553, 554, 555, 556, 557, 558, 559, 560, 561] (by decide +kernel) (by decide +kernel)
set_option maxRecDepth 20000 in
theorem gL_law_X2_worlds : GoodIn wsL_law (wsV RL 145 RX2 yX2_worlds wsX2_worlds) := goodIn_app (goodIn_of _ (by decide +kernel)) ggL_law_X2_worlds
set_option maxRecDepth 20000 in
theorem ggL_law_L_worldsWith : GoodIn wsL_law wsL_worldsWith := goodIn_ca (goodIn_ca (goodIn_ca (goodIn_r _ [426, 170, 171, 40, 427, 428, 429, 2, 430, 45, 46, 16, 177, 178, 179, 180, 181, 182, 19, 400, 401, 402, 403, 183, 184, 185, 186, 187, 188, 47, 100, 101, 102, 103, 51, 49, 52, 57, 58, 59, 104, 105, 106, 70, 71, 72, 107, 108, 109, 110, 48, 431, 15, 432, 433, 27, 193, 194, 114, 115, 116, 117, 91, 532, 533, 534, 535, 536, 537, 538, 539, 540, 541, 542, 543, 544, 545, 562, 563] (by decide +kernel) (by decide +kernel)) (goodIn_sub (fun _ h => List.mem_append_left _ (List.mem_append_left _ (List.mem_append_left _ (List.mem_append_right _ h)))) (by decide +kernel))) (goodIn_sub (fun _ h => List.mem_append_left _ (List.mem_append_left _ (List.mem_append_right _ h))) (by decide +kernel))) (goodIn_sub (fun _ h => List.mem_append_left _ (List.mem_append_right _ h)) (by decide +kernel))
set_option maxRecDepth 20000 in
theorem gL_law_L_worldsWith : GoodIn wsL_law (va_wsS RL 146 yL_worldsWith wsL_worldsWith) := goodIn_app (goodIn_of _ (by decide +kernel)) ggL_law_L_worldsWith
set_option maxRecDepth 20000 in
theorem ggL_law_X2_worldsWith : GoodIn wsL_law wsX2_worldsWith := goodIn_r _ [437, 128, 122, 412, 413, 414, 5, 415, 218, 219, 220, 221, 123, 135, 136, 137, 438, 439, 440, 441, 33, 229, 230, 231, 141, 142, 143, 420, 421, 422, 423, 124, 130, 222, 223, 224, 225, 125, 126, 546, 547, 548, 549, 550, 551, 552, 553, 554, 555, 556, 557, 558, 559, 560, 561] (by decide +kernel) (by decide +kernel)
set_option maxRecDepth 20000 in
theorem gL_law_X2_worldsWith : GoodIn wsL_law (wsV RL 148 RX2 yX2_worldsWith wsX2_worldsWith) := goodIn_app (goodIn_of _ (by decide +kernel)) ggL_law_X2_worldsWith
set_option maxRecDepth 20000 in
theorem ggL_law_L_sureWitches : GoodIn wsL_law wsL_sureWitches := goodIn_ca (goodIn_ca (goodIn_r _ [444, 170, 171, 445, 446, 447, 2, 448, 16, 177, 178, 179, 180, 181, 182, 19, 400, 401, 402, 403, 183, 184, 185, 186, 187, 188, 47, 100, 101, 102, 103, 51, 49, 52, 57, 58, 59, 104, 105, 106, 70, 71, 72, 107, 108, 109, 110, 48, 449, 15, 450, 451, 27, 114, 115, 116, 117, 91, 93, 94, 532, 533, 534, 535, 536, 537, 538, 539, 540, 541, 542, 543, 544, 545, 562, 563] (by decide +kernel) (by decide +kernel)) (goodIn_sub (fun _ h => List.mem_append_left _ (List.mem_append_left _ (List.mem_append_right _ h))) (by decide +kernel))) (goodIn_sub (fun _ h => List.mem_append_left _ (List.mem_append_right _ h)) (by decide +kernel))
set_option maxRecDepth 20000 in
theorem gL_law_L_sureWitches : GoodIn wsL_law (va_wsS RL 149 yL_sureWitches wsL_sureWitches) := goodIn_app (goodIn_of _ (by decide +kernel)) ggL_law_L_sureWitches
set_option maxRecDepth 20000 in
theorem ggL_law_X2_sureWitches : GoodIn wsL_law wsX2_sureWitches := goodIn_r _ [455, 123, 408, 409, 410, 5, 411, 128, 122, 412, 413, 414, 415, 218, 219, 220, 221, 135, 136, 137, 456, 457, 458, 459, 420, 421, 422, 423, 33, 124, 130, 222, 223, 224, 225, 125, 126, 229, 230, 231, 141, 142, 143, 546, 547, 548, 549, 550, 551, 552, 553, 554, 555, 556, 557, 558, 559, 560, 561] (by decide +kernel) (by decide +kernel)
set_option maxRecDepth 20000 in
theorem gL_law_X2_sureWitches : GoodIn wsL_law (wsV RL 151 RX2 yX2_sureWitches wsX2_sureWitches) := goodIn_app (goodIn_of _ (by decide +kernel)) ggL_law_X2_sureWitches
set_option maxRecDepth 20000 in
theorem ggL_law_L_sureHonest : GoodIn wsL_law wsL_sureHonest := goodIn_ca (goodIn_ca (goodIn_r _ [462, 170, 171, 463, 464, 465, 2, 466, 47, 16, 177, 178, 179, 180, 181, 182, 19, 400, 401, 402, 403, 183, 184, 185, 186, 187, 188, 57, 58, 59, 100, 101, 102, 103, 51, 49, 52, 104, 105, 106, 70, 71, 72, 107, 108, 109, 110, 48, 467, 15, 468, 469, 27, 114, 115, 116, 117, 91, 93, 94, 532, 533, 534, 535, 536, 537, 538, 539, 540, 541, 542, 543, 544, 545, 562, 563] (by decide +kernel) (by decide +kernel)) (goodIn_sub (fun _ h => List.mem_append_left _ (List.mem_append_left _ (List.mem_append_right _ h))) (by decide +kernel))) (goodIn_sub (fun _ h => List.mem_append_left _ (List.mem_append_right _ h)) (by decide +kernel))
set_option maxRecDepth 20000 in
theorem gL_law_L_sureHonest : GoodIn wsL_law (va_wsS RL 152 yL_sureHonest wsL_sureHonest) := goodIn_app (goodIn_of _ (by decide +kernel)) ggL_law_L_sureHonest
set_option maxRecDepth 20000 in
theorem ggL_law_X2_sureHonest : GoodIn wsL_law wsX2_sureHonest := goodIn_r _ [473, 123, 408, 409, 410, 5, 411, 128, 122, 412, 413, 414, 415, 218, 219, 220, 221, 135, 136, 137, 456, 457, 458, 459, 420, 421, 422, 423, 33, 124, 130, 222, 223, 224, 225, 125, 126, 229, 230, 231, 141, 142, 143, 546, 547, 548, 549, 550, 551, 552, 553, 554, 555, 556, 557, 558, 559, 560, 561] (by decide +kernel) (by decide +kernel)
set_option maxRecDepth 20000 in
theorem gL_law_X2_sureHonest : GoodIn wsL_law (wsV RL 154 RX2 yX2_sureHonest wsX2_sureHonest) := goodIn_app (goodIn_of _ (by decide +kernel)) ggL_law_X2_sureHonest
set_option maxRecDepth 20000 in
theorem ggL_law_L_witchSets : GoodIn wsL_law wsL_witchSets := goodIn_ca (goodIn_ca (goodIn_r _ [476, 170, 171, 477, 478, 479, 2, 480, 16, 177, 178, 179, 180, 181, 182, 19, 400, 401, 402, 403, 183, 184, 185, 186, 187, 188, 47, 100, 101, 102, 103, 51, 49, 52, 57, 58, 59, 104, 105, 106, 70, 71, 72, 107, 108, 109, 110, 48, 481, 15, 482, 483, 27, 114, 115, 116, 117, 91, 93, 94, 532, 533, 534, 535, 536, 537, 538, 539, 540, 541, 542, 543, 544, 545, 562, 563] (by decide +kernel) (by decide +kernel)) (goodIn_sub (fun _ h => List.mem_append_left _ (List.mem_append_left _ (List.mem_append_right _ h))) (by decide +kernel))) (goodIn_sub (fun _ h => List.mem_append_left _ (List.mem_append_right _ h)) (by decide +kernel))
set_option maxRecDepth 20000 in
theorem gL_law_L_witchSets : GoodIn wsL_law (va_wsS RL 155 yL_witchSets wsL_witchSets) := goodIn_app (goodIn_of _ (by decide +kernel)) ggL_law_L_witchSets
set_option maxRecDepth 20000 in
theorem ggL_law_X2_witchSets : GoodIn wsL_law wsX2_witchSets := goodIn_r _ [487, 408, 409, 410, 5, 411, 128, 122, 412, 413, 414, 415, 218, 219, 220, 221, 123, 135, 136, 137, 420, 421, 422, 423, 33, 124, 130, 222, 223, 224, 225, 125, 126, 229, 230, 231, 141, 142, 143, 546, 547, 548, 549, 550, 551, 552, 553, 554, 555, 556, 557, 558, 559, 560, 561] (by decide +kernel) (by decide +kernel)
set_option maxRecDepth 20000 in
theorem gL_law_X2_witchSets : GoodIn wsL_law (wsV RL 157 RX2 yX2_witchSets wsX2_witchSets) := goodIn_app (goodIn_of _ (by decide +kernel)) ggL_law_X2_witchSets
set_option maxRecDepth 20000 in
theorem ggL_law_L_suspect : GoodIn wsL_law wsL_suspect := goodIn_ca (goodIn_ca (goodIn_r _ [490, 170, 171, 491, 492, 493, 2, 494, 47, 16, 177, 178, 179, 180, 181, 182, 19, 400, 401, 402, 403, 183, 184, 185, 186, 187, 188, 100, 101, 102, 103, 51, 49, 52, 57, 58, 59, 104, 105, 106, 70, 71, 72, 107, 108, 109, 110, 48, 201, 202, 203, 204, 431, 15, 432, 433, 27, 193, 194, 114, 115, 116, 117, 91, 532, 533, 534, 535, 536, 537, 538, 539, 540, 541, 542, 543, 544, 545, 562, 563] (by decide +kernel) (by decide +kernel)) (goodIn_sub (fun _ h => List.mem_append_left _ (List.mem_append_left _ (List.mem_append_right _ h))) (by decide +kernel))) (goodIn_sub (fun _ h => List.mem_append_left _ (List.mem_append_right _ h)) (by decide +kernel))
set_option maxRecDepth 20000 in
theorem gL_law_L_suspect : GoodIn wsL_law (va_wsS RL 158 yL_suspect wsL_suspect) := goodIn_app (goodIn_of _ (by decide +kernel)) ggL_law_L_suspect
set_option maxRecDepth 20000 in
theorem ggL_law_X2_suspect : GoodIn wsL_law wsX2_suspect := goodIn_r _ [498, 123, 127, 35, 408, 409, 410, 5, 411, 128, 122, 412, 413, 414, 415, 218, 219, 220, 221, 135, 136, 137, 499, 500, 501, 502, 438, 439, 440, 441, 33, 229, 230, 231, 141, 142, 143, 420, 421, 422, 423, 124, 130, 222, 223, 224, 225, 125, 126, 546, 547, 548, 549, 550, 551, 552, 553, 554, 555, 556, 557, 558, 559, 560, 561] (by decide +kernel) (by decide +kernel)
set_option maxRecDepth 20000 in
theorem gL_law_X2_suspect : GoodIn wsL_law (wsV RL 160 RX2 yX2_suspect wsX2_suspect) := goodIn_app (goodIn_of _ (by decide +kernel)) ggL_law_X2_suspect
set_option maxRecDepth 20000 in
theorem ggL_law_L_bestLook : GoodIn wsL_law wsL_bestLook := goodIn_ca (goodIn_r _ [505, 170, 506, 507, 508, 2, 509, 49, 16, 47, 510, 511, 512, 513, 177, 178, 179, 180, 181, 182, 19, 100, 101, 102, 103, 51, 52, 57, 58, 59, 104, 105, 106, 70, 71, 72, 107, 108, 109, 110, 48, 111, 15, 112, 113, 27, 114, 115, 116, 117, 91, 201, 202, 203, 204, 431, 432, 433, 193, 194, 532, 533, 534, 535, 536, 537, 538, 539, 540, 541, 542, 543, 544, 545, 562, 563] (by decide +kernel) (by decide +kernel)) (goodIn_sub (fun _ h => List.mem_append_left _ (List.mem_append_left _ (List.mem_append_right _ h))) (by decide +kernel))
set_option maxRecDepth 20000 in
theorem gL_law_L_bestLook : GoodIn wsL_law (va_wsS RL 161 yL_bestLook wsL_bestLook) := goodIn_app (goodIn_of _ (by decide +kernel)) ggL_law_L_bestLook
set_option maxRecDepth 20000 in
theorem ggL_law_X2_bestLook : GoodIn wsL_law wsX2_bestLook := goodIn_r _ [517, 125, 123, 35, 127, 356, 357, 358, 5, 359, 128, 122, 499, 500, 501, 502, 438, 439, 440, 441, 33, 229, 230, 231, 141, 142, 143, 420, 421, 422, 423, 124, 130, 222, 223, 224, 225, 126, 416, 417, 418, 419, 546, 547, 548, 549, 550, 551, 552, 553, 554, 555, 556, 557, 558, 559, 560, 561] (by decide +kernel) (by decide +kernel)
set_option maxRecDepth 20000 in
theorem gL_law_X2_bestLook : GoodIn wsL_law (wsV RL 163 RX2 yX2_bestLook wsX2_bestLook) := goodIn_app (goodIn_of _ (by decide +kernel)) ggL_law_X2_bestLook
set_option maxRecDepth 20000 in
theorem ggL_law_L_isPossible : GoodIn wsL_law wsL_isPossible := goodIn_ca (goodIn_ca (goodIn_r _ [520, 170, 171, 521, 522, 523, 2, 524, 16, 177, 178, 179, 180, 181, 182, 19, 400, 401, 402, 403, 183, 184, 185, 186, 187, 188, 47, 85, 86, 87, 70, 71, 72, 100, 101, 102, 103, 51, 49, 52, 57, 58, 59, 104, 105, 106, 107, 108, 109, 110, 48, 525, 15, 526, 527, 27, 114, 115, 116, 117, 91, 532, 533, 534, 535, 536, 537, 538, 539, 540, 541, 542, 543, 544, 545, 562, 563] (by decide +kernel) (by decide +kernel)) (goodIn_sub (fun _ h => List.mem_append_left _ (List.mem_append_left _ (List.mem_append_right _ h))) (by decide +kernel))) (goodIn_sub (fun _ h => List.mem_append_left _ (List.mem_append_right _ h)) (by decide +kernel))
set_option maxRecDepth 20000 in
theorem gL_law_L_isPossible : GoodIn wsL_law (va_wsS RL 164 yL_isPossible wsL_isPossible) := goodIn_app (goodIn_of _ (by decide +kernel)) ggL_law_L_isPossible
set_option maxRecDepth 20000 in
theorem ggL_law_X2_isPossible : GoodIn wsL_law wsX2_isPossible := goodIn_r _ [531, 128, 122, 123, 412, 413, 414, 5, 415, 218, 219, 220, 221, 135, 136, 137, 420, 421, 422, 423, 33, 124, 130, 222, 223, 224, 225, 125, 126, 229, 230, 231, 141, 142, 143, 546, 547, 548, 549, 550, 551, 552, 553, 554, 555, 556, 557, 558, 559, 560, 561] (by decide +kernel) (by decide +kernel)
set_option maxRecDepth 20000 in
theorem gL_law_X2_isPossible : GoodIn wsL_law (wsV RL 166 RX2 yX2_isPossible wsX2_isPossible) := goodIn_app (goodIn_of _ (by decide +kernel)) ggL_law_X2_isPossible
