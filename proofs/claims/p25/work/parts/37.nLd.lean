set_option maxRecDepth 20000 in
theorem ggL_isTold_X1_phase : GoodIn wsL_isTold wsX1_phase := goodIn_r _ [5, 6, 293, 294, 295, 296, 297, 298, 299, 300, 301, 302, 303, 304, 305, 306] (by decide +kernel) (by decide +kernel)
set_option maxRecDepth 20000 in
theorem gL_isTold_X1_phase : GoodIn wsL_isTold (wsV RL 131 RX1 yX1_phase wsX1_phase) := goodIn_app (goodIn_of _ (by decide +kernel)) ggL_isTold_X1_phase
set_option maxRecDepth 20000 in
theorem ggL_isTold_L_worlds : GoodIn wsL_isTold wsL_worlds := goodIn_ca (goodIn_ca (goodIn_r _ [10, 11, 12, 13, 14, 15, 4, 16, 17, 18, 19, 20, 21, 22, 23, 6, 24, 25, 26, 27, 28, 29, 30, 31, 32, 33, 34, 35, 36, 37, 38, 39, 40, 41, 42, 43, 44, 45, 46, 47, 48, 49, 50, 51, 52, 53, 54, 55, 56, 57, 58, 59, 60, 61, 62, 63, 64, 65, 293, 294, 295, 296, 297, 298, 299, 300, 301, 302, 303, 304, 305, 306, 307, 308] (by decide +kernel) (by decide +kernel)) (goodIn_sub (fun _ h => List.mem_cons_of_mem _ (List.mem_append_left _ (List.mem_append_left _ (List.mem_append_left _ (List.mem_append_right _ h))))) (by decide +kernel))) (goodIn_sub (fun _ h => List.mem_cons_of_mem _ (List.mem_append_left _ (List.mem_append_left _ (List.mem_append_right _ h)))) (by decide +kernel))
set_option maxRecDepth 20000 in
theorem gL_isTold_L_worlds : GoodIn wsL_isTold (va_wsS RL 114 yL_worlds wsL_worlds) := goodIn_app (goodIn_of _ (by decide +kernel)) ggL_isTold_L_worlds
set_option maxRecDepth 20000 in
theorem ggL_isTold_L_claim : GoodIn wsL_isTold wsL_claim := goodIn_ca (goodIn_ca (goodIn_ca (goodIn_ca (goodIn_r _ [68, 11, 12, 69, 70, 71, 72, 73, 4, 74, 75, 76, 18, 19, 20, 21, 22, 23, 6, 28, 29, 30, 31, 32, 33, 34, 77, 78, 79, 80, 81, 82, 48, 49, 50, 83, 84, 85, 86, 87, 88, 17, 89, 90, 91, 92, 39, 93, 57, 94, 95, 65, 96, 97, 98, 99, 100, 101, 60, 35, 36, 37, 38, 40, 41, 42, 43, 44, 45, 46, 47, 51, 52, 53, 54, 55, 56, 58, 59, 61, 62, 63, 64, 293, 294, 295, 296, 297, 298, 299, 300, 301, 302, 303, 304, 305, 306, 307, 308] (by decide +kernel) (by decide +kernel)) (goodIn_sub (fun _ h => List.mem_cons_of_mem _ (List.mem_append_left _ (List.mem_append_right _ h))) (by decide +kernel))) (goodIn_sub (fun _ h => List.mem_cons_of_mem _ (List.mem_append_left _ (List.mem_append_left _ (List.mem_append_left _ (List.mem_append_right _ h))))) (by decide +kernel))) (goodIn_sub (fun _ h => List.mem_cons_of_mem _ (List.mem_append_left _ (List.mem_append_left _ (List.mem_append_right _ h)))) (by decide +kernel))) (goodIn_sub (fun _ h => List.mem_cons_of_mem _ (List.mem_append_right _ h)) (by decide +kernel))
set_option maxRecDepth 20000 in
theorem gL_isTold_L_claim : GoodIn wsL_isTold (va_wsS RL 89 yL_claim wsL_claim) := goodIn_app (goodIn_of _ (by decide +kernel)) ggL_isTold_L_claim
set_option maxRecDepth 20000 in
theorem ggL_isTold_L_claimAmong : GoodIn wsL_isTold wsL_claimAmong := goodIn_ca (goodIn_ca (goodIn_ca (goodIn_ca (goodIn_r _ [104, 11, 12, 69, 70, 105, 106, 107, 4, 108, 75, 76, 34, 18, 19, 20, 21, 22, 23, 6, 28, 29, 30, 31, 32, 33, 42, 43, 44, 83, 84, 85, 86, 87, 88, 17, 89, 90, 91, 92, 39, 48, 49, 50, 93, 57, 94, 95, 65, 96, 97, 98, 99, 100, 101, 60, 35, 36, 37, 38, 40, 41, 45, 46, 47, 51, 52, 53, 54, 55, 56, 58, 59, 61, 62, 63, 64, 293, 294, 295, 296, 297, 298, 299, 300, 301, 302, 303, 304, 305, 306, 307, 308] (by decide +kernel) (by decide +kernel)) (goodIn_sub (fun _ h => List.mem_cons_of_mem _ (List.mem_append_left _ (List.mem_append_right _ h))) (by decide +kernel))) (goodIn_sub (fun _ h => List.mem_cons_of_mem _ (List.mem_append_left _ (List.mem_append_left _ (List.mem_append_left _ (List.mem_append_right _ h))))) (by decide +kernel))) (goodIn_sub (fun _ h => List.mem_cons_of_mem _ (List.mem_append_left _ (List.mem_append_left _ (List.mem_append_right _ h)))) (by decide +kernel))) (goodIn_sub (fun _ h => List.mem_cons_of_mem _ (List.mem_append_right _ h)) (by decide +kernel))
set_option maxRecDepth 20000 in
theorem gL_isTold_L_claimAmong : GoodIn wsL_isTold (va_wsS RL 92 yL_claimAmong wsL_claimAmong) := goodIn_app (goodIn_of _ (by decide +kernel)) ggL_isTold_L_claimAmong
set_option maxRecDepth 20000 in
theorem ggL_isTold_L_vote : GoodIn wsL_isTold wsL_vote := goodIn_ca (goodIn_ca (goodIn_ca (goodIn_r _ [111, 11, 12, 69, 112, 113, 114, 4, 115, 75, 76, 116, 117, 118, 119, 120, 22, 23, 6, 28, 29, 30, 31, 32, 33, 34, 89, 90, 91, 92, 39, 48, 49, 50, 121, 122, 123, 124, 293, 294, 295, 296, 297, 298, 299, 300, 301, 302, 303, 304, 305, 306] (by decide +kernel) (by decide +kernel)) (goodIn_sub (fun _ h => List.mem_cons_of_mem _ (List.mem_append_left _ (List.mem_append_right _ h))) (by decide +kernel))) (goodIn_sub (fun _ h => List.mem_cons_of_mem _ (List.mem_append_left _ (List.mem_append_left _ (List.mem_append_left _ (List.mem_append_right _ h))))) (by decide +kernel))) (goodIn_sub (fun _ h => List.mem_cons_of_mem _ (List.mem_append_left _ (List.mem_append_left _ (List.mem_append_right _ h)))) (by decide +kernel))
set_option maxRecDepth 20000 in
theorem gL_isTold_L_vote : GoodIn wsL_isTold (va_wsS RL 95 yL_vote wsL_vote) := goodIn_app (goodIn_of _ (by decide +kernel)) ggL_isTold_L_vote
set_option maxRecDepth 20000 in
theorem ggL_isTold_L_endNight : GoodIn wsL_isTold wsL_endNight := goodIn_ca (goodIn_r _ [127, 11, 128, 129, 130, 4, 131, 132, 133, 6, 134, 135, 117, 118, 119, 120, 22, 23, 136, 137, 138, 139, 39, 55, 48, 49, 50, 140, 141, 142, 143, 144, 145, 146, 147, 148, 149, 150, 151, 40, 41, 89, 90, 91, 92, 152, 153, 154, 155, 293, 294, 295, 296, 297, 298, 299, 300, 301, 302, 303, 304, 305, 306] (by decide +kernel) (by decide +kernel)) (goodIn_sub (fun _ h => List.mem_cons_of_mem _ (List.mem_append_left _ (List.mem_append_left _ (List.mem_append_left _ (List.mem_append_right _ h))))) (by decide +kernel))
set_option maxRecDepth 20000 in
theorem gL_isTold_L_endNight : GoodIn wsL_isTold (va_wsS RL 107 yL_endNight wsL_endNight) := goodIn_app (goodIn_of _ (by decide +kernel)) ggL_isTold_L_endNight
set_option maxRecDepth 20000 in
theorem ggL_isTold_L_closeVote : GoodIn wsL_isTold wsL_closeVote := goodIn_ca (goodIn_r _ [158, 11, 159, 160, 161, 4, 162, 6, 117, 118, 119, 120, 22, 23, 163, 164, 165, 166, 34, 121, 122, 123, 124, 116, 167, 168, 169, 170, 171, 172, 173, 174, 136, 137, 138, 139, 39, 55, 48, 49, 50, 140, 141, 142, 143, 144, 145, 146, 293, 294, 295, 296, 297, 298, 299, 300, 301, 302, 303, 304, 305, 306] (by decide +kernel) (by decide +kernel)) (goodIn_sub (fun _ h => List.mem_cons_of_mem _ (List.mem_append_left _ (List.mem_append_left _ (List.mem_append_left _ (List.mem_append_right _ h))))) (by decide +kernel))
set_option maxRecDepth 20000 in
theorem gL_isTold_L_closeVote : GoodIn wsL_isTold (va_wsS RL 97 yL_closeVote wsL_closeVote) := goodIn_app (goodIn_of _ (by decide +kernel)) ggL_isTold_L_closeVote
set_option maxRecDepth 20000 in
theorem ggL_isTold_L_isPossible : GoodIn wsL_isTold wsL_isPossible := goodIn_ca (goodIn_ca (goodIn_r _ [177, 11, 12, 178, 179, 180, 4, 181, 17, 18, 19, 20, 21, 22, 23, 6, 24, 25, 26, 27, 28, 29, 30, 31, 32, 33, 34, 182, 183, 184, 48, 49, 50, 35, 36, 37, 38, 39, 40, 41, 42, 43, 44, 45, 46, 47, 51, 52, 53, 54, 55, 185, 57, 186, 187, 60, 61, 62, 63, 64, 65, 293, 294, 295, 296, 297, 298, 299, 300, 301, 302, 303, 304, 305, 306, 307, 308] (by decide +kernel) (by decide +kernel)) (goodIn_sub (fun _ h => List.mem_cons_of_mem _ (List.mem_append_left _ (List.mem_append_left _ (List.mem_append_left _ (List.mem_append_right _ h))))) (by decide +kernel))) (goodIn_sub (fun _ h => List.mem_cons_of_mem _ (List.mem_append_left _ (List.mem_append_left _ (List.mem_append_right _ h)))) (by decide +kernel))
set_option maxRecDepth 20000 in
theorem gL_isTold_L_isPossible : GoodIn wsL_isTold (va_wsS RL 129 yL_isPossible wsL_isPossible) := goodIn_app (goodIn_of _ (by decide +kernel)) ggL_isTold_L_isPossible
set_option maxRecDepth 20000 in
theorem ggL_isTold_L_worldsWith : GoodIn wsL_isTold wsL_worldsWith := goodIn_ca (goodIn_ca (goodIn_ca (goodIn_r _ [190, 11, 12, 69, 191, 192, 193, 4, 194, 75, 76, 17, 18, 19, 20, 21, 22, 23, 6, 24, 25, 26, 27, 28, 29, 30, 31, 32, 33, 34, 35, 36, 37, 38, 39, 40, 41, 42, 43, 44, 45, 46, 47, 48, 49, 50, 51, 52, 53, 54, 55, 195, 57, 196, 197, 60, 81, 82, 61, 62, 63, 64, 65, 293, 294, 295, 296, 297, 298, 299, 300, 301, 302, 303, 304, 305, 306, 307, 308] (by decide +kernel) (by decide +kernel)) (goodIn_sub (fun _ h => List.mem_cons_of_mem _ (List.mem_append_left _ (List.mem_append_right _ h))) (by decide +kernel))) (goodIn_sub (fun _ h => List.mem_cons_of_mem _ (List.mem_append_left _ (List.mem_append_left _ (List.mem_append_left _ (List.mem_append_right _ h))))) (by decide +kernel))) (goodIn_sub (fun _ h => List.mem_cons_of_mem _ (List.mem_append_left _ (List.mem_append_left _ (List.mem_append_right _ h)))) (by decide +kernel))
set_option maxRecDepth 20000 in
theorem gL_isTold_L_worldsWith : GoodIn wsL_isTold (va_wsS RL 109 yL_worldsWith wsL_worldsWith) := goodIn_app (goodIn_of _ (by decide +kernel)) ggL_isTold_L_worldsWith
set_option maxRecDepth 20000 in
theorem ggL_isTold_L_chooses : GoodIn wsL_isTold wsL_chooses := goodIn_ca (goodIn_ca (goodIn_ca (goodIn_r _ [200, 11, 12, 69, 201, 202, 203, 4, 204, 75, 76, 205, 135, 133, 117, 118, 119, 120, 22, 23, 6, 206, 207, 208, 209, 89, 90, 91, 92, 39, 48, 49, 50, 28, 29, 30, 31, 32, 33, 34, 210, 211, 212, 213, 132, 51, 52, 53, 54, 55, 214, 215, 216, 217, 40, 151, 293, 294, 295, 296, 297, 298, 299, 300, 301, 302, 303, 304, 305, 306] (by decide +kernel) (by decide +kernel)) (goodIn_sub (fun _ h => List.mem_cons_of_mem _ (List.mem_append_left _ (List.mem_append_right _ h))) (by decide +kernel))) (goodIn_sub (fun _ h => List.mem_cons_of_mem _ (List.mem_append_left _ (List.mem_append_left _ (List.mem_append_left _ (List.mem_append_right _ h))))) (by decide +kernel))) (goodIn_sub (fun _ h => List.mem_cons_of_mem _ (List.mem_append_left _ (List.mem_append_left _ (List.mem_append_right _ h)))) (by decide +kernel))
set_option maxRecDepth 20000 in
theorem gL_isTold_L_chooses : GoodIn wsL_isTold (va_wsS RL 104 yL_chooses wsL_chooses) := goodIn_app (goodIn_of _ (by decide +kernel)) ggL_isTold_L_chooses
set_option maxRecDepth 20000 in
theorem ggL_isTold_X1_votesFor : GoodIn wsL_isTold wsX1_votesFor := goodIn_ca (goodIn_ca (goodIn_r _ [221, 18, 19, 20, 4, 21, 22, 23, 6, 28, 29, 30, 31, 32, 33, 34, 121, 122, 123, 124, 116, 293, 294, 295, 296, 297, 298, 299, 300, 301, 302, 303, 304, 305, 306] (by decide +kernel) (by decide +kernel)) (goodIn_sub (fun _ h => List.mem_cons_of_mem _ (List.mem_append_left _ (List.mem_append_left _ (List.mem_append_left _ (List.mem_append_right _ h))))) (by decide +kernel))) (goodIn_sub (fun _ h => List.mem_cons_of_mem _ (List.mem_append_left _ (List.mem_append_left _ (List.mem_append_right _ h)))) (by decide +kernel))
set_option maxRecDepth 20000 in
theorem gL_isTold_X1_votesFor : GoodIn wsL_isTold (wsV RL 134 RX1 yX1_votesFor wsX1_votesFor) := goodIn_app (goodIn_of _ (by decide +kernel)) ggL_isTold_X1_votesFor
set_option maxRecDepth 20000 in
theorem ggL_isTold_X1_day : GoodIn wsL_isTold wsX1_day := goodIn_ca (goodIn_r _ [225, 134, 18, 19, 20, 4, 21, 22, 23, 6, 293, 294, 295, 296, 297, 298, 299, 300, 301, 302, 303, 304, 305, 306] (by decide +kernel) (by decide +kernel)) (goodIn_sub (fun _ h => List.mem_cons_of_mem _ (List.mem_append_left _ (List.mem_append_left _ (List.mem_append_left _ (List.mem_append_right _ h))))) (by decide +kernel))
set_option maxRecDepth 20000 in
theorem gL_isTold_X1_day : GoodIn wsL_isTold (wsV RL 137 RX1 yX1_day wsX1_day) := goodIn_app (goodIn_of _ (by decide +kernel)) ggL_isTold_X1_day
set_option maxRecDepth 20000 in
theorem ggL_isTold_X1_alive : GoodIn wsL_isTold wsX1_alive := goodIn_ca (goodIn_r _ [229, 39, 18, 19, 20, 4, 21, 22, 23, 6, 293, 294, 295, 296, 297, 298, 299, 300, 301, 302, 303, 304, 305, 306] (by decide +kernel) (by decide +kernel)) (goodIn_sub (fun _ h => List.mem_cons_of_mem _ (List.mem_append_left _ (List.mem_append_left _ (List.mem_append_left _ (List.mem_append_right _ h))))) (by decide +kernel))
set_option maxRecDepth 20000 in
theorem gL_isTold_X1_alive : GoodIn wsL_isTold (wsV RL 140 RX1 yX1_alive wsX1_alive) := goodIn_app (goodIn_of _ (by decide +kernel)) ggL_isTold_X1_alive
set_option maxRecDepth 20000 in
theorem ggL_isTold_X1_lookedAt : GoodIn wsL_isTold wsX1_lookedAt := goodIn_ca (goodIn_r _ [233, 41, 18, 19, 20, 4, 21, 22, 23, 6, 293, 294, 295, 296, 297, 298, 299, 300, 301, 302, 303, 304, 305, 306] (by decide +kernel) (by decide +kernel)) (goodIn_sub (fun _ h => List.mem_cons_of_mem _ (List.mem_append_left _ (List.mem_append_left _ (List.mem_append_left _ (List.mem_append_right _ h))))) (by decide +kernel))
set_option maxRecDepth 20000 in
theorem gL_isTold_X1_lookedAt : GoodIn wsL_isTold (wsV RL 143 RX1 yX1_lookedAt wsX1_lookedAt) := goodIn_app (goodIn_of _ (by decide +kernel)) ggL_isTold_X1_lookedAt
set_option maxRecDepth 20000 in
theorem ggL_isTold_L_low : GoodIn wsL_isTold wsL_low := goodIn_r _ [265] (by decide +kernel) (by decide +kernel)
set_option maxRecDepth 20000 in
theorem gL_isTold_L_low : GoodIn wsL_isTold (va_wsS RL 79 yL_low wsL_low) := goodIn_app (goodIn_of _ (by decide +kernel)) ggL_isTold_L_low
theorem dL_isTold_0 : decode cL_isTold 0 = .ok (.aload_n 2, 1) := by decide +kernel
theorem dL_isTold_1 : decode cL_isTold 1 = .ok (.iconst 0, 1) := by decide +kernel
theorem dL_isTold_2 : decode cL_isTold 2 = .ok (.iaload, 1) := by decide +kernel
theorem dL_isTold_3 : decode cL_isTold 3 = .ok (.ifCond .ne 117, 3) := by decide +kernel
theorem dL_isTold_6 : decode cL_isTold 6 = .ok (.aload_n 0, 1) := by decide +kernel
theorem dL_isTold_7 : decode cL_isTold 7 = .ok (.invokevirtual 131, 3) := by decide +kernel
theorem dL_isTold_10 : decode cL_isTold 10 = .ok (.ifCond .ne 108, 3) := by decide +kernel
theorem dL_isTold_13 : decode cL_isTold 13 = .ok (.aload_n 0, 1) := by decide +kernel
theorem dL_isTold_14 : decode cL_isTold 14 = .ok (.iconst (-1), 1) := by decide +kernel
theorem dL_isTold_15 : decode cL_isTold 15 = .ok (.invokestatic 114, 3) := by decide +kernel
theorem dL_isTold_18 : decode cL_isTold 18 = .ok (.bipush (-71), 2) := by decide +kernel
theorem dL_isTold_20 : decode cL_isTold 20 = .ok (.if_icmp .ne 98, 3) := by decide +kernel
theorem dL_isTold_23 : decode cL_isTold 23 = .ok (.aload_n 0, 1) := by decide +kernel
theorem dL_isTold_24 : decode cL_isTold 24 = .ok (.iconst 0, 1) := by decide +kernel
theorem dL_isTold_25 : decode cL_isTold 25 = .ok (.bipush 9, 2) := by decide +kernel
theorem dL_isTold_27 : decode cL_isTold 27 = .ok (.iconst 0, 1) := by decide +kernel
theorem dL_isTold_28 : decode cL_isTold 28 = .ok (.invokestatic 89, 3) := by decide +kernel
theorem dL_isTold_31 : decode cL_isTold 31 = .ok (.bipush (-71), 2) := by decide +kernel
theorem dL_isTold_33 : decode cL_isTold 33 = .ok (.if_icmp .ne 85, 3) := by decide +kernel
theorem dL_isTold_36 : decode cL_isTold 36 = .ok (.aload_n 0, 1) := by decide +kernel
theorem dL_isTold_37 : decode cL_isTold 37 = .ok (.iconst 0, 1) := by decide +kernel
theorem dL_isTold_38 : decode cL_isTold 38 = .ok (.iconst (-1), 1) := by decide +kernel
theorem dL_isTold_39 : decode cL_isTold 39 = .ok (.invokestatic 92, 3) := by decide +kernel
theorem dL_isTold_42 : decode cL_isTold 42 = .ok (.bipush (-71), 2) := by decide +kernel
theorem dL_isTold_44 : decode cL_isTold 44 = .ok (.if_icmp .ne 74, 3) := by decide +kernel
theorem dL_isTold_47 : decode cL_isTold 47 = .ok (.aload_n 0, 1) := by decide +kernel
theorem dL_isTold_48 : decode cL_isTold 48 = .ok (.iconst 0, 1) := by decide +kernel
theorem dL_isTold_49 : decode cL_isTold 49 = .ok (.iconst 0, 1) := by decide +kernel
theorem dL_isTold_50 : decode cL_isTold 50 = .ok (.invokestatic 95, 3) := by decide +kernel
theorem dL_isTold_53 : decode cL_isTold 53 = .ok (.bipush (-71), 2) := by decide +kernel
theorem dL_isTold_55 : decode cL_isTold 55 = .ok (.if_icmp .ne 63, 3) := by decide +kernel
theorem dL_isTold_58 : decode cL_isTold 58 = .ok (.aload_n 0, 1) := by decide +kernel
theorem dL_isTold_59 : decode cL_isTold 59 = .ok (.invokestatic 107, 3) := by decide +kernel
theorem dL_isTold_62 : decode cL_isTold 62 = .ok (.bipush (-71), 2) := by decide +kernel
theorem dL_isTold_64 : decode cL_isTold 64 = .ok (.if_icmp .ne 54, 3) := by decide +kernel
theorem dL_isTold_67 : decode cL_isTold 67 = .ok (.aload_n 0, 1) := by decide +kernel
theorem dL_isTold_68 : decode cL_isTold 68 = .ok (.invokestatic 97, 3) := by decide +kernel
theorem dL_isTold_71 : decode cL_isTold 71 = .ok (.bipush (-71), 2) := by decide +kernel
theorem dL_isTold_73 : decode cL_isTold 73 = .ok (.if_icmp .ne 45, 3) := by decide +kernel
theorem dL_isTold_76 : decode cL_isTold 76 = .ok (.aload_n 0, 1) := by decide +kernel
theorem dL_isTold_77 : decode cL_isTold 77 = .ok (.bipush 9, 2) := by decide +kernel
theorem dL_isTold_79 : decode cL_isTold 79 = .ok (.iconst 0, 1) := by decide +kernel
theorem dL_isTold_80 : decode cL_isTold 80 = .ok (.iconst 0, 1) := by decide +kernel
theorem dL_isTold_81 : decode cL_isTold 81 = .ok (.iconst 0, 1) := by decide +kernel
theorem dL_isTold_82 : decode cL_isTold 82 = .ok (.invokestatic 129, 3) := by decide +kernel
theorem dL_isTold_85 : decode cL_isTold 85 = .ok (.bipush (-71), 2) := by decide +kernel
theorem dL_isTold_87 : decode cL_isTold 87 = .ok (.if_icmp .ne 31, 3) := by decide +kernel
theorem dL_isTold_90 : decode cL_isTold 90 = .ok (.aload_n 0, 1) := by decide +kernel
theorem dL_isTold_91 : decode cL_isTold 91 = .ok (.bipush 9, 2) := by decide +kernel
theorem dL_isTold_93 : decode cL_isTold 93 = .ok (.iconst 0, 1) := by decide +kernel
theorem dL_isTold_94 : decode cL_isTold 94 = .ok (.iconst 0, 1) := by decide +kernel
theorem dL_isTold_95 : decode cL_isTold 95 = .ok (.invokestatic 109, 3) := by decide +kernel
theorem dL_isTold_98 : decode cL_isTold 98 = .ok (.bipush (-71), 2) := by decide +kernel
theorem dL_isTold_100 : decode cL_isTold 100 = .ok (.if_icmp .ne 18, 3) := by decide +kernel
theorem dL_isTold_103 : decode cL_isTold 103 = .ok (.aload_n 0, 1) := by decide +kernel
theorem dL_isTold_104 : decode cL_isTold 104 = .ok (.iconst 1, 1) := by decide +kernel
theorem dL_isTold_105 : decode cL_isTold 105 = .ok (.iconst 0, 1) := by decide +kernel
theorem dL_isTold_106 : decode cL_isTold 106 = .ok (.invokestatic 104, 3) := by decide +kernel
theorem dL_isTold_109 : decode cL_isTold 109 = .ok (.bipush (-71), 2) := by decide +kernel
theorem dL_isTold_111 : decode cL_isTold 111 = .ok (.if_icmp .ne 7, 3) := by decide +kernel
theorem dL_isTold_114 : decode cL_isTold 114 = .ok (.iconst 1, 1) := by decide +kernel
theorem dL_isTold_115 : decode cL_isTold 115 = .ok (.goto 4, 3) := by decide +kernel
theorem dL_isTold_118 : decode cL_isTold 118 = .ok (.iconst 0, 1) := by decide +kernel
theorem dL_isTold_119 : decode cL_isTold 119 = .ok (.ireturn, 1) := by decide +kernel
theorem dL_isTold_120 : decode cL_isTold 120 = .ok (.iconst 0, 1) := by decide +kernel
theorem dL_isTold_121 : decode cL_isTold 121 = .ok (.istore 6, 2) := by decide +kernel
theorem dL_isTold_123 : decode cL_isTold 123 = .ok (.iload 6, 2) := by decide +kernel
theorem dL_isTold_125 : decode cL_isTold 125 = .ok (.aload_n 2, 1) := by decide +kernel
theorem dL_isTold_126 : decode cL_isTold 126 = .ok (.iconst 1, 1) := by decide +kernel
theorem dL_isTold_127 : decode cL_isTold 127 = .ok (.iaload, 1) := by decide +kernel
theorem dL_isTold_128 : decode cL_isTold 128 = .ok (.if_icmp .ge 60, 3) := by decide +kernel
theorem dL_isTold_131 : decode cL_isTold 131 = .ok (.iconst 0, 1) := by decide +kernel
theorem dL_isTold_132 : decode cL_isTold 132 = .ok (.istore 7, 2) := by decide +kernel
theorem dL_isTold_134 : decode cL_isTold 134 = .ok (.iconst 0, 1) := by decide +kernel
theorem dL_isTold_135 : decode cL_isTold 135 = .ok (.istore 8, 2) := by decide +kernel
theorem dL_isTold_137 : decode cL_isTold 137 = .ok (.iload 8, 2) := by decide +kernel
theorem dL_isTold_139 : decode cL_isTold 139 = .ok (.bipush 8, 2) := by decide +kernel
theorem dL_isTold_141 : decode cL_isTold 141 = .ok (.if_icmp .ge 28, 3) := by decide +kernel
theorem dL_isTold_144 : decode cL_isTold 144 = .ok (.iload 7, 2) := by decide +kernel
theorem dL_isTold_146 : decode cL_isTold 146 = .ok (.aload_n 3, 1) := by decide +kernel
theorem dL_isTold_147 : decode cL_isTold 147 = .ok (.iload 8, 2) := by decide +kernel
theorem dL_isTold_149 : decode cL_isTold 149 = .ok (.iaload, 1) := by decide +kernel
theorem dL_isTold_150 : decode cL_isTold 150 = .ok (.iload 6, 2) := by decide +kernel
theorem dL_isTold_152 : decode cL_isTold 152 = .ok (.if_icmp .ne 7, 3) := by decide +kernel
theorem dL_isTold_155 : decode cL_isTold 155 = .ok (.iconst 1, 1) := by decide +kernel
theorem dL_isTold_156 : decode cL_isTold 156 = .ok (.goto 4, 3) := by decide +kernel
theorem dL_isTold_159 : decode cL_isTold 159 = .ok (.iconst 0, 1) := by decide +kernel
theorem dL_isTold_160 : decode cL_isTold 160 = .ok (.iadd, 1) := by decide +kernel
theorem dL_isTold_161 : decode cL_isTold 161 = .ok (.istore 7, 2) := by decide +kernel
theorem dL_isTold_163 : decode cL_isTold 163 = .ok (.iinc 8 1, 3) := by decide +kernel
theorem dL_isTold_166 : decode cL_isTold 166 = .ok (.goto (-29), 3) := by decide +kernel
theorem dL_isTold_169 : decode cL_isTold 169 = .ok (.aload_n 0, 1) := by decide +kernel
theorem dL_isTold_170 : decode cL_isTold 170 = .ok (.iload 6, 2) := by decide +kernel
theorem dL_isTold_172 : decode cL_isTold 172 = .ok (.invokevirtual 134, 3) := by decide +kernel
theorem dL_isTold_175 : decode cL_isTold 175 = .ok (.iload 7, 2) := by decide +kernel
theorem dL_isTold_177 : decode cL_isTold 177 = .ok (.if_icmp .eq 5, 3) := by decide +kernel
theorem dL_isTold_180 : decode cL_isTold 180 = .ok (.iconst 0, 1) := by decide +kernel
theorem dL_isTold_181 : decode cL_isTold 181 = .ok (.ireturn, 1) := by decide +kernel
theorem dL_isTold_182 : decode cL_isTold 182 = .ok (.iinc 6 1, 3) := by decide +kernel
theorem dL_isTold_185 : decode cL_isTold 185 = .ok (.goto (-62), 3) := by decide +kernel
theorem dL_isTold_188 : decode cL_isTold 188 = .ok (.aload_n 0, 1) := by decide +kernel
theorem dL_isTold_189 : decode cL_isTold 189 = .ok (.invokevirtual 131, 3) := by decide +kernel
theorem dL_isTold_192 : decode cL_isTold 192 = .ok (.aload_n 2, 1) := by decide +kernel
theorem dL_isTold_193 : decode cL_isTold 193 = .ok (.iconst 0, 1) := by decide +kernel
theorem dL_isTold_194 : decode cL_isTold 194 = .ok (.iaload, 1) := by decide +kernel
theorem dL_isTold_195 : decode cL_isTold 195 = .ok (.if_icmp .ne 58, 3) := by decide +kernel
theorem dL_isTold_198 : decode cL_isTold 198 = .ok (.aload_n 0, 1) := by decide +kernel
theorem dL_isTold_199 : decode cL_isTold 199 = .ok (.invokevirtual 137, 3) := by decide +kernel
theorem dL_isTold_202 : decode cL_isTold 202 = .ok (.aload_n 2, 1) := by decide +kernel
theorem dL_isTold_203 : decode cL_isTold 203 = .ok (.bipush 6, 2) := by decide +kernel
theorem dL_isTold_205 : decode cL_isTold 205 = .ok (.iaload, 1) := by decide +kernel
theorem dL_isTold_206 : decode cL_isTold 206 = .ok (.if_icmp .ne 47, 3) := by decide +kernel
theorem dL_isTold_209 : decode cL_isTold 209 = .ok (.aload_n 0, 1) := by decide +kernel
theorem dL_isTold_210 : decode cL_isTold 210 = .ok (.invokevirtual 140, 3) := by decide +kernel
theorem dL_isTold_213 : decode cL_isTold 213 = .ok (.aload_n 2, 1) := by decide +kernel
theorem dL_isTold_214 : decode cL_isTold 214 = .ok (.iconst 5, 1) := by decide +kernel
theorem dL_isTold_215 : decode cL_isTold 215 = .ok (.iaload, 1) := by decide +kernel
theorem dL_isTold_216 : decode cL_isTold 216 = .ok (.if_icmp .ne 37, 3) := by decide +kernel
theorem dL_isTold_219 : decode cL_isTold 219 = .ok (.aload_n 0, 1) := by decide +kernel
theorem dL_isTold_220 : decode cL_isTold 220 = .ok (.invokevirtual 143, 3) := by decide +kernel
theorem dL_isTold_223 : decode cL_isTold 223 = .ok (.aload_n 2, 1) := by decide +kernel
theorem dL_isTold_224 : decode cL_isTold 224 = .ok (.bipush 7, 2) := by decide +kernel
theorem dL_isTold_226 : decode cL_isTold 226 = .ok (.iaload, 1) := by decide +kernel
theorem dL_isTold_227 : decode cL_isTold 227 = .ok (.if_icmp .ne 26, 3) := by decide +kernel
theorem dL_isTold_230 : decode cL_isTold 230 = .ok (.aload_n 0, 1) := by decide +kernel
theorem dL_isTold_231 : decode cL_isTold 231 = .ok (.aload_n 2, 1) := by decide +kernel
theorem dL_isTold_232 : decode cL_isTold 232 = .ok (.iconst 1, 1) := by decide +kernel
theorem dL_isTold_233 : decode cL_isTold 233 = .ok (.iaload, 1) := by decide +kernel
theorem dL_isTold_234 : decode cL_isTold 234 = .ok (.invokestatic 114, 3) := by decide +kernel
theorem dL_isTold_237 : decode cL_isTold 237 = .ok (.bipush (-72), 2) := by decide +kernel
theorem dL_isTold_239 : decode cL_isTold 239 = .ok (.if_icmp .ne 14, 3) := by decide +kernel
theorem dL_isTold_242 : decode cL_isTold 242 = .ok (.aload_n 0, 1) := by decide +kernel
theorem dL_isTold_243 : decode cL_isTold 243 = .ok (.bipush (-2), 2) := by decide +kernel
theorem dL_isTold_245 : decode cL_isTold 245 = .ok (.invokestatic 114, 3) := by decide +kernel
theorem dL_isTold_248 : decode cL_isTold 248 = .ok (.bipush (-72), 2) := by decide +kernel
theorem dL_isTold_250 : decode cL_isTold 250 = .ok (.if_icmp .eq 5, 3) := by decide +kernel
theorem dL_isTold_253 : decode cL_isTold 253 = .ok (.iconst 0, 1) := by decide +kernel
theorem dL_isTold_254 : decode cL_isTold 254 = .ok (.ireturn, 1) := by decide +kernel
theorem dL_isTold_255 : decode cL_isTold 255 = .ok (.aload_n 0, 1) := by decide +kernel
theorem dL_isTold_256 : decode cL_isTold 256 = .ok (.iload_n 1, 1) := by decide +kernel
theorem dL_isTold_257 : decode cL_isTold 257 = .ok (.aload_n 2, 1) := by decide +kernel
theorem dL_isTold_258 : decode cL_isTold 258 = .ok (.aload 4, 2) := by decide +kernel
theorem dL_isTold_260 : decode cL_isTold 260 = .ok (.aload 5, 2) := by decide +kernel
theorem dL_isTold_262 : decode cL_isTold 262 = .ok (.iconst (-1), 1) := by decide +kernel
theorem dL_isTold_263 : decode cL_isTold 263 = .ok (.invokestatic 146, 3) := by decide +kernel
theorem dL_isTold_266 : decode cL_isTold 266 = .ok (.ifCond .eq 50, 3) := by decide +kernel
theorem dL_isTold_269 : decode cL_isTold 269 = .ok (.aload_n 0, 1) := by decide +kernel
theorem dL_isTold_270 : decode cL_isTold 270 = .ok (.iload_n 1, 1) := by decide +kernel
theorem dL_isTold_271 : decode cL_isTold 271 = .ok (.iconst 3, 1) := by decide +kernel
theorem dL_isTold_272 : decode cL_isTold 272 = .ok (.ishr, 1) := by decide +kernel
theorem dL_isTold_273 : decode cL_isTold 273 = .ok (.aload_n 2, 1) := by decide +kernel
theorem dL_isTold_274 : decode cL_isTold 274 = .ok (.aload 4, 2) := by decide +kernel
theorem dL_isTold_276 : decode cL_isTold 276 = .ok (.aload 5, 2) := by decide +kernel
theorem dL_isTold_278 : decode cL_isTold 278 = .ok (.aload_n 2, 1) := by decide +kernel
theorem dL_isTold_279 : decode cL_isTold 279 = .ok (.iconst 3, 1) := by decide +kernel
theorem dL_isTold_280 : decode cL_isTold 280 = .ok (.iaload, 1) := by decide +kernel
theorem dL_isTold_281 : decode cL_isTold 281 = .ok (.invokestatic 146, 3) := by decide +kernel
theorem dL_isTold_284 : decode cL_isTold 284 = .ok (.ifCond .eq 32, 3) := by decide +kernel
theorem dL_isTold_287 : decode cL_isTold 287 = .ok (.aload_n 0, 1) := by decide +kernel
theorem dL_isTold_288 : decode cL_isTold 288 = .ok (.iload_n 1, 1) := by decide +kernel
theorem dL_isTold_289 : decode cL_isTold 289 = .ok (.iconst 5, 1) := by decide +kernel
theorem dL_isTold_290 : decode cL_isTold 290 = .ok (.ishr, 1) := by decide +kernel
theorem dL_isTold_291 : decode cL_isTold 291 = .ok (.aload_n 2, 1) := by decide +kernel
theorem dL_isTold_292 : decode cL_isTold 292 = .ok (.aload 4, 2) := by decide +kernel
theorem dL_isTold_294 : decode cL_isTold 294 = .ok (.aload 5, 2) := by decide +kernel
theorem dL_isTold_296 : decode cL_isTold 296 = .ok (.iload_n 1, 1) := by decide +kernel
theorem dL_isTold_297 : decode cL_isTold 297 = .ok (.bipush 7, 2) := by decide +kernel
theorem dL_isTold_299 : decode cL_isTold 299 = .ok (.ishr, 1) := by decide +kernel
theorem dL_isTold_300 : decode cL_isTold 300 = .ok (.aload_n 2, 1) := by decide +kernel
theorem dL_isTold_301 : decode cL_isTold 301 = .ok (.iconst 1, 1) := by decide +kernel
theorem dL_isTold_302 : decode cL_isTold 302 = .ok (.iaload, 1) := by decide +kernel
theorem dL_isTold_303 : decode cL_isTold 303 = .ok (.invokestatic 79, 3) := by decide +kernel
theorem dL_isTold_306 : decode cL_isTold 306 = .ok (.invokestatic 146, 3) := by decide +kernel
theorem dL_isTold_309 : decode cL_isTold 309 = .ok (.ifCond .eq 7, 3) := by decide +kernel
theorem dL_isTold_312 : decode cL_isTold 312 = .ok (.iconst 1, 1) := by decide +kernel
theorem dL_isTold_313 : decode cL_isTold 313 = .ok (.goto 4, 3) := by decide +kernel
theorem dL_isTold_316 : decode cL_isTold 316 = .ok (.iconst 0, 1) := by decide +kernel
theorem dL_isTold_317 : decode cL_isTold 317 = .ok (.ireturn, 1) := by decide +kernel
set_option maxRecDepth 20000 in
theorem ggL_law_X1_init : GoodIn wsL_law wsX1_init := goodIn_r _ [6, 7, 8, 9, 10, 11, 12, 13, 3, 14, 15, 16, 17, 18, 19, 20, 21, 22, 23, 364, 365, 350, 351, 352, 353, 354, 355, 356, 357, 358, 359, 360, 361, 362, 363] (by decide +kernel) (by decide +kernel)
set_option maxRecDepth 20000 in
theorem gL_law_X1_init : GoodIn wsL_law (wsX1_init) := ggL_law_X1_init
set_option maxRecDepth 20000 in
theorem ggL_law_L_cell : GoodIn wsL_law wsL_cell := goodIn_r _ [311, 312] (by decide +kernel) (by decide +kernel)
set_option maxRecDepth 20000 in
theorem gL_law_L_cell : GoodIn wsL_law (va_wsS RL 155 yL_cell wsL_cell) := goodIn_app (goodIn_of _ (by decide +kernel)) ggL_law_L_cell
set_option maxRecDepth 20000 in
theorem ggL_law_L_low : GoodIn wsL_law wsL_low := goodIn_r _ [281] (by decide +kernel) (by decide +kernel)
set_option maxRecDepth 20000 in
theorem gL_law_L_low : GoodIn wsL_law (va_wsS RL 79 yL_low wsL_low) := goodIn_app (goodIn_of _ (by decide +kernel)) ggL_law_L_low
theorem dL_law_0 : decode cL_law 0 = .ok (.new 9, 3) := by decide +kernel
theorem dL_law_3 : decode cL_law 3 = .ok (.dup, 1) := by decide +kernel
theorem dL_law_4 : decode cL_law 4 = .ok (.invokespecial 150, 3) := by decide +kernel
theorem dL_law_7 : decode cL_law 7 = .ok (.astore_n 1, 1) := by decide +kernel
theorem dL_law_8 : decode cL_law 8 = .ok (.bipush 13, 2) := by decide +kernel
theorem dL_law_10 : decode cL_law 10 = .ok (.newarray .int, 2) := by decide +kernel
theorem dL_law_12 : decode cL_law 12 = .ok (.astore_n 2, 1) := by decide +kernel
theorem dL_law_13 : decode cL_law 13 = .ok (.bipush 8, 2) := by decide +kernel
theorem dL_law_15 : decode cL_law 15 = .ok (.newarray .int, 2) := by decide +kernel
theorem dL_law_17 : decode cL_law 17 = .ok (.astore_n 3, 1) := by decide +kernel
theorem dL_law_18 : decode cL_law 18 = .ok (.bipush 60, 2) := by decide +kernel
theorem dL_law_20 : decode cL_law 20 = .ok (.newarray .int, 2) := by decide +kernel
theorem dL_law_22 : decode cL_law 22 = .ok (.astore 4, 2) := by decide +kernel
theorem dL_law_24 : decode cL_law 24 = .ok (.bipush 40, 2) := by decide +kernel
theorem dL_law_26 : decode cL_law 26 = .ok (.newarray .int, 2) := by decide +kernel
theorem dL_law_28 : decode cL_law 28 = .ok (.astore 5, 2) := by decide +kernel
theorem dL_law_30 : decode cL_law 30 = .ok (.aload_n 1, 1) := by decide +kernel
theorem dL_law_31 : decode cL_law 31 = .ok (.iconst 0, 1) := by decide +kernel
theorem dL_law_32 : decode cL_law 32 = .ok (.aload_n 2, 1) := by decide +kernel
theorem dL_law_33 : decode cL_law 33 = .ok (.aload_n 3, 1) := by decide +kernel
theorem dL_law_34 : decode cL_law 34 = .ok (.aload 4, 2) := by decide +kernel
theorem dL_law_36 : decode cL_law 36 = .ok (.aload 5, 2) := by decide +kernel
theorem dL_law_38 : decode cL_law 38 = .ok (.invokestatic 151, 3) := by decide +kernel
theorem dL_law_41 : decode cL_law 41 = .ok (.ifCond .ne 5, 3) := by decide +kernel
theorem dL_law_44 : decode cL_law 44 = .ok (.iconst 0, 1) := by decide +kernel
theorem dL_law_45 : decode cL_law 45 = .ok (.ireturn, 1) := by decide +kernel
theorem dL_law_46 : decode cL_law 46 = .ok (.iconst 0, 1) := by decide +kernel
theorem dL_law_47 : decode cL_law 47 = .ok (.istore 6, 2) := by decide +kernel
theorem dL_law_49 : decode cL_law 49 = .ok (.iload 6, 2) := by decide +kernel
theorem dL_law_51 : decode cL_law 51 = .ok (.bipush 34, 2) := by decide +kernel
theorem dL_law_53 : decode cL_law 53 = .ok (.if_icmp .ge 222, 3) := by decide +kernel
theorem dL_law_56 : decode cL_law 56 = .ok (.aload_n 0, 1) := by decide +kernel
theorem dL_law_57 : decode cL_law 57 = .ok (.iconst 2, 1) := by decide +kernel
theorem dL_law_58 : decode cL_law 58 = .ok (.iload 6, 2) := by decide +kernel
theorem dL_law_60 : decode cL_law 60 = .ok (.imul, 1) := by decide +kernel
theorem dL_law_61 : decode cL_law 61 = .ok (.invokestatic 155, 3) := by decide +kernel
theorem dL_law_64 : decode cL_law 64 = .ok (.istore 7, 2) := by decide +kernel
theorem dL_law_66 : decode cL_law 66 = .ok (.aload_n 0, 1) := by decide +kernel
theorem dL_law_67 : decode cL_law 67 = .ok (.iconst 2, 1) := by decide +kernel
theorem dL_law_68 : decode cL_law 68 = .ok (.iload 6, 2) := by decide +kernel
theorem dL_law_70 : decode cL_law 70 = .ok (.imul, 1) := by decide +kernel
theorem dL_law_71 : decode cL_law 71 = .ok (.iconst 1, 1) := by decide +kernel
theorem dL_law_72 : decode cL_law 72 = .ok (.iadd, 1) := by decide +kernel
theorem dL_law_73 : decode cL_law 73 = .ok (.invokestatic 155, 3) := by decide +kernel
theorem dL_law_76 : decode cL_law 76 = .ok (.istore 8, 2) := by decide +kernel
theorem dL_law_78 : decode cL_law 78 = .ok (.iload 6, 2) := by decide +kernel
theorem dL_law_80 : decode cL_law 80 = .ok (.ifCond .ne 8, 3) := by decide +kernel
theorem dL_law_83 : decode cL_law 83 = .ok (.bipush 19, 2) := by decide +kernel
theorem dL_law_85 : decode cL_law 85 = .ok (.goto 10, 3) := by decide +kernel
theorem dL_law_88 : decode cL_law 88 = .ok (.iload 7, 2) := by decide +kernel
theorem dL_law_90 : decode cL_law 90 = .ok (.bipush 20, 2) := by decide +kernel
theorem dL_law_92 : decode cL_law 92 = .ok (.invokestatic 79, 3) := by decide +kernel
theorem dL_law_95 : decode cL_law 95 = .ok (.istore 9, 2) := by decide +kernel
theorem dL_law_97 : decode cL_law 97 = .ok (.iload 9, 2) := by decide +kernel
theorem dL_law_99 : decode cL_law 99 = .ok (.bipush 18, 2) := by decide +kernel
theorem dL_law_101 : decode cL_law 101 = .ok (.if_icmp .gt 17, 3) := by decide +kernel
theorem dL_law_104 : decode cL_law 104 = .ok (.aload_n 2, 1) := by decide +kernel
theorem dL_law_105 : decode cL_law 105 = .ok (.iconst 0, 1) := by decide +kernel
theorem dL_law_106 : decode cL_law 106 = .ok (.iaload, 1) := by decide +kernel
theorem dL_law_107 : decode cL_law 107 = .ok (.iconst 2, 1) := by decide +kernel
theorem dL_law_108 : decode cL_law 108 = .ok (.if_icmp .le 27, 3) := by decide +kernel
theorem dL_law_111 : decode cL_law 111 = .ok (.iload 9, 2) := by decide +kernel
theorem dL_law_113 : decode cL_law 113 = .ok (.bipush 14, 2) := by decide +kernel
theorem dL_law_115 : decode cL_law 115 = .ok (.if_icmp .le 20, 3) := by decide +kernel
theorem dL_law_118 : decode cL_law 118 = .ok (.aload_n 1, 1) := by decide +kernel
theorem dL_law_119 : decode cL_law 119 = .ok (.iload 8, 2) := by decide +kernel
theorem dL_law_121 : decode cL_law 121 = .ok (.aload_n 2, 1) := by decide +kernel
theorem dL_law_122 : decode cL_law 122 = .ok (.aload_n 3, 1) := by decide +kernel
theorem dL_law_123 : decode cL_law 123 = .ok (.aload 4, 2) := by decide +kernel
theorem dL_law_125 : decode cL_law 125 = .ok (.aload 5, 2) := by decide +kernel
theorem dL_law_127 : decode cL_law 127 = .ok (.invokestatic 159, 3) := by decide +kernel
theorem dL_law_130 : decode cL_law 130 = .ok (.istore 10, 2) := by decide +kernel
theorem dL_law_132 : decode cL_law 132 = .ok (.goto 110, 3) := by decide +kernel
theorem dL_law_135 : decode cL_law 135 = .ok (.iload 9, 2) := by decide +kernel
theorem dL_law_137 : decode cL_law 137 = .ok (.bipush 6, 2) := by decide +kernel
theorem dL_law_139 : decode cL_law 139 = .ok (.if_icmp .ge 19, 3) := by decide +kernel
theorem dL_law_142 : decode cL_law 142 = .ok (.aload_n 1, 1) := by decide +kernel
theorem dL_law_143 : decode cL_law 143 = .ok (.iload 8, 2) := by decide +kernel
theorem dL_law_145 : decode cL_law 145 = .ok (.aload_n 2, 1) := by decide +kernel
theorem dL_law_146 : decode cL_law 146 = .ok (.aload 4, 2) := by decide +kernel
theorem dL_law_148 : decode cL_law 148 = .ok (.aload 5, 2) := by decide +kernel
theorem dL_law_150 : decode cL_law 150 = .ok (.invokestatic 162, 3) := by decide +kernel
theorem dL_law_153 : decode cL_law 153 = .ok (.istore 10, 2) := by decide +kernel
theorem dL_law_155 : decode cL_law 155 = .ok (.goto 87, 3) := by decide +kernel
theorem dL_law_158 : decode cL_law 158 = .ok (.iload 9, 2) := by decide +kernel
theorem dL_law_160 : decode cL_law 160 = .ok (.bipush 11, 2) := by decide +kernel
theorem dL_law_162 : decode cL_law 162 = .ok (.if_icmp .ge 39, 3) := by decide +kernel
theorem dL_law_165 : decode cL_law 165 = .ok (.aload_n 1, 1) := by decide +kernel
theorem dL_law_166 : decode cL_law 166 = .ok (.iload 9, 2) := by decide +kernel
theorem dL_law_168 : decode cL_law 168 = .ok (.bipush 9, 2) := by decide +kernel
theorem dL_law_170 : decode cL_law 170 = .ok (.if_icmp .ge 14, 3) := by decide +kernel
theorem dL_law_173 : decode cL_law 173 = .ok (.aload_n 2, 1) := by decide +kernel
theorem dL_law_174 : decode cL_law 174 = .ok (.iconst 0, 1) := by decide +kernel
theorem dL_law_175 : decode cL_law 175 = .ok (.iaload, 1) := by decide +kernel
theorem dL_law_176 : decode cL_law 176 = .ok (.iconst 1, 1) := by decide +kernel
theorem dL_law_177 : decode cL_law 177 = .ok (.if_icmp .ne 7, 3) := by decide +kernel
theorem dL_law_180 : decode cL_law 180 = .ok (.iconst 0, 1) := by decide +kernel
theorem dL_law_181 : decode cL_law 181 = .ok (.goto 4, 3) := by decide +kernel
theorem dL_law_184 : decode cL_law 184 = .ok (.iconst 1, 1) := by decide +kernel
theorem dL_law_185 : decode cL_law 185 = .ok (.iload 8, 2) := by decide +kernel
theorem dL_law_187 : decode cL_law 187 = .ok (.aload_n 2, 1) := by decide +kernel
theorem dL_law_188 : decode cL_law 188 = .ok (.aload_n 3, 1) := by decide +kernel
theorem dL_law_189 : decode cL_law 189 = .ok (.aload 4, 2) := by decide +kernel
theorem dL_law_191 : decode cL_law 191 = .ok (.aload 5, 2) := by decide +kernel
theorem dL_law_193 : decode cL_law 193 = .ok (.invokestatic 166, 3) := by decide +kernel
theorem dL_law_196 : decode cL_law 196 = .ok (.istore 10, 2) := by decide +kernel
theorem dL_law_198 : decode cL_law 198 = .ok (.goto 44, 3) := by decide +kernel
theorem dL_law_201 : decode cL_law 201 = .ok (.aload_n 1, 1) := by decide +kernel
theorem dL_law_202 : decode cL_law 202 = .ok (.aload_n 2, 1) := by decide +kernel
theorem dL_law_203 : decode cL_law 203 = .ok (.iconst 0, 1) := by decide +kernel
theorem dL_law_204 : decode cL_law 204 = .ok (.iaload, 1) := by decide +kernel
theorem dL_law_205 : decode cL_law 205 = .ok (.iconst 2, 1) := by decide +kernel
theorem dL_law_206 : decode cL_law 206 = .ok (.if_icmp .ne 24, 3) := by decide +kernel
theorem dL_law_209 : decode cL_law 209 = .ok (.iload 9, 2) := by decide +kernel
theorem dL_law_211 : decode cL_law 211 = .ok (.bipush 17, 2) := by decide +kernel
theorem dL_law_213 : decode cL_law 213 = .ok (.if_icmp .ge 13, 3) := by decide +kernel
theorem dL_law_216 : decode cL_law 216 = .ok (.iload 9, 2) := by decide +kernel
theorem dL_law_218 : decode cL_law 218 = .ok (.bipush 11, 2) := by decide +kernel
theorem dL_law_220 : decode cL_law 220 = .ok (.isub, 1) := by decide +kernel
theorem dL_law_221 : decode cL_law 221 = .ok (.iconst 2, 1) := by decide +kernel
theorem dL_law_222 : decode cL_law 222 = .ok (.idiv, 1) := by decide +kernel
theorem dL_law_223 : decode cL_law 223 = .ok (.goto 11, 3) := by decide +kernel
theorem dL_law_226 : decode cL_law 226 = .ok (.iconst 3, 1) := by decide +kernel
theorem dL_law_227 : decode cL_law 227 = .ok (.goto 7, 3) := by decide +kernel
theorem dL_law_230 : decode cL_law 230 = .ok (.iload 9, 2) := by decide +kernel
theorem dL_law_232 : decode cL_law 232 = .ok (.iconst 3, 1) := by decide +kernel
theorem dL_law_233 : decode cL_law 233 = .ok (.iand, 1) := by decide +kernel
theorem dL_law_234 : decode cL_law 234 = .ok (.iload 8, 2) := by decide +kernel
theorem dL_law_236 : decode cL_law 236 = .ok (.aload_n 2, 1) := by decide +kernel
theorem dL_law_237 : decode cL_law 237 = .ok (.invokestatic 170, 3) := by decide +kernel
theorem dL_law_240 : decode cL_law 240 = .ok (.istore 10, 2) := by decide +kernel
theorem dL_law_242 : decode cL_law 242 = .ok (.iload 10, 2) := by decide +kernel
theorem dL_law_244 : decode cL_law 244 = .ok (.ifCond .eq 23, 3) := by decide +kernel
theorem dL_law_247 : decode cL_law 247 = .ok (.aload_n 1, 1) := by decide +kernel
theorem dL_law_248 : decode cL_law 248 = .ok (.iload 7, 2) := by decide +kernel
theorem dL_law_250 : decode cL_law 250 = .ok (.iconst 5, 1) := by decide +kernel
theorem dL_law_251 : decode cL_law 251 = .ok (.ishr, 1) := by decide +kernel
theorem dL_law_252 : decode cL_law 252 = .ok (.iload 8, 2) := by decide +kernel
theorem dL_law_254 : decode cL_law 254 = .ok (.ixor, 1) := by decide +kernel
theorem dL_law_255 : decode cL_law 255 = .ok (.aload_n 2, 1) := by decide +kernel
theorem dL_law_256 : decode cL_law 256 = .ok (.aload_n 3, 1) := by decide +kernel
theorem dL_law_257 : decode cL_law 257 = .ok (.aload 4, 2) := by decide +kernel
theorem dL_law_259 : decode cL_law 259 = .ok (.aload 5, 2) := by decide +kernel
theorem dL_law_261 : decode cL_law 261 = .ok (.invokestatic 151, 3) := by decide +kernel
theorem dL_law_264 : decode cL_law 264 = .ok (.ifCond .ne 5, 3) := by decide +kernel
theorem dL_law_267 : decode cL_law 267 = .ok (.iconst 0, 1) := by decide +kernel
theorem dL_law_268 : decode cL_law 268 = .ok (.ireturn, 1) := by decide +kernel
theorem dL_law_269 : decode cL_law 269 = .ok (.iinc 6 1, 3) := by decide +kernel
theorem dL_law_272 : decode cL_law 272 = .ok (.goto (-223), 3) := by decide +kernel
theorem dL_law_275 : decode cL_law 275 = .ok (.iconst 1, 1) := by decide +kernel
theorem dL_law_276 : decode cL_law 276 = .ok (.ireturn, 1) := by decide +kernel
