set_option maxRecDepth 20000 in
theorem ggL_isBook_L_book : GoodIn wsL_isBook wsL_book := goodIn_r _ [4, 5, 6, 3, 7, 8, 9, 10, 11, 12, 13, 14, 15, 16, 17, 18, 19] (by decide +kernel) (by decide +kernel)
set_option maxRecDepth 20000 in
theorem gL_isBook_L_book : GoodIn wsL_isBook (va_wsS RL 82 yL_book wsL_book) := goodIn_app (goodIn_of _ (by decide +kernel)) ggL_isBook_L_book
set_option maxRecDepth 20000 in
theorem ggL_isBook_L_worldsWith : GoodIn wsL_isBook wsL_worldsWith := goodIn_ca (goodIn_ca (goodIn_ca (goodIn_r _ [22, 23, 24, 25, 26, 27, 28, 29, 30, 31, 32, 33, 34, 35, 36, 37, 38, 39, 40, 41, 42, 43, 44, 45, 46, 47, 48, 49, 50, 51, 52, 53, 54, 55, 56, 57, 58, 59, 60, 61, 62, 63, 64, 65, 66, 67, 68, 69, 70, 71, 72, 73, 74, 75, 76, 77, 78, 79, 80, 81, 82, 83, 84, 150, 151, 152, 153, 154, 155, 156, 157, 158, 159, 160, 161, 162, 163, 164, 165] (by decide +kernel) (by decide +kernel)) (goodIn_sub (fun _ h => List.mem_cons_of_mem _ (List.mem_append_left _ (List.mem_append_left _ (List.mem_append_right _ h)))) (by decide +kernel))) (goodIn_sub (fun _ h => List.mem_cons_of_mem _ (List.mem_append_left _ (List.mem_append_right _ h))) (by decide +kernel))) (goodIn_sub (fun _ h => List.mem_cons_of_mem _ (List.mem_append_right _ h)) (by decide +kernel))
set_option maxRecDepth 20000 in
theorem gL_isBook_L_worldsWith : GoodIn wsL_isBook (va_wsS RL 109 yL_worldsWith wsL_worldsWith) := goodIn_app (goodIn_of _ (by decide +kernel)) ggL_isBook_L_worldsWith
set_option maxRecDepth 20000 in
theorem ggL_isBook_L_has : GoodIn wsL_isBook wsL_has := goodIn_r _ [13] (by decide +kernel) (by decide +kernel)
set_option maxRecDepth 20000 in
theorem gL_isBook_L_has : GoodIn wsL_isBook (va_wsS RL 60 yL_has wsL_has) := goodIn_app (goodIn_of _ (by decide +kernel)) ggL_isBook_L_has
set_option maxRecDepth 20000 in
theorem ggL_isBook_X1_bestLook : GoodIn wsL_isBook wsX1_bestLook := goodIn_ca (goodIn_r _ [88, 57, 33, 51, 89, 90, 91, 92, 34, 35, 36, 29, 37, 38, 39, 40, 52, 53, 54, 55, 56, 58, 59, 60, 61, 62, 63, 64, 65, 66, 67, 68, 69, 70, 71, 72, 93, 74, 94, 95, 77, 80, 81, 82, 83, 84, 96, 97, 98, 99, 73, 75, 76, 78, 79, 150, 151, 152, 153, 154, 155, 156, 157, 158, 159, 160, 161, 162, 163, 164, 165] (by decide +kernel) (by decide +kernel)) (goodIn_sub (fun _ h => List.mem_cons_of_mem _ (List.mem_append_left _ (List.mem_append_right _ h))) (by decide +kernel))
set_option maxRecDepth 20000 in
theorem gL_isBook_X1_bestLook : GoodIn wsL_isBook (wsV RL 111 RX1 yX1_bestLook wsX1_bestLook) := goodIn_app (goodIn_of _ (by decide +kernel)) ggL_isBook_X1_bestLook
set_option maxRecDepth 20000 in
theorem ggL_isBook_L_low : GoodIn wsL_isBook wsL_low := goodIn_r _ [102] (by decide +kernel) (by decide +kernel)
set_option maxRecDepth 20000 in
theorem gL_isBook_L_low : GoodIn wsL_isBook (va_wsS RL 79 yL_low wsL_low) := goodIn_app (goodIn_of _ (by decide +kernel)) ggL_isBook_L_low
set_option maxRecDepth 20000 in
theorem ggL_isBook_L_worlds : GoodIn wsL_isBook wsL_worlds := goodIn_ca (goodIn_ca (goodIn_r _ [105, 23, 24, 106, 107, 108, 29, 109, 33, 34, 35, 36, 37, 38, 39, 40, 41, 42, 43, 44, 45, 46, 47, 48, 49, 50, 51, 52, 53, 54, 55, 56, 57, 58, 59, 60, 61, 62, 63, 64, 65, 66, 67, 68, 69, 70, 71, 72, 93, 74, 94, 95, 77, 80, 81, 82, 83, 84, 150, 151, 152, 153, 154, 155, 156, 157, 158, 159, 160, 161, 162, 163, 164, 165] (by decide +kernel) (by decide +kernel)) (goodIn_sub (fun _ h => List.mem_cons_of_mem _ (List.mem_append_left _ (List.mem_append_right _ h))) (by decide +kernel))) (goodIn_sub (fun _ h => List.mem_cons_of_mem _ (List.mem_append_right _ h)) (by decide +kernel))
set_option maxRecDepth 20000 in
theorem gL_isBook_L_worlds : GoodIn wsL_isBook (va_wsS RL 114 yL_worlds wsL_worlds) := goodIn_app (goodIn_of _ (by decide +kernel)) ggL_isBook_L_worlds
set_option maxRecDepth 20000 in
theorem ggL_isBook_X1_sureWitches : GoodIn wsL_isBook wsX1_sureWitches := goodIn_ca (goodIn_ca (goodIn_r _ [113, 33, 34, 35, 36, 29, 37, 38, 39, 40, 41, 42, 43, 44, 45, 46, 47, 48, 49, 50, 51, 52, 53, 54, 55, 56, 57, 58, 59, 60, 61, 62, 63, 64, 65, 66, 67, 68, 69, 70, 71, 72, 114, 74, 115, 116, 77, 80, 81, 82, 83, 84, 117, 118, 150, 151, 152, 153, 154, 155, 156, 157, 158, 159, 160, 161, 162, 163, 164, 165] (by decide +kernel) (by decide +kernel)) (goodIn_sub (fun _ h => List.mem_cons_of_mem _ (List.mem_append_left _ (List.mem_append_right _ h))) (by decide +kernel))) (goodIn_sub (fun _ h => List.mem_cons_of_mem _ (List.mem_append_right _ h)) (by decide +kernel))
set_option maxRecDepth 20000 in
theorem gL_isBook_X1_sureWitches : GoodIn wsL_isBook (wsV RL 117 RX1 yX1_sureWitches wsX1_sureWitches) := goodIn_app (goodIn_of _ (by decide +kernel)) ggL_isBook_X1_sureWitches
set_option maxRecDepth 20000 in
theorem ggL_isBook_X1_sureHonest : GoodIn wsL_isBook wsX1_sureHonest := goodIn_ca (goodIn_ca (goodIn_r _ [122, 51, 33, 34, 35, 36, 29, 37, 38, 39, 40, 41, 42, 43, 44, 45, 46, 47, 48, 49, 50, 59, 60, 61, 52, 53, 54, 55, 56, 57, 58, 62, 63, 64, 65, 66, 67, 68, 69, 70, 71, 72, 123, 74, 124, 125, 77, 80, 81, 82, 83, 84, 117, 118, 150, 151, 152, 153, 154, 155, 156, 157, 158, 159, 160, 161, 162, 163, 164, 165] (by decide +kernel) (by decide +kernel)) (goodIn_sub (fun _ h => List.mem_cons_of_mem _ (List.mem_append_left _ (List.mem_append_right _ h))) (by decide +kernel))) (goodIn_sub (fun _ h => List.mem_cons_of_mem _ (List.mem_append_right _ h)) (by decide +kernel))
set_option maxRecDepth 20000 in
theorem gL_isBook_X1_sureHonest : GoodIn wsL_isBook (wsV RL 120 RX1 yX1_sureHonest wsX1_sureHonest) := goodIn_app (goodIn_of _ (by decide +kernel)) ggL_isBook_X1_sureHonest
set_option maxRecDepth 20000 in
theorem ggL_isBook_X1_witchSets : GoodIn wsL_isBook wsX1_witchSets := goodIn_ca (goodIn_ca (goodIn_r _ [129, 33, 34, 35, 36, 29, 37, 38, 39, 40, 41, 42, 43, 44, 45, 46, 47, 48, 49, 50, 51, 52, 53, 54, 55, 56, 57, 58, 59, 60, 61, 62, 63, 64, 65, 66, 67, 68, 69, 70, 71, 72, 130, 74, 131, 132, 77, 80, 81, 82, 83, 84, 117, 118, 150, 151, 152, 153, 154, 155, 156, 157, 158, 159, 160, 161, 162, 163, 164, 165] (by decide +kernel) (by decide +kernel)) (goodIn_sub (fun _ h => List.mem_cons_of_mem _ (List.mem_append_left _ (List.mem_append_right _ h))) (by decide +kernel))) (goodIn_sub (fun _ h => List.mem_cons_of_mem _ (List.mem_append_right _ h)) (by decide +kernel))
set_option maxRecDepth 20000 in
theorem gL_isBook_X1_witchSets : GoodIn wsL_isBook (wsV RL 123 RX1 yX1_witchSets wsX1_witchSets) := goodIn_app (goodIn_of _ (by decide +kernel)) ggL_isBook_X1_witchSets
set_option maxRecDepth 20000 in
theorem ggL_isBook_X1_suspect : GoodIn wsL_isBook wsX1_suspect := goodIn_ca (goodIn_ca (goodIn_r _ [136, 51, 33, 34, 35, 36, 29, 37, 38, 39, 40, 41, 42, 43, 44, 45, 46, 47, 48, 49, 50, 52, 53, 54, 55, 56, 57, 58, 59, 60, 61, 62, 63, 64, 65, 66, 67, 68, 69, 70, 71, 72, 96, 97, 98, 99, 73, 74, 75, 76, 77, 78, 79, 80, 81, 82, 83, 84, 150, 151, 152, 153, 154, 155, 156, 157, 158, 159, 160, 161, 162, 163, 164, 165] (by decide +kernel) (by decide +kernel)) (goodIn_sub (fun _ h => List.mem_cons_of_mem _ (List.mem_append_left _ (List.mem_append_right _ h))) (by decide +kernel))) (goodIn_sub (fun _ h => List.mem_cons_of_mem _ (List.mem_append_right _ h)) (by decide +kernel))
set_option maxRecDepth 20000 in
theorem gL_isBook_X1_suspect : GoodIn wsL_isBook (wsV RL 126 RX1 yX1_suspect wsX1_suspect) := goodIn_app (goodIn_of _ (by decide +kernel)) ggL_isBook_X1_suspect
set_option maxRecDepth 20000 in
theorem ggL_isBook_L_isPossible : GoodIn wsL_isBook wsL_isPossible := goodIn_ca (goodIn_ca (goodIn_r _ [139, 23, 24, 140, 141, 142, 29, 143, 33, 34, 35, 36, 37, 38, 39, 40, 41, 42, 43, 44, 45, 46, 47, 48, 49, 50, 51, 144, 145, 146, 65, 66, 67, 52, 53, 54, 55, 56, 57, 58, 59, 60, 61, 62, 63, 64, 68, 69, 70, 71, 72, 147, 74, 148, 149, 77, 80, 81, 82, 83, 84, 150, 151, 152, 153, 154, 155, 156, 157, 158, 159, 160, 161, 162, 163, 164, 165] (by decide +kernel) (by decide +kernel)) (goodIn_sub (fun _ h => List.mem_cons_of_mem _ (List.mem_append_left _ (List.mem_append_right _ h))) (by decide +kernel))) (goodIn_sub (fun _ h => List.mem_cons_of_mem _ (List.mem_append_right _ h)) (by decide +kernel))
set_option maxRecDepth 20000 in
theorem gL_isBook_L_isPossible : GoodIn wsL_isBook (va_wsS RL 129 yL_isPossible wsL_isPossible) := goodIn_app (goodIn_of _ (by decide +kernel)) ggL_isBook_L_isPossible
set_option maxRecDepth 20000 in
theorem ggL_isBook_L_agrees : GoodIn wsL_isBook wsL_agrees := goodIn_r _ [7, 8, 9, 3, 10, 11, 12, 13, 14, 15, 16, 17, 18, 19] (by decide +kernel) (by decide +kernel)
set_option maxRecDepth 20000 in
theorem gL_isBook_L_agrees : GoodIn wsL_isBook (va_wsS RL 75 yL_agrees wsL_agrees) := goodIn_app (goodIn_of _ (by decide +kernel)) ggL_isBook_L_agrees
theorem dL_isBook_0 : decode cL_isBook 0 = .ok (.aload_n 2, 1) := by decide +kernel
theorem dL_isBook_1 : decode cL_isBook 1 = .ok (.aload_n 3, 1) := by decide +kernel
theorem dL_isBook_2 : decode cL_isBook 2 = .ok (.aload 4, 2) := by decide +kernel
theorem dL_isBook_4 : decode cL_isBook 4 = .ok (.iload 5, 2) := by decide +kernel
theorem dL_isBook_6 : decode cL_isBook 6 = .ok (.invokestatic 82, 3) := by decide +kernel
theorem dL_isBook_9 : decode cL_isBook 9 = .ok (.iconst 1, 1) := by decide +kernel
theorem dL_isBook_10 : decode cL_isBook 10 = .ok (.aload_n 2, 1) := by decide +kernel
theorem dL_isBook_11 : decode cL_isBook 11 = .ok (.iconst 1, 1) := by decide +kernel
theorem dL_isBook_12 : decode cL_isBook 12 = .ok (.iaload, 1) := by decide +kernel
theorem dL_isBook_13 : decode cL_isBook 13 = .ok (.ishl, 1) := by decide +kernel
theorem dL_isBook_14 : decode cL_isBook 14 = .ok (.iconst 1, 1) := by decide +kernel
theorem dL_isBook_15 : decode cL_isBook 15 = .ok (.isub, 1) := by decide +kernel
theorem dL_isBook_16 : decode cL_isBook 16 = .ok (.istore 6, 2) := by decide +kernel
theorem dL_isBook_18 : decode cL_isBook 18 = .ok (.iconst (-1), 1) := by decide +kernel
theorem dL_isBook_19 : decode cL_isBook 19 = .ok (.istore 7, 2) := by decide +kernel
theorem dL_isBook_21 : decode cL_isBook 21 = .ok (.iconst (-1), 1) := by decide +kernel
theorem dL_isBook_22 : decode cL_isBook 22 = .ok (.istore 8, 2) := by decide +kernel
theorem dL_isBook_24 : decode cL_isBook 24 = .ok (.iconst 0, 1) := by decide +kernel
theorem dL_isBook_25 : decode cL_isBook 25 = .ok (.istore 9, 2) := by decide +kernel
theorem dL_isBook_27 : decode cL_isBook 27 = .ok (.iload 9, 2) := by decide +kernel
theorem dL_isBook_29 : decode cL_isBook 29 = .ok (.aload_n 2, 1) := by decide +kernel
theorem dL_isBook_30 : decode cL_isBook 30 = .ok (.iconst 1, 1) := by decide +kernel
theorem dL_isBook_31 : decode cL_isBook 31 = .ok (.iaload, 1) := by decide +kernel
theorem dL_isBook_32 : decode cL_isBook 32 = .ok (.if_icmp .ge 218, 3) := by decide +kernel
theorem dL_isBook_35 : decode cL_isBook 35 = .ok (.iconst 0, 1) := by decide +kernel
theorem dL_isBook_36 : decode cL_isBook 36 = .ok (.istore 10, 2) := by decide +kernel
theorem dL_isBook_38 : decode cL_isBook 38 = .ok (.iload 10, 2) := by decide +kernel
theorem dL_isBook_40 : decode cL_isBook 40 = .ok (.iconst 4, 1) := by decide +kernel
theorem dL_isBook_41 : decode cL_isBook 41 = .ok (.if_icmp .ge 38, 3) := by decide +kernel
theorem dL_isBook_44 : decode cL_isBook 44 = .ok (.aload_n 0, 1) := by decide +kernel
theorem dL_isBook_45 : decode cL_isBook 45 = .ok (.iload 5, 2) := by decide +kernel
theorem dL_isBook_47 : decode cL_isBook 47 = .ok (.iload 9, 2) := by decide +kernel
theorem dL_isBook_49 : decode cL_isBook 49 = .ok (.iload 10, 2) := by decide +kernel
theorem dL_isBook_51 : decode cL_isBook 51 = .ok (.invokestatic 109, 3) := by decide +kernel
theorem dL_isBook_54 : decode cL_isBook 54 = .ok (.aload 4, 2) := by decide +kernel
theorem dL_isBook_56 : decode cL_isBook 56 = .ok (.bipush 8, 2) := by decide +kernel
theorem dL_isBook_58 : decode cL_isBook 58 = .ok (.bipush 8, 2) := by decide +kernel
theorem dL_isBook_60 : decode cL_isBook 60 = .ok (.iload 10, 2) := by decide +kernel
theorem dL_isBook_62 : decode cL_isBook 62 = .ok (.imul, 1) := by decide +kernel
theorem dL_isBook_63 : decode cL_isBook 63 = .ok (.iadd, 1) := by decide +kernel
theorem dL_isBook_64 : decode cL_isBook 64 = .ok (.iload 9, 2) := by decide +kernel
theorem dL_isBook_66 : decode cL_isBook 66 = .ok (.iadd, 1) := by decide +kernel
theorem dL_isBook_67 : decode cL_isBook 67 = .ok (.iaload, 1) := by decide +kernel
theorem dL_isBook_68 : decode cL_isBook 68 = .ok (.if_icmp .eq 5, 3) := by decide +kernel
theorem dL_isBook_71 : decode cL_isBook 71 = .ok (.iconst 0, 1) := by decide +kernel
theorem dL_isBook_72 : decode cL_isBook 72 = .ok (.ireturn, 1) := by decide +kernel
theorem dL_isBook_73 : decode cL_isBook 73 = .ok (.iinc 10 1, 3) := by decide +kernel
theorem dL_isBook_76 : decode cL_isBook 76 = .ok (.goto (-38), 3) := by decide +kernel
theorem dL_isBook_79 : decode cL_isBook 79 = .ok (.aload_n 2, 1) := by decide +kernel
theorem dL_isBook_80 : decode cL_isBook 80 = .ok (.iconst 5, 1) := by decide +kernel
theorem dL_isBook_81 : decode cL_isBook 81 = .ok (.iaload, 1) := by decide +kernel
theorem dL_isBook_82 : decode cL_isBook 82 = .ok (.iload 9, 2) := by decide +kernel
theorem dL_isBook_84 : decode cL_isBook 84 = .ok (.invokestatic 60, 3) := by decide +kernel
theorem dL_isBook_87 : decode cL_isBook 87 = .ok (.ifCond .eq 157, 3) := by decide +kernel
theorem dL_isBook_90 : decode cL_isBook 90 = .ok (.iload 9, 2) := by decide +kernel
theorem dL_isBook_92 : decode cL_isBook 92 = .ok (.iload 5, 2) := by decide +kernel
theorem dL_isBook_94 : decode cL_isBook 94 = .ok (.if_icmp .ne 6, 3) := by decide +kernel
theorem dL_isBook_97 : decode cL_isBook 97 = .ok (.goto 147, 3) := by decide +kernel
theorem dL_isBook_100 : decode cL_isBook 100 = .ok (.iload 7, 2) := by decide +kernel
theorem dL_isBook_102 : decode cL_isBook 102 = .ok (.ifCond .lt 22, 3) := by decide +kernel
theorem dL_isBook_105 : decode cL_isBook 105 = .ok (.aload 4, 2) := by decide +kernel
theorem dL_isBook_107 : decode cL_isBook 107 = .ok (.bipush 16, 2) := by decide +kernel
theorem dL_isBook_109 : decode cL_isBook 109 = .ok (.iload 9, 2) := by decide +kernel
theorem dL_isBook_111 : decode cL_isBook 111 = .ok (.iadd, 1) := by decide +kernel
theorem dL_isBook_112 : decode cL_isBook 112 = .ok (.iaload, 1) := by decide +kernel
theorem dL_isBook_113 : decode cL_isBook 113 = .ok (.aload 4, 2) := by decide +kernel
theorem dL_isBook_115 : decode cL_isBook 115 = .ok (.bipush 16, 2) := by decide +kernel
theorem dL_isBook_117 : decode cL_isBook 117 = .ok (.iload 7, 2) := by decide +kernel
theorem dL_isBook_119 : decode cL_isBook 119 = .ok (.iadd, 1) := by decide +kernel
theorem dL_isBook_120 : decode cL_isBook 120 = .ok (.iaload, 1) := by decide +kernel
theorem dL_isBook_121 : decode cL_isBook 121 = .ok (.if_icmp .le 7, 3) := by decide +kernel
theorem dL_isBook_124 : decode cL_isBook 124 = .ok (.iload 9, 2) := by decide +kernel
theorem dL_isBook_126 : decode cL_isBook 126 = .ok (.istore 7, 2) := by decide +kernel
theorem dL_isBook_128 : decode cL_isBook 128 = .ok (.iconst 2, 1) := by decide +kernel
theorem dL_isBook_129 : decode cL_isBook 129 = .ok (.aload 4, 2) := by decide +kernel
theorem dL_isBook_131 : decode cL_isBook 131 = .ok (.bipush 16, 2) := by decide +kernel
theorem dL_isBook_133 : decode cL_isBook 133 = .ok (.iload 9, 2) := by decide +kernel
theorem dL_isBook_135 : decode cL_isBook 135 = .ok (.iadd, 1) := by decide +kernel
theorem dL_isBook_136 : decode cL_isBook 136 = .ok (.iaload, 1) := by decide +kernel
theorem dL_isBook_137 : decode cL_isBook 137 = .ok (.imul, 1) := by decide +kernel
theorem dL_isBook_138 : decode cL_isBook 138 = .ok (.aload 4, 2) := by decide +kernel
theorem dL_isBook_140 : decode cL_isBook 140 = .ok (.iconst 0, 1) := by decide +kernel
theorem dL_isBook_141 : decode cL_isBook 141 = .ok (.iaload, 1) := by decide +kernel
theorem dL_isBook_142 : decode cL_isBook 142 = .ok (.if_icmp .le 21, 3) := by decide +kernel
theorem dL_isBook_145 : decode cL_isBook 145 = .ok (.iconst 2, 1) := by decide +kernel
theorem dL_isBook_146 : decode cL_isBook 146 = .ok (.aload 4, 2) := by decide +kernel
theorem dL_isBook_148 : decode cL_isBook 148 = .ok (.bipush 16, 2) := by decide +kernel
theorem dL_isBook_150 : decode cL_isBook 150 = .ok (.iload 9, 2) := by decide +kernel
theorem dL_isBook_152 : decode cL_isBook 152 = .ok (.iadd, 1) := by decide +kernel
theorem dL_isBook_153 : decode cL_isBook 153 = .ok (.iaload, 1) := by decide +kernel
theorem dL_isBook_154 : decode cL_isBook 154 = .ok (.imul, 1) := by decide +kernel
theorem dL_isBook_155 : decode cL_isBook 155 = .ok (.aload 4, 2) := by decide +kernel
theorem dL_isBook_157 : decode cL_isBook 157 = .ok (.iconst 0, 1) := by decide +kernel
theorem dL_isBook_158 : decode cL_isBook 158 = .ok (.iaload, 1) := by decide +kernel
theorem dL_isBook_159 : decode cL_isBook 159 = .ok (.isub, 1) := by decide +kernel
theorem dL_isBook_160 : decode cL_isBook 160 = .ok (.goto 18, 3) := by decide +kernel
theorem dL_isBook_163 : decode cL_isBook 163 = .ok (.aload 4, 2) := by decide +kernel
theorem dL_isBook_165 : decode cL_isBook 165 = .ok (.iconst 0, 1) := by decide +kernel
theorem dL_isBook_166 : decode cL_isBook 166 = .ok (.iaload, 1) := by decide +kernel
theorem dL_isBook_167 : decode cL_isBook 167 = .ok (.iconst 2, 1) := by decide +kernel
theorem dL_isBook_168 : decode cL_isBook 168 = .ok (.aload 4, 2) := by decide +kernel
theorem dL_isBook_170 : decode cL_isBook 170 = .ok (.bipush 16, 2) := by decide +kernel
theorem dL_isBook_172 : decode cL_isBook 172 = .ok (.iload 9, 2) := by decide +kernel
theorem dL_isBook_174 : decode cL_isBook 174 = .ok (.iadd, 1) := by decide +kernel
theorem dL_isBook_175 : decode cL_isBook 175 = .ok (.iaload, 1) := by decide +kernel
theorem dL_isBook_176 : decode cL_isBook 176 = .ok (.imul, 1) := by decide +kernel
theorem dL_isBook_177 : decode cL_isBook 177 = .ok (.isub, 1) := by decide +kernel
theorem dL_isBook_178 : decode cL_isBook 178 = .ok (.istore 10, 2) := by decide +kernel
theorem dL_isBook_180 : decode cL_isBook 180 = .ok (.iload 8, 2) := by decide +kernel
theorem dL_isBook_182 : decode cL_isBook 182 = .ok (.ifCond .lt 58, 3) := by decide +kernel
theorem dL_isBook_185 : decode cL_isBook 185 = .ok (.iload 10, 2) := by decide +kernel
theorem dL_isBook_187 : decode cL_isBook 187 = .ok (.iconst 2, 1) := by decide +kernel
theorem dL_isBook_188 : decode cL_isBook 188 = .ok (.aload 4, 2) := by decide +kernel
theorem dL_isBook_190 : decode cL_isBook 190 = .ok (.bipush 16, 2) := by decide +kernel
theorem dL_isBook_192 : decode cL_isBook 192 = .ok (.iload 8, 2) := by decide +kernel
theorem dL_isBook_194 : decode cL_isBook 194 = .ok (.iadd, 1) := by decide +kernel
theorem dL_isBook_195 : decode cL_isBook 195 = .ok (.iaload, 1) := by decide +kernel
theorem dL_isBook_196 : decode cL_isBook 196 = .ok (.imul, 1) := by decide +kernel
theorem dL_isBook_197 : decode cL_isBook 197 = .ok (.aload 4, 2) := by decide +kernel
theorem dL_isBook_199 : decode cL_isBook 199 = .ok (.iconst 0, 1) := by decide +kernel
theorem dL_isBook_200 : decode cL_isBook 200 = .ok (.iaload, 1) := by decide +kernel
theorem dL_isBook_201 : decode cL_isBook 201 = .ok (.if_icmp .le 21, 3) := by decide +kernel
theorem dL_isBook_204 : decode cL_isBook 204 = .ok (.iconst 2, 1) := by decide +kernel
theorem dL_isBook_205 : decode cL_isBook 205 = .ok (.aload 4, 2) := by decide +kernel
theorem dL_isBook_207 : decode cL_isBook 207 = .ok (.bipush 16, 2) := by decide +kernel
theorem dL_isBook_209 : decode cL_isBook 209 = .ok (.iload 8, 2) := by decide +kernel
theorem dL_isBook_211 : decode cL_isBook 211 = .ok (.iadd, 1) := by decide +kernel
theorem dL_isBook_212 : decode cL_isBook 212 = .ok (.iaload, 1) := by decide +kernel
theorem dL_isBook_213 : decode cL_isBook 213 = .ok (.imul, 1) := by decide +kernel
theorem dL_isBook_214 : decode cL_isBook 214 = .ok (.aload 4, 2) := by decide +kernel
theorem dL_isBook_216 : decode cL_isBook 216 = .ok (.iconst 0, 1) := by decide +kernel
theorem dL_isBook_217 : decode cL_isBook 217 = .ok (.iaload, 1) := by decide +kernel
theorem dL_isBook_218 : decode cL_isBook 218 = .ok (.isub, 1) := by decide +kernel
theorem dL_isBook_219 : decode cL_isBook 219 = .ok (.goto 18, 3) := by decide +kernel
theorem dL_isBook_222 : decode cL_isBook 222 = .ok (.aload 4, 2) := by decide +kernel
theorem dL_isBook_224 : decode cL_isBook 224 = .ok (.iconst 0, 1) := by decide +kernel
theorem dL_isBook_225 : decode cL_isBook 225 = .ok (.iaload, 1) := by decide +kernel
theorem dL_isBook_226 : decode cL_isBook 226 = .ok (.iconst 2, 1) := by decide +kernel
theorem dL_isBook_227 : decode cL_isBook 227 = .ok (.aload 4, 2) := by decide +kernel
theorem dL_isBook_229 : decode cL_isBook 229 = .ok (.bipush 16, 2) := by decide +kernel
theorem dL_isBook_231 : decode cL_isBook 231 = .ok (.iload 8, 2) := by decide +kernel
theorem dL_isBook_233 : decode cL_isBook 233 = .ok (.iadd, 1) := by decide +kernel
theorem dL_isBook_234 : decode cL_isBook 234 = .ok (.iaload, 1) := by decide +kernel
theorem dL_isBook_235 : decode cL_isBook 235 = .ok (.imul, 1) := by decide +kernel
theorem dL_isBook_236 : decode cL_isBook 236 = .ok (.isub, 1) := by decide +kernel
theorem dL_isBook_237 : decode cL_isBook 237 = .ok (.if_icmp .ge 7, 3) := by decide +kernel
theorem dL_isBook_240 : decode cL_isBook 240 = .ok (.iload 9, 2) := by decide +kernel
theorem dL_isBook_242 : decode cL_isBook 242 = .ok (.istore 8, 2) := by decide +kernel
theorem dL_isBook_244 : decode cL_isBook 244 = .ok (.iinc 9 1, 3) := by decide +kernel
theorem dL_isBook_247 : decode cL_isBook 247 = .ok (.goto (-220), 3) := by decide +kernel
theorem dL_isBook_250 : decode cL_isBook 250 = .ok (.iload 5, 2) := by decide +kernel
theorem dL_isBook_252 : decode cL_isBook 252 = .ok (.aload_n 2, 1) := by decide +kernel
theorem dL_isBook_253 : decode cL_isBook 253 = .ok (.iconst 3, 1) := by decide +kernel
theorem dL_isBook_254 : decode cL_isBook 254 = .ok (.iaload, 1) := by decide +kernel
theorem dL_isBook_255 : decode cL_isBook 255 = .ok (.if_icmp .ne 14, 3) := by decide +kernel
theorem dL_isBook_258 : decode cL_isBook 258 = .ok (.aload_n 0, 1) := by decide +kernel
theorem dL_isBook_259 : decode cL_isBook 259 = .ok (.invokevirtual 111, 3) := by decide +kernel
theorem dL_isBook_262 : decode cL_isBook 262 = .ok (.iload 8, 2) := by decide +kernel
theorem dL_isBook_264 : decode cL_isBook 264 = .ok (.if_icmp .eq 5, 3) := by decide +kernel
theorem dL_isBook_267 : decode cL_isBook 267 = .ok (.iconst 0, 1) := by decide +kernel
theorem dL_isBook_268 : decode cL_isBook 268 = .ok (.ireturn, 1) := by decide +kernel
theorem dL_isBook_269 : decode cL_isBook 269 = .ok (.iload_n 1, 1) := by decide +kernel
theorem dL_isBook_270 : decode cL_isBook 270 = .ok (.bipush 6, 2) := by decide +kernel
theorem dL_isBook_272 : decode cL_isBook 272 = .ok (.iand, 1) := by decide +kernel
theorem dL_isBook_273 : decode cL_isBook 273 = .ok (.ifCond .ne 9, 3) := by decide +kernel
theorem dL_isBook_276 : decode cL_isBook 276 = .ok (.aload_n 2, 1) := by decide +kernel
theorem dL_isBook_277 : decode cL_isBook 277 = .ok (.iconst 2, 1) := by decide +kernel
theorem dL_isBook_278 : decode cL_isBook 278 = .ok (.iaload, 1) := by decide +kernel
theorem dL_isBook_279 : decode cL_isBook 279 = .ok (.goto 14, 3) := by decide +kernel
theorem dL_isBook_282 : decode cL_isBook 282 = .ok (.iload_n 1, 1) := by decide +kernel
theorem dL_isBook_283 : decode cL_isBook 283 = .ok (.iconst 3, 1) := by decide +kernel
theorem dL_isBook_284 : decode cL_isBook 284 = .ok (.ishr, 1) := by decide +kernel
theorem dL_isBook_285 : decode cL_isBook 285 = .ok (.iconst 1, 1) := by decide +kernel
theorem dL_isBook_286 : decode cL_isBook 286 = .ok (.aload_n 2, 1) := by decide +kernel
theorem dL_isBook_287 : decode cL_isBook 287 = .ok (.iconst 1, 1) := by decide +kernel
theorem dL_isBook_288 : decode cL_isBook 288 = .ok (.iaload, 1) := by decide +kernel
theorem dL_isBook_289 : decode cL_isBook 289 = .ok (.ishl, 1) := by decide +kernel
theorem dL_isBook_290 : decode cL_isBook 290 = .ok (.invokestatic 79, 3) := by decide +kernel
theorem dL_isBook_293 : decode cL_isBook 293 = .ok (.istore 9, 2) := by decide +kernel
theorem dL_isBook_295 : decode cL_isBook 295 = .ok (.iload_n 1, 1) := by decide +kernel
theorem dL_isBook_296 : decode cL_isBook 296 = .ok (.bipush 24, 2) := by decide +kernel
theorem dL_isBook_298 : decode cL_isBook 298 = .ok (.iand, 1) := by decide +kernel
theorem dL_isBook_299 : decode cL_isBook 299 = .ok (.ifCond .ne 9, 3) := by decide +kernel
theorem dL_isBook_302 : decode cL_isBook 302 = .ok (.aload_n 2, 1) := by decide +kernel
theorem dL_isBook_303 : decode cL_isBook 303 = .ok (.iconst 3, 1) := by decide +kernel
theorem dL_isBook_304 : decode cL_isBook 304 = .ok (.iaload, 1) := by decide +kernel
theorem dL_isBook_305 : decode cL_isBook 305 = .ok (.goto 13, 3) := by decide +kernel
theorem dL_isBook_308 : decode cL_isBook 308 = .ok (.iload_n 1, 1) := by decide +kernel
theorem dL_isBook_309 : decode cL_isBook 309 = .ok (.bipush 12, 2) := by decide +kernel
theorem dL_isBook_311 : decode cL_isBook 311 = .ok (.ishr, 1) := by decide +kernel
theorem dL_isBook_312 : decode cL_isBook 312 = .ok (.aload_n 2, 1) := by decide +kernel
theorem dL_isBook_313 : decode cL_isBook 313 = .ok (.iconst 1, 1) := by decide +kernel
theorem dL_isBook_314 : decode cL_isBook 314 = .ok (.iaload, 1) := by decide +kernel
theorem dL_isBook_315 : decode cL_isBook 315 = .ok (.invokestatic 79, 3) := by decide +kernel
theorem dL_isBook_318 : decode cL_isBook 318 = .ok (.istore 10, 2) := by decide +kernel
theorem dL_isBook_320 : decode cL_isBook 320 = .ok (.iload_n 1, 1) := by decide +kernel
theorem dL_isBook_321 : decode cL_isBook 321 = .ok (.bipush 96, 2) := by decide +kernel
theorem dL_isBook_323 : decode cL_isBook 323 = .ok (.iand, 1) := by decide +kernel
theorem dL_isBook_324 : decode cL_isBook 324 = .ok (.ifCond .ne 9, 3) := by decide +kernel
theorem dL_isBook_327 : decode cL_isBook 327 = .ok (.aload_n 2, 1) := by decide +kernel
theorem dL_isBook_328 : decode cL_isBook 328 = .ok (.iconst 4, 1) := by decide +kernel
theorem dL_isBook_329 : decode cL_isBook 329 = .ok (.iaload, 1) := by decide +kernel
theorem dL_isBook_330 : decode cL_isBook 330 = .ok (.goto 13, 3) := by decide +kernel
theorem dL_isBook_333 : decode cL_isBook 333 = .ok (.iload_n 1, 1) := by decide +kernel
theorem dL_isBook_334 : decode cL_isBook 334 = .ok (.bipush 16, 2) := by decide +kernel
theorem dL_isBook_336 : decode cL_isBook 336 = .ok (.ishr, 1) := by decide +kernel
theorem dL_isBook_337 : decode cL_isBook 337 = .ok (.aload_n 2, 1) := by decide +kernel
theorem dL_isBook_338 : decode cL_isBook 338 = .ok (.iconst 1, 1) := by decide +kernel
theorem dL_isBook_339 : decode cL_isBook 339 = .ok (.iaload, 1) := by decide +kernel
theorem dL_isBook_340 : decode cL_isBook 340 = .ok (.invokestatic 79, 3) := by decide +kernel
theorem dL_isBook_343 : decode cL_isBook 343 = .ok (.istore 11, 2) := by decide +kernel
theorem dL_isBook_345 : decode cL_isBook 345 = .ok (.aload_n 0, 1) := by decide +kernel
theorem dL_isBook_346 : decode cL_isBook 346 = .ok (.iload 5, 2) := by decide +kernel
theorem dL_isBook_348 : decode cL_isBook 348 = .ok (.invokestatic 114, 3) := by decide +kernel
theorem dL_isBook_351 : decode cL_isBook 351 = .ok (.aload 4, 2) := by decide +kernel
theorem dL_isBook_353 : decode cL_isBook 353 = .ok (.iconst 0, 1) := by decide +kernel
theorem dL_isBook_354 : decode cL_isBook 354 = .ok (.iaload, 1) := by decide +kernel
theorem dL_isBook_355 : decode cL_isBook 355 = .ok (.if_icmp .ne 208, 3) := by decide +kernel
theorem dL_isBook_358 : decode cL_isBook 358 = .ok (.aload 4, 2) := by decide +kernel
theorem dL_isBook_360 : decode cL_isBook 360 = .ok (.iconst 0, 1) := by decide +kernel
theorem dL_isBook_361 : decode cL_isBook 361 = .ok (.iaload, 1) := by decide +kernel
theorem dL_isBook_362 : decode cL_isBook 362 = .ok (.ifCond .le 201, 3) := by decide +kernel
theorem dL_isBook_365 : decode cL_isBook 365 = .ok (.aload_n 0, 1) := by decide +kernel
theorem dL_isBook_366 : decode cL_isBook 366 = .ok (.iload 5, 2) := by decide +kernel
theorem dL_isBook_368 : decode cL_isBook 368 = .ok (.invokevirtual 117, 3) := by decide +kernel
theorem dL_isBook_371 : decode cL_isBook 371 = .ok (.aload 4, 2) := by decide +kernel
theorem dL_isBook_373 : decode cL_isBook 373 = .ok (.iconst 2, 1) := by decide +kernel
theorem dL_isBook_374 : decode cL_isBook 374 = .ok (.iaload, 1) := by decide +kernel
theorem dL_isBook_375 : decode cL_isBook 375 = .ok (.if_icmp .ne 188, 3) := by decide +kernel
theorem dL_isBook_378 : decode cL_isBook 378 = .ok (.aload_n 0, 1) := by decide +kernel
theorem dL_isBook_379 : decode cL_isBook 379 = .ok (.iload 5, 2) := by decide +kernel
theorem dL_isBook_381 : decode cL_isBook 381 = .ok (.invokevirtual 120, 3) := by decide +kernel
theorem dL_isBook_384 : decode cL_isBook 384 = .ok (.iload 6, 2) := by decide +kernel
theorem dL_isBook_386 : decode cL_isBook 386 = .ok (.aload 4, 2) := by decide +kernel
theorem dL_isBook_388 : decode cL_isBook 388 = .ok (.iconst 3, 1) := by decide +kernel
theorem dL_isBook_389 : decode cL_isBook 389 = .ok (.iaload, 1) := by decide +kernel
theorem dL_isBook_390 : decode cL_isBook 390 = .ok (.iconst (-1), 1) := by decide +kernel
theorem dL_isBook_391 : decode cL_isBook 391 = .ok (.ixor, 1) := by decide +kernel
theorem dL_isBook_392 : decode cL_isBook 392 = .ok (.iand, 1) := by decide +kernel
theorem dL_isBook_393 : decode cL_isBook 393 = .ok (.if_icmp .ne 170, 3) := by decide +kernel
theorem dL_isBook_396 : decode cL_isBook 396 = .ok (.aload_n 0, 1) := by decide +kernel
theorem dL_isBook_397 : decode cL_isBook 397 = .ok (.iload 5, 2) := by decide +kernel
theorem dL_isBook_399 : decode cL_isBook 399 = .ok (.invokevirtual 123, 3) := by decide +kernel
theorem dL_isBook_402 : decode cL_isBook 402 = .ok (.aload 4, 2) := by decide +kernel
theorem dL_isBook_404 : decode cL_isBook 404 = .ok (.iconst 1, 1) := by decide +kernel
theorem dL_isBook_405 : decode cL_isBook 405 = .ok (.iaload, 1) := by decide +kernel
theorem dL_isBook_406 : decode cL_isBook 406 = .ok (.if_icmp .ne 157, 3) := by decide +kernel
theorem dL_isBook_409 : decode cL_isBook 409 = .ok (.aload_n 0, 1) := by decide +kernel
theorem dL_isBook_410 : decode cL_isBook 410 = .ok (.iload 5, 2) := by decide +kernel
theorem dL_isBook_412 : decode cL_isBook 412 = .ok (.invokevirtual 126, 3) := by decide +kernel
theorem dL_isBook_415 : decode cL_isBook 415 = .ok (.iload 7, 2) := by decide +kernel
theorem dL_isBook_417 : decode cL_isBook 417 = .ok (.if_icmp .ne 146, 3) := by decide +kernel
theorem dL_isBook_420 : decode cL_isBook 420 = .ok (.aload_n 0, 1) := by decide +kernel
theorem dL_isBook_421 : decode cL_isBook 421 = .ok (.iload 5, 2) := by decide +kernel
theorem dL_isBook_423 : decode cL_isBook 423 = .ok (.iload 9, 2) := by decide +kernel
theorem dL_isBook_425 : decode cL_isBook 425 = .ok (.iload 10, 2) := by decide +kernel
theorem dL_isBook_427 : decode cL_isBook 427 = .ok (.iload 11, 2) := by decide +kernel
theorem dL_isBook_429 : decode cL_isBook 429 = .ok (.invokestatic 129, 3) := by decide +kernel
theorem dL_isBook_432 : decode cL_isBook 432 = .ok (.aload_n 2, 1) := by decide +kernel
theorem dL_isBook_433 : decode cL_isBook 433 = .ok (.aload_n 3, 1) := by decide +kernel
theorem dL_isBook_434 : decode cL_isBook 434 = .ok (.iload 5, 2) := by decide +kernel
theorem dL_isBook_436 : decode cL_isBook 436 = .ok (.iload 9, 2) := by decide +kernel
theorem dL_isBook_438 : decode cL_isBook 438 = .ok (.iload 10, 2) := by decide +kernel
theorem dL_isBook_440 : decode cL_isBook 440 = .ok (.iload 11, 2) := by decide +kernel
theorem dL_isBook_442 : decode cL_isBook 442 = .ok (.invokestatic 75, 3) := by decide +kernel
theorem dL_isBook_445 : decode cL_isBook 445 = .ok (.ifCond .eq 7, 3) := by decide +kernel
theorem dL_isBook_448 : decode cL_isBook 448 = .ok (.iconst 1, 1) := by decide +kernel
theorem dL_isBook_449 : decode cL_isBook 449 = .ok (.goto 4, 3) := by decide +kernel
theorem dL_isBook_452 : decode cL_isBook 452 = .ok (.iconst 0, 1) := by decide +kernel
theorem dL_isBook_453 : decode cL_isBook 453 = .ok (.if_icmp .ne 110, 3) := by decide +kernel
theorem dL_isBook_456 : decode cL_isBook 456 = .ok (.aload_n 0, 1) := by decide +kernel
theorem dL_isBook_457 : decode cL_isBook 457 = .ok (.iload 5, 2) := by decide +kernel
theorem dL_isBook_459 : decode cL_isBook 459 = .ok (.aload_n 2, 1) := by decide +kernel
theorem dL_isBook_460 : decode cL_isBook 460 = .ok (.iconst 2, 1) := by decide +kernel
theorem dL_isBook_461 : decode cL_isBook 461 = .ok (.iaload, 1) := by decide +kernel
theorem dL_isBook_462 : decode cL_isBook 462 = .ok (.aload_n 2, 1) := by decide +kernel
theorem dL_isBook_463 : decode cL_isBook 463 = .ok (.iconst 3, 1) := by decide +kernel
theorem dL_isBook_464 : decode cL_isBook 464 = .ok (.iaload, 1) := by decide +kernel
theorem dL_isBook_465 : decode cL_isBook 465 = .ok (.aload_n 2, 1) := by decide +kernel
theorem dL_isBook_466 : decode cL_isBook 466 = .ok (.iconst 4, 1) := by decide +kernel
theorem dL_isBook_467 : decode cL_isBook 467 = .ok (.iaload, 1) := by decide +kernel
theorem dL_isBook_468 : decode cL_isBook 468 = .ok (.invokestatic 129, 3) := by decide +kernel
theorem dL_isBook_471 : decode cL_isBook 471 = .ok (.iconst 1, 1) := by decide +kernel
theorem dL_isBook_472 : decode cL_isBook 472 = .ok (.if_icmp .ne 91, 3) := by decide +kernel
theorem dL_isBook_475 : decode cL_isBook 475 = .ok (.aload_n 0, 1) := by decide +kernel
theorem dL_isBook_476 : decode cL_isBook 476 = .ok (.iload 5, 2) := by decide +kernel
theorem dL_isBook_478 : decode cL_isBook 478 = .ok (.aload_n 2, 1) := by decide +kernel
theorem dL_isBook_479 : decode cL_isBook 479 = .ok (.iconst 2, 1) := by decide +kernel
theorem dL_isBook_480 : decode cL_isBook 480 = .ok (.iaload, 1) := by decide +kernel
theorem dL_isBook_481 : decode cL_isBook 481 = .ok (.iconst 1, 1) := by decide +kernel
theorem dL_isBook_482 : decode cL_isBook 482 = .ok (.aload_n 2, 1) := by decide +kernel
theorem dL_isBook_483 : decode cL_isBook 483 = .ok (.iconst 1, 1) := by decide +kernel
theorem dL_isBook_484 : decode cL_isBook 484 = .ok (.iaload, 1) := by decide +kernel
theorem dL_isBook_485 : decode cL_isBook 485 = .ok (.ishl, 1) := by decide +kernel
theorem dL_isBook_486 : decode cL_isBook 486 = .ok (.ior, 1) := by decide +kernel
theorem dL_isBook_487 : decode cL_isBook 487 = .ok (.aload_n 2, 1) := by decide +kernel
theorem dL_isBook_488 : decode cL_isBook 488 = .ok (.iconst 3, 1) := by decide +kernel
theorem dL_isBook_489 : decode cL_isBook 489 = .ok (.iaload, 1) := by decide +kernel
theorem dL_isBook_490 : decode cL_isBook 490 = .ok (.aload_n 2, 1) := by decide +kernel
theorem dL_isBook_491 : decode cL_isBook 491 = .ok (.iconst 4, 1) := by decide +kernel
theorem dL_isBook_492 : decode cL_isBook 492 = .ok (.iaload, 1) := by decide +kernel
theorem dL_isBook_493 : decode cL_isBook 493 = .ok (.invokestatic 129, 3) := by decide +kernel
theorem dL_isBook_496 : decode cL_isBook 496 = .ok (.ifCond .ne 67, 3) := by decide +kernel
theorem dL_isBook_499 : decode cL_isBook 499 = .ok (.aload_n 0, 1) := by decide +kernel
theorem dL_isBook_500 : decode cL_isBook 500 = .ok (.iload 5, 2) := by decide +kernel
theorem dL_isBook_502 : decode cL_isBook 502 = .ok (.iconst (-1), 1) := by decide +kernel
theorem dL_isBook_503 : decode cL_isBook 503 = .ok (.aload_n 2, 1) := by decide +kernel
theorem dL_isBook_504 : decode cL_isBook 504 = .ok (.iconst 3, 1) := by decide +kernel
theorem dL_isBook_505 : decode cL_isBook 505 = .ok (.iaload, 1) := by decide +kernel
theorem dL_isBook_506 : decode cL_isBook 506 = .ok (.aload_n 2, 1) := by decide +kernel
theorem dL_isBook_507 : decode cL_isBook 507 = .ok (.iconst 4, 1) := by decide +kernel
theorem dL_isBook_508 : decode cL_isBook 508 = .ok (.iaload, 1) := by decide +kernel
theorem dL_isBook_509 : decode cL_isBook 509 = .ok (.invokestatic 129, 3) := by decide +kernel
theorem dL_isBook_512 : decode cL_isBook 512 = .ok (.ifCond .ne 51, 3) := by decide +kernel
theorem dL_isBook_515 : decode cL_isBook 515 = .ok (.aload_n 0, 1) := by decide +kernel
theorem dL_isBook_516 : decode cL_isBook 516 = .ok (.iload 5, 2) := by decide +kernel
theorem dL_isBook_518 : decode cL_isBook 518 = .ok (.iconst 0, 1) := by decide +kernel
theorem dL_isBook_519 : decode cL_isBook 519 = .ok (.aload_n 2, 1) := by decide +kernel
theorem dL_isBook_520 : decode cL_isBook 520 = .ok (.iconst 1, 1) := by decide +kernel
theorem dL_isBook_521 : decode cL_isBook 521 = .ok (.iaload, 1) := by decide +kernel
theorem dL_isBook_522 : decode cL_isBook 522 = .ok (.iconst 0, 1) := by decide +kernel
theorem dL_isBook_523 : decode cL_isBook 523 = .ok (.invokestatic 129, 3) := by decide +kernel
theorem dL_isBook_526 : decode cL_isBook 526 = .ok (.bipush (-72), 2) := by decide +kernel
theorem dL_isBook_528 : decode cL_isBook 528 = .ok (.if_icmp .ne 35, 3) := by decide +kernel
theorem dL_isBook_531 : decode cL_isBook 531 = .ok (.aload_n 0, 1) := by decide +kernel
theorem dL_isBook_532 : decode cL_isBook 532 = .ok (.iload 5, 2) := by decide +kernel
theorem dL_isBook_534 : decode cL_isBook 534 = .ok (.iconst 0, 1) := by decide +kernel
theorem dL_isBook_535 : decode cL_isBook 535 = .ok (.iconst 4, 1) := by decide +kernel
theorem dL_isBook_536 : decode cL_isBook 536 = .ok (.invokestatic 109, 3) := by decide +kernel
theorem dL_isBook_539 : decode cL_isBook 539 = .ok (.bipush (-73), 2) := by decide +kernel
theorem dL_isBook_541 : decode cL_isBook 541 = .ok (.if_icmp .ne 22, 3) := by decide +kernel
theorem dL_isBook_544 : decode cL_isBook 544 = .ok (.aload_n 0, 1) := by decide +kernel
theorem dL_isBook_545 : decode cL_isBook 545 = .ok (.iload 5, 2) := by decide +kernel
theorem dL_isBook_547 : decode cL_isBook 547 = .ok (.aload_n 2, 1) := by decide +kernel
theorem dL_isBook_548 : decode cL_isBook 548 = .ok (.iconst 1, 1) := by decide +kernel
theorem dL_isBook_549 : decode cL_isBook 549 = .ok (.iaload, 1) := by decide +kernel
theorem dL_isBook_550 : decode cL_isBook 550 = .ok (.iconst 4, 1) := by decide +kernel
theorem dL_isBook_551 : decode cL_isBook 551 = .ok (.invokestatic 109, 3) := by decide +kernel
theorem dL_isBook_554 : decode cL_isBook 554 = .ok (.bipush (-72), 2) := by decide +kernel
theorem dL_isBook_556 : decode cL_isBook 556 = .ok (.if_icmp .ne 7, 3) := by decide +kernel
theorem dL_isBook_559 : decode cL_isBook 559 = .ok (.iconst 1, 1) := by decide +kernel
theorem dL_isBook_560 : decode cL_isBook 560 = .ok (.goto 4, 3) := by decide +kernel
theorem dL_isBook_563 : decode cL_isBook 563 = .ok (.iconst 0, 1) := by decide +kernel
theorem dL_isBook_564 : decode cL_isBook 564 = .ok (.ireturn, 1) := by decide +kernel
