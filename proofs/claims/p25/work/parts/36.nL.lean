theorem dL_cell_0 : decode cL_cell 0 = .ok (.iload_n 1, 1) := by decide +kernel
theorem dL_cell_1 : decode cL_cell 1 = .ok (.aload_n 0, 1) := by decide +kernel
theorem dL_cell_2 : decode cL_cell 2 = .ok (.arraylength, 1) := by decide +kernel
theorem dL_cell_3 : decode cL_cell 3 = .ok (.if_icmp .ge 9, 3) := by decide +kernel
theorem dL_cell_6 : decode cL_cell 6 = .ok (.aload_n 0, 1) := by decide +kernel
theorem dL_cell_7 : decode cL_cell 7 = .ok (.iload_n 1, 1) := by decide +kernel
theorem dL_cell_8 : decode cL_cell 8 = .ok (.iaload, 1) := by decide +kernel
theorem dL_cell_9 : decode cL_cell 9 = .ok (.goto 9, 3) := by decide +kernel
theorem dL_cell_12 : decode cL_cell 12 = .ok (.ldc 7, 2) := by decide +kernel
theorem dL_cell_14 : decode cL_cell 14 = .ok (.iload_n 1, 1) := by decide +kernel
theorem dL_cell_15 : decode cL_cell 15 = .ok (.iconst 5, 1) := by decide +kernel
theorem dL_cell_16 : decode cL_cell 16 = .ok (.iadd, 1) := by decide +kernel
theorem dL_cell_17 : decode cL_cell 17 = .ok (.imul, 1) := by decide +kernel
theorem dL_cell_18 : decode cL_cell 18 = .ok (.ireturn, 1) := by decide +kernel
theorem dL_low_0 : decode cL_low 0 = .ok (.iload_n 0, 1) := by decide +kernel
theorem dL_low_1 : decode cL_low 1 = .ok (.iconst 1, 1) := by decide +kernel
theorem dL_low_2 : decode cL_low 2 = .ok (.iushr, 1) := by decide +kernel
theorem dL_low_3 : decode cL_low 3 = .ok (.iload_n 1, 1) := by decide +kernel
theorem dL_low_4 : decode cL_low 4 = .ok (.irem, 1) := by decide +kernel
theorem dL_low_5 : decode cL_low 5 = .ok (.ireturn, 1) := by decide +kernel
set_option maxRecDepth 20000 in
theorem ggL_start_X1_start : GoodIn wsL_start wsX1_start := goodIn_ca (goodIn_r _ [6, 7, 8, 9, 10, 11, 12, 13, 14, 15, 16, 17, 18, 19, 20, 5, 21, 22, 23, 24, 25, 26, 27, 28, 29, 30, 31, 32, 33, 34, 35, 36, 37, 38, 39, 40, 41, 42, 43, 44, 45, 46, 47, 48, 49, 50, 51, 52, 53, 54, 55, 56, 57, 58, 59, 60, 61, 62, 63, 64, 65, 66, 67, 68, 69, 70, 71, 72, 73, 74, 75, 76, 77, 78, 79, 80, 81, 82, 83, 84, 85, 86, 87, 88, 89, 90, 91, 92, 93, 94, 95, 96, 97, 98, 99, 100, 101, 102, 103, 104] (by decide +kernel) (by decide +kernel)) (goodIn_sub (fun _ h => List.mem_cons_of_mem _ (List.mem_append_right _ h)) (by decide +kernel))
set_option maxRecDepth 20000 in
theorem gL_start_X1_start : GoodIn wsL_start (wsV RL 8 RX1 yX1_start wsX1_start) := goodIn_app (goodIn_of _ (by decide +kernel)) ggL_start_X1_start
theorem dL_start_0 : decode cL_start 0 = .ok (.aload_n 0, 1) := by decide +kernel
theorem dL_start_1 : decode cL_start 1 = .ok (.iload_n 1, 1) := by decide +kernel
theorem dL_start_2 : decode cL_start 2 = .ok (.iload_n 2, 1) := by decide +kernel
theorem dL_start_3 : decode cL_start 3 = .ok (.iload_n 3, 1) := by decide +kernel
theorem dL_start_4 : decode cL_start 4 = .ok (.iload 4, 2) := by decide +kernel
theorem dL_start_6 : decode cL_start 6 = .ok (.invokevirtual 8, 3) := by decide +kernel
theorem dL_start_9 : decode cL_start 9 = .ok (.istore 5, 2) := by decide +kernel
theorem dL_start_11 : decode cL_start 11 = .ok (.goto 8, 3) := by decide +kernel
theorem dL_start_14 : decode cL_start 14 = .ok (.astore 6, 2) := by decide +kernel
theorem dL_start_16 : decode cL_start 16 = .ok (.bipush (-73), 2) := by decide +kernel
theorem dL_start_18 : decode cL_start 18 = .ok (.ireturn, 1) := by decide +kernel
theorem dL_start_19 : decode cL_start 19 = .ok (.iload 5, 2) := by decide +kernel
theorem dL_start_21 : decode cL_start 21 = .ok (.ireturn, 1) := by decide +kernel
set_option maxRecDepth 20000 in
theorem ggL_claim_X1_claim : GoodIn wsL_claim wsX1_claim := goodIn_ca (goodIn_ca (goodIn_ca (goodIn_ca (goodIn_r _ [9, 10, 11, 12, 13, 14, 8, 15, 16, 17, 18, 19, 20, 21, 22, 23, 24, 25, 26, 27, 28, 29, 30, 31, 32, 33, 34, 35, 36, 37, 38, 39, 40, 41, 42, 43, 44, 45, 46, 47, 48, 49, 50, 51, 52, 53, 54, 55, 56, 57, 58, 59, 60, 61, 62, 63, 64, 65, 66, 67, 68, 69, 70, 71, 72, 73, 74, 75, 76, 77, 78, 79, 80, 81, 82, 83, 84, 85, 86, 87, 88, 89, 90, 91, 92, 93, 94, 95, 96, 97, 98] (by decide +kernel) (by decide +kernel)) (goodIn_sub (fun _ h => List.mem_cons_of_mem _ (List.mem_append_left _ (List.mem_append_left _ (List.mem_append_left _ (List.mem_append_right _ h))))) (by decide +kernel))) (goodIn_sub (fun _ h => List.mem_cons_of_mem _ (List.mem_append_left _ (List.mem_append_left _ (List.mem_append_right _ h)))) (by decide +kernel))) (goodIn_sub (fun _ h => List.mem_cons_of_mem _ (List.mem_append_left _ (List.mem_append_right _ h))) (by decide +kernel))) (goodIn_sub (fun _ h => List.mem_cons_of_mem _ (List.mem_append_right _ h)) (by decide +kernel))
set_option maxRecDepth 20000 in
theorem gL_claim_X1_claim : GoodIn wsL_claim (wsV RL 16 RX1 yX1_claim wsX1_claim) := goodIn_app (goodIn_of _ (by decide +kernel)) ggL_claim_X1_claim
theorem dL_claim_0 : decode cL_claim 0 = .ok (.aload_n 0, 1) := by decide +kernel
theorem dL_claim_1 : decode cL_claim 1 = .ok (.iload_n 1, 1) := by decide +kernel
theorem dL_claim_2 : decode cL_claim 2 = .ok (.iload_n 2, 1) := by decide +kernel
theorem dL_claim_3 : decode cL_claim 3 = .ok (.iload_n 3, 1) := by decide +kernel
theorem dL_claim_4 : decode cL_claim 4 = .ok (.invokevirtual 16, 3) := by decide +kernel
theorem dL_claim_7 : decode cL_claim 7 = .ok (.istore 4, 2) := by decide +kernel
theorem dL_claim_9 : decode cL_claim 9 = .ok (.goto 23, 3) := by decide +kernel
theorem dL_claim_12 : decode cL_claim 12 = .ok (.astore 5, 2) := by decide +kernel
theorem dL_claim_14 : decode cL_claim 14 = .ok (.bipush (-71), 2) := by decide +kernel
theorem dL_claim_16 : decode cL_claim 16 = .ok (.ireturn, 1) := by decide +kernel
theorem dL_claim_17 : decode cL_claim 17 = .ok (.astore 5, 2) := by decide +kernel
theorem dL_claim_19 : decode cL_claim 19 = .ok (.bipush (-72), 2) := by decide +kernel
theorem dL_claim_21 : decode cL_claim 21 = .ok (.ireturn, 1) := by decide +kernel
theorem dL_claim_22 : decode cL_claim 22 = .ok (.astore 5, 2) := by decide +kernel
theorem dL_claim_24 : decode cL_claim 24 = .ok (.bipush (-73), 2) := by decide +kernel
theorem dL_claim_26 : decode cL_claim 26 = .ok (.ireturn, 1) := by decide +kernel
theorem dL_claim_27 : decode cL_claim 27 = .ok (.astore 5, 2) := by decide +kernel
theorem dL_claim_29 : decode cL_claim 29 = .ok (.bipush (-74), 2) := by decide +kernel
theorem dL_claim_31 : decode cL_claim 31 = .ok (.ireturn, 1) := by decide +kernel
theorem dL_claim_32 : decode cL_claim 32 = .ok (.iload 4, 2) := by decide +kernel
theorem dL_claim_34 : decode cL_claim 34 = .ok (.ireturn, 1) := by decide +kernel
set_option maxRecDepth 20000 in
theorem ggL_claimAmong_X1_claimAmong : GoodIn wsL_claimAmong wsX1_claimAmong := goodIn_ca (goodIn_ca (goodIn_ca (goodIn_ca (goodIn_r _ [9, 10, 11, 12, 13, 14, 15, 8, 16, 17, 18, 19, 20, 21, 22, 23, 24, 25, 26, 27, 28, 29, 30, 31, 32, 33, 34, 35, 36, 37, 38, 39, 40, 41, 42, 43, 44, 45, 46, 47, 48, 49, 50, 51, 52, 53, 54, 55, 56, 57, 58, 59, 60, 61, 62, 63, 64, 65, 66, 67, 68, 69, 70, 71, 72, 73, 74, 75, 76, 77, 78, 79, 80, 81, 82, 83, 84, 85, 86, 87, 88, 89, 90, 91, 92] (by decide +kernel) (by decide +kernel)) (goodIn_sub (fun _ h => List.mem_cons_of_mem _ (List.mem_append_left _ (List.mem_append_left _ (List.mem_append_left _ (List.mem_append_right _ h))))) (by decide +kernel))) (goodIn_sub (fun _ h => List.mem_cons_of_mem _ (List.mem_append_left _ (List.mem_append_left _ (List.mem_append_right _ h)))) (by decide +kernel))) (goodIn_sub (fun _ h => List.mem_cons_of_mem _ (List.mem_append_left _ (List.mem_append_right _ h))) (by decide +kernel))) (goodIn_sub (fun _ h => List.mem_cons_of_mem _ (List.mem_append_right _ h)) (by decide +kernel))
set_option maxRecDepth 20000 in
theorem gL_claimAmong_X1_claimAmong : GoodIn wsL_claimAmong (wsV RL 26 RX1 yX1_claimAmong wsX1_claimAmong) := goodIn_app (goodIn_of _ (by decide +kernel)) ggL_claimAmong_X1_claimAmong
theorem dL_claimAmong_0 : decode cL_claimAmong 0 = .ok (.aload_n 0, 1) := by decide +kernel
theorem dL_claimAmong_1 : decode cL_claimAmong 1 = .ok (.iload_n 1, 1) := by decide +kernel
theorem dL_claimAmong_2 : decode cL_claimAmong 2 = .ok (.iload_n 2, 1) := by decide +kernel
theorem dL_claimAmong_3 : decode cL_claimAmong 3 = .ok (.invokevirtual 26, 3) := by decide +kernel
theorem dL_claimAmong_6 : decode cL_claimAmong 6 = .ok (.istore_n 3, 1) := by decide +kernel
theorem dL_claimAmong_7 : decode cL_claimAmong 7 = .ok (.goto 23, 3) := by decide +kernel
theorem dL_claimAmong_10 : decode cL_claimAmong 10 = .ok (.astore 4, 2) := by decide +kernel
theorem dL_claimAmong_12 : decode cL_claimAmong 12 = .ok (.bipush (-71), 2) := by decide +kernel
theorem dL_claimAmong_14 : decode cL_claimAmong 14 = .ok (.ireturn, 1) := by decide +kernel
theorem dL_claimAmong_15 : decode cL_claimAmong 15 = .ok (.astore 4, 2) := by decide +kernel
theorem dL_claimAmong_17 : decode cL_claimAmong 17 = .ok (.bipush (-72), 2) := by decide +kernel
theorem dL_claimAmong_19 : decode cL_claimAmong 19 = .ok (.ireturn, 1) := by decide +kernel
theorem dL_claimAmong_20 : decode cL_claimAmong 20 = .ok (.astore 4, 2) := by decide +kernel
theorem dL_claimAmong_22 : decode cL_claimAmong 22 = .ok (.bipush (-73), 2) := by decide +kernel
theorem dL_claimAmong_24 : decode cL_claimAmong 24 = .ok (.ireturn, 1) := by decide +kernel
theorem dL_claimAmong_25 : decode cL_claimAmong 25 = .ok (.astore 4, 2) := by decide +kernel
theorem dL_claimAmong_27 : decode cL_claimAmong 27 = .ok (.bipush (-74), 2) := by decide +kernel
theorem dL_claimAmong_29 : decode cL_claimAmong 29 = .ok (.ireturn, 1) := by decide +kernel
theorem dL_claimAmong_30 : decode cL_claimAmong 30 = .ok (.iload_n 3, 1) := by decide +kernel
theorem dL_claimAmong_31 : decode cL_claimAmong 31 = .ok (.ireturn, 1) := by decide +kernel
set_option maxRecDepth 20000 in
theorem ggL_vote_X1_vote : GoodIn wsL_vote wsX1_vote := goodIn_ca (goodIn_ca (goodIn_ca (goodIn_r _ [8, 9, 10, 11, 12, 13, 14, 7, 15, 16, 17, 18, 19, 20, 21, 22, 23, 24, 25, 26, 27, 28, 29, 30, 31, 32, 33, 34, 35, 36, 37, 38, 39, 40, 41, 42, 43, 44, 45, 46, 47, 48, 49, 50, 51] (by decide +kernel) (by decide +kernel)) (goodIn_sub (fun _ h => List.mem_cons_of_mem _ (List.mem_append_left _ (List.mem_append_left _ (List.mem_append_right _ h)))) (by decide +kernel))) (goodIn_sub (fun _ h => List.mem_cons_of_mem _ (List.mem_append_left _ (List.mem_append_right _ h))) (by decide +kernel))) (goodIn_sub (fun _ h => List.mem_cons_of_mem _ (List.mem_append_right _ h)) (by decide +kernel))
set_option maxRecDepth 20000 in
theorem gL_vote_X1_vote : GoodIn wsL_vote (wsV RL 30 RX1 yX1_vote wsX1_vote) := goodIn_app (goodIn_of _ (by decide +kernel)) ggL_vote_X1_vote
theorem dL_vote_0 : decode cL_vote 0 = .ok (.aload_n 0, 1) := by decide +kernel
theorem dL_vote_1 : decode cL_vote 1 = .ok (.iload_n 1, 1) := by decide +kernel
theorem dL_vote_2 : decode cL_vote 2 = .ok (.iload_n 2, 1) := by decide +kernel
theorem dL_vote_3 : decode cL_vote 3 = .ok (.invokevirtual 30, 3) := by decide +kernel
theorem dL_vote_6 : decode cL_vote 6 = .ok (.istore_n 3, 1) := by decide +kernel
theorem dL_vote_7 : decode cL_vote 7 = .ok (.goto 18, 3) := by decide +kernel
theorem dL_vote_10 : decode cL_vote 10 = .ok (.astore 4, 2) := by decide +kernel
theorem dL_vote_12 : decode cL_vote 12 = .ok (.bipush (-71), 2) := by decide +kernel
theorem dL_vote_14 : decode cL_vote 14 = .ok (.ireturn, 1) := by decide +kernel
theorem dL_vote_15 : decode cL_vote 15 = .ok (.astore 4, 2) := by decide +kernel
theorem dL_vote_17 : decode cL_vote 17 = .ok (.bipush (-72), 2) := by decide +kernel
theorem dL_vote_19 : decode cL_vote 19 = .ok (.ireturn, 1) := by decide +kernel
theorem dL_vote_20 : decode cL_vote 20 = .ok (.astore 4, 2) := by decide +kernel
theorem dL_vote_22 : decode cL_vote 22 = .ok (.bipush (-73), 2) := by decide +kernel
theorem dL_vote_24 : decode cL_vote 24 = .ok (.ireturn, 1) := by decide +kernel
theorem dL_vote_25 : decode cL_vote 25 = .ok (.iload_n 3, 1) := by decide +kernel
theorem dL_vote_26 : decode cL_vote 26 = .ok (.ireturn, 1) := by decide +kernel
set_option maxRecDepth 20000 in
theorem ggL_closeVote_X1_closeVote : GoodIn wsL_closeVote wsX1_closeVote := goodIn_ca (goodIn_r _ [6, 7, 8, 9, 10, 5, 11, 12, 13, 14, 15, 16, 17, 18, 19, 20, 21, 22, 23, 24, 25, 26, 27, 28, 29, 30, 31, 32, 33, 34, 35, 36, 37, 38, 39, 40, 41, 42, 43, 44, 45, 46, 47, 48, 49, 50, 51, 52, 53, 54, 55, 56, 57, 58, 59, 60, 61] (by decide +kernel) (by decide +kernel)) (goodIn_sub (fun _ h => List.mem_cons_of_mem _ (List.mem_append_right _ h)) (by decide +kernel))
set_option maxRecDepth 20000 in
theorem gL_closeVote_X1_closeVote : GoodIn wsL_closeVote (wsV RL 33 RX1 yX1_closeVote wsX1_closeVote) := goodIn_app (goodIn_of _ (by decide +kernel)) ggL_closeVote_X1_closeVote
theorem dL_closeVote_0 : decode cL_closeVote 0 = .ok (.aload_n 0, 1) := by decide +kernel
theorem dL_closeVote_1 : decode cL_closeVote 1 = .ok (.invokevirtual 33, 3) := by decide +kernel
theorem dL_closeVote_4 : decode cL_closeVote 4 = .ok (.istore_n 1, 1) := by decide +kernel
theorem dL_closeVote_5 : decode cL_closeVote 5 = .ok (.goto 7, 3) := by decide +kernel
theorem dL_closeVote_8 : decode cL_closeVote 8 = .ok (.astore_n 2, 1) := by decide +kernel
theorem dL_closeVote_9 : decode cL_closeVote 9 = .ok (.bipush (-71), 2) := by decide +kernel
theorem dL_closeVote_11 : decode cL_closeVote 11 = .ok (.ireturn, 1) := by decide +kernel
theorem dL_closeVote_12 : decode cL_closeVote 12 = .ok (.iload_n 1, 1) := by decide +kernel
theorem dL_closeVote_13 : decode cL_closeVote 13 = .ok (.ireturn, 1) := by decide +kernel
set_option maxRecDepth 20000 in
theorem ggL_chooses_X1_protect : GoodIn wsL_chooses wsX1_protect := goodIn_ca (goodIn_ca (goodIn_ca (goodIn_r _ [8, 9, 10, 11, 12, 13, 14, 15, 16, 7, 17, 18, 19, 20, 21, 22, 23, 24, 25, 26, 27, 28, 29, 30, 31, 32, 33, 34, 35, 36, 37, 38, 39, 56, 57, 58, 59, 60, 61, 62, 63, 64, 65, 66, 67, 68, 69] (by decide +kernel) (by decide +kernel)) (goodIn_sub (fun _ h => List.mem_cons_of_mem _ (List.mem_append_left _ (List.mem_append_left _ (List.mem_append_right _ h)))) (by decide +kernel))) (goodIn_sub (fun _ h => List.mem_cons_of_mem _ (List.mem_append_left _ (List.mem_append_right _ h))) (by decide +kernel))) (goodIn_sub (fun _ h => List.mem_cons_of_mem _ (List.mem_append_right _ h)) (by decide +kernel))
set_option maxRecDepth 20000 in
theorem gL_chooses_X1_protect : GoodIn wsL_chooses (wsV RL 37 RX1 yX1_protect wsX1_protect) := goodIn_app (goodIn_of _ (by decide +kernel)) ggL_chooses_X1_protect
set_option maxRecDepth 20000 in
theorem ggL_chooses_X1_attack : GoodIn wsL_chooses wsX1_attack := goodIn_ca (goodIn_ca (goodIn_ca (goodIn_r _ [43, 9, 10, 44, 14, 15, 16, 7, 17, 18, 19, 20, 33, 34, 35, 36, 37, 38, 39, 25, 26, 27, 28, 29, 30, 31, 32, 45, 46, 47, 48, 49, 56, 57, 58, 59, 60, 61, 62, 63, 64, 65, 66, 67, 68, 69] (by decide +kernel) (by decide +kernel)) (goodIn_sub (fun _ h => List.mem_cons_of_mem _ (List.mem_append_left _ (List.mem_append_left _ (List.mem_append_right _ h)))) (by decide +kernel))) (goodIn_sub (fun _ h => List.mem_cons_of_mem _ (List.mem_append_left _ (List.mem_append_right _ h))) (by decide +kernel))) (goodIn_sub (fun _ h => List.mem_cons_of_mem _ (List.mem_append_right _ h)) (by decide +kernel))
set_option maxRecDepth 20000 in
theorem gL_chooses_X1_attack : GoodIn wsL_chooses (wsV RL 41 RX1 yX1_attack wsX1_attack) := goodIn_app (goodIn_of _ (by decide +kernel)) ggL_chooses_X1_attack
set_option maxRecDepth 20000 in
theorem ggL_chooses_X1_look : GoodIn wsL_chooses wsX1_look := goodIn_ca (goodIn_ca (goodIn_ca (goodIn_r _ [53, 9, 10, 54, 55, 14, 15, 16, 7, 17, 18, 19, 20, 21, 22, 23, 24, 25, 26, 27, 28, 29, 30, 31, 32, 33, 34, 35, 36, 37, 38, 39, 56, 57, 58, 59, 60, 61, 62, 63, 64, 65, 66, 67, 68, 69] (by decide +kernel) (by decide +kernel)) (goodIn_sub (fun _ h => List.mem_cons_of_mem _ (List.mem_append_left _ (List.mem_append_left _ (List.mem_append_right _ h)))) (by decide +kernel))) (goodIn_sub (fun _ h => List.mem_cons_of_mem _ (List.mem_append_left _ (List.mem_append_right _ h))) (by decide +kernel))) (goodIn_sub (fun _ h => List.mem_cons_of_mem _ (List.mem_append_right _ h)) (by decide +kernel))
set_option maxRecDepth 20000 in
theorem gL_chooses_X1_look : GoodIn wsL_chooses (wsV RL 44 RX1 yX1_look wsX1_look) := goodIn_app (goodIn_of _ (by decide +kernel)) ggL_chooses_X1_look
theorem dL_chooses_0 : decode cL_chooses 0 = .ok (.iload_n 1, 1) := by decide +kernel
theorem dL_chooses_1 : decode cL_chooses 1 = .ok (.ifCond .ne 11, 3) := by decide +kernel
theorem dL_chooses_4 : decode cL_chooses 4 = .ok (.aload_n 0, 1) := by decide +kernel
theorem dL_chooses_5 : decode cL_chooses 5 = .ok (.iload_n 2, 1) := by decide +kernel
theorem dL_chooses_6 : decode cL_chooses 6 = .ok (.invokevirtual 37, 3) := by decide +kernel
theorem dL_chooses_9 : decode cL_chooses 9 = .ok (.goto 21, 3) := by decide +kernel
theorem dL_chooses_12 : decode cL_chooses 12 = .ok (.iload_n 1, 1) := by decide +kernel
theorem dL_chooses_13 : decode cL_chooses 13 = .ok (.iconst 1, 1) := by decide +kernel
theorem dL_chooses_14 : decode cL_chooses 14 = .ok (.if_icmp .ne 11, 3) := by decide +kernel
theorem dL_chooses_17 : decode cL_chooses 17 = .ok (.aload_n 0, 1) := by decide +kernel
theorem dL_chooses_18 : decode cL_chooses 18 = .ok (.iload_n 2, 1) := by decide +kernel
theorem dL_chooses_19 : decode cL_chooses 19 = .ok (.invokevirtual 41, 3) := by decide +kernel
theorem dL_chooses_22 : decode cL_chooses 22 = .ok (.goto 8, 3) := by decide +kernel
theorem dL_chooses_25 : decode cL_chooses 25 = .ok (.aload_n 0, 1) := by decide +kernel
theorem dL_chooses_26 : decode cL_chooses 26 = .ok (.iload_n 2, 1) := by decide +kernel
theorem dL_chooses_27 : decode cL_chooses 27 = .ok (.invokevirtual 44, 3) := by decide +kernel
theorem dL_chooses_30 : decode cL_chooses 30 = .ok (.istore_n 3, 1) := by decide +kernel
theorem dL_chooses_31 : decode cL_chooses 31 = .ok (.goto 18, 3) := by decide +kernel
theorem dL_chooses_34 : decode cL_chooses 34 = .ok (.astore 4, 2) := by decide +kernel
theorem dL_chooses_36 : decode cL_chooses 36 = .ok (.bipush (-71), 2) := by decide +kernel
theorem dL_chooses_38 : decode cL_chooses 38 = .ok (.ireturn, 1) := by decide +kernel
theorem dL_chooses_39 : decode cL_chooses 39 = .ok (.astore 4, 2) := by decide +kernel
theorem dL_chooses_41 : decode cL_chooses 41 = .ok (.bipush (-72), 2) := by decide +kernel
theorem dL_chooses_43 : decode cL_chooses 43 = .ok (.ireturn, 1) := by decide +kernel
theorem dL_chooses_44 : decode cL_chooses 44 = .ok (.astore 4, 2) := by decide +kernel
theorem dL_chooses_46 : decode cL_chooses 46 = .ok (.bipush (-73), 2) := by decide +kernel
theorem dL_chooses_48 : decode cL_chooses 48 = .ok (.ireturn, 1) := by decide +kernel
theorem dL_chooses_49 : decode cL_chooses 49 = .ok (.iload_n 3, 1) := by decide +kernel
theorem dL_chooses_50 : decode cL_chooses 50 = .ok (.ireturn, 1) := by decide +kernel
set_option maxRecDepth 20000 in
theorem ggL_endNight_X1_endNight : GoodIn wsL_endNight wsX1_endNight := goodIn_ca (goodIn_r _ [6, 7, 8, 9, 10, 11, 12, 13, 14, 5, 15, 16, 17, 18, 19, 20, 21, 22, 23, 24, 25, 26, 27, 28, 29, 30, 31, 32, 33, 34, 35, 36, 37, 38, 39, 40, 41, 42, 43, 44, 45, 46, 47, 48, 49, 50, 51, 52, 53, 54, 55, 56, 57, 58, 59, 60, 61, 62] (by decide +kernel) (by decide +kernel)) (goodIn_sub (fun _ h => List.mem_cons_of_mem _ (List.mem_append_right _ h)) (by decide +kernel))
set_option maxRecDepth 20000 in
theorem gL_endNight_X1_endNight : GoodIn wsL_endNight (wsV RL 47 RX1 yX1_endNight wsX1_endNight) := goodIn_app (goodIn_of _ (by decide +kernel)) ggL_endNight_X1_endNight
theorem dL_endNight_0 : decode cL_endNight 0 = .ok (.aload_n 0, 1) := by decide +kernel
theorem dL_endNight_1 : decode cL_endNight 1 = .ok (.invokevirtual 47, 3) := by decide +kernel
theorem dL_endNight_4 : decode cL_endNight 4 = .ok (.istore_n 1, 1) := by decide +kernel
theorem dL_endNight_5 : decode cL_endNight 5 = .ok (.goto 7, 3) := by decide +kernel
theorem dL_endNight_8 : decode cL_endNight 8 = .ok (.astore_n 2, 1) := by decide +kernel
theorem dL_endNight_9 : decode cL_endNight 9 = .ok (.bipush (-71), 2) := by decide +kernel
theorem dL_endNight_11 : decode cL_endNight 11 = .ok (.ireturn, 1) := by decide +kernel
theorem dL_endNight_12 : decode cL_endNight 12 = .ok (.iload_n 1, 1) := by decide +kernel
theorem dL_endNight_13 : decode cL_endNight 13 = .ok (.ireturn, 1) := by decide +kernel
set_option maxRecDepth 20000 in
theorem ggL_worldsWith_X1_worldsWith : GoodIn wsL_worldsWith wsX1_worldsWith := goodIn_ca (goodIn_ca (goodIn_ca (goodIn_r _ [8, 9, 10, 11, 12, 13, 14, 7, 15, 16, 17, 18, 19, 20, 21, 22, 23, 24, 25, 26, 27, 28, 29, 30, 31, 32, 33, 34, 35, 36, 37, 38, 39, 40, 41, 42, 43, 44, 45, 46, 47, 48, 49, 50, 51, 52, 53, 54, 55, 56, 57, 58, 59, 60, 61, 62, 63, 64, 65, 66, 67, 68, 69, 70, 71, 72, 73, 74, 75, 76, 77, 78] (by decide +kernel) (by decide +kernel)) (goodIn_sub (fun _ h => List.mem_cons_of_mem _ (List.mem_append_left _ (List.mem_append_left _ (List.mem_append_right _ h)))) (by decide +kernel))) (goodIn_sub (fun _ h => List.mem_cons_of_mem _ (List.mem_append_left _ (List.mem_append_right _ h))) (by decide +kernel))) (goodIn_sub (fun _ h => List.mem_cons_of_mem _ (List.mem_append_right _ h)) (by decide +kernel))
set_option maxRecDepth 20000 in
theorem gL_worldsWith_X1_worldsWith : GoodIn wsL_worldsWith (wsV RL 50 RX1 yX1_worldsWith wsX1_worldsWith) := goodIn_app (goodIn_of _ (by decide +kernel)) ggL_worldsWith_X1_worldsWith
theorem dL_worldsWith_0 : decode cL_worldsWith 0 = .ok (.aload_n 0, 1) := by decide +kernel
theorem dL_worldsWith_1 : decode cL_worldsWith 1 = .ok (.iload_n 1, 1) := by decide +kernel
theorem dL_worldsWith_2 : decode cL_worldsWith 2 = .ok (.iload_n 2, 1) := by decide +kernel
theorem dL_worldsWith_3 : decode cL_worldsWith 3 = .ok (.iload_n 3, 1) := by decide +kernel
theorem dL_worldsWith_4 : decode cL_worldsWith 4 = .ok (.invokevirtual 50, 3) := by decide +kernel
theorem dL_worldsWith_7 : decode cL_worldsWith 7 = .ok (.istore 4, 2) := by decide +kernel
theorem dL_worldsWith_9 : decode cL_worldsWith 9 = .ok (.goto 18, 3) := by decide +kernel
theorem dL_worldsWith_12 : decode cL_worldsWith 12 = .ok (.astore 5, 2) := by decide +kernel
theorem dL_worldsWith_14 : decode cL_worldsWith 14 = .ok (.bipush (-71), 2) := by decide +kernel
theorem dL_worldsWith_16 : decode cL_worldsWith 16 = .ok (.ireturn, 1) := by decide +kernel
theorem dL_worldsWith_17 : decode cL_worldsWith 17 = .ok (.astore 5, 2) := by decide +kernel
theorem dL_worldsWith_19 : decode cL_worldsWith 19 = .ok (.bipush (-72), 2) := by decide +kernel
theorem dL_worldsWith_21 : decode cL_worldsWith 21 = .ok (.ireturn, 1) := by decide +kernel
theorem dL_worldsWith_22 : decode cL_worldsWith 22 = .ok (.astore 5, 2) := by decide +kernel
theorem dL_worldsWith_24 : decode cL_worldsWith 24 = .ok (.bipush (-73), 2) := by decide +kernel
theorem dL_worldsWith_26 : decode cL_worldsWith 26 = .ok (.ireturn, 1) := by decide +kernel
theorem dL_worldsWith_27 : decode cL_worldsWith 27 = .ok (.iload 4, 2) := by decide +kernel
theorem dL_worldsWith_29 : decode cL_worldsWith 29 = .ok (.ireturn, 1) := by decide +kernel
set_option maxRecDepth 20000 in
theorem ggL_worlds_X1_worlds : GoodIn wsL_worlds wsX1_worlds := goodIn_ca (goodIn_ca (goodIn_r _ [7, 8, 9, 10, 11, 6, 12, 13, 14, 15, 16, 17, 18, 19, 20, 21, 22, 23, 24, 25, 26, 27, 28, 29, 30, 31, 32, 33, 34, 35, 36, 37, 38, 39, 40, 41, 42, 43, 44, 45, 46, 47, 48, 49, 50, 51, 52, 53, 54, 55, 56, 57, 58, 59, 60, 61, 62, 63, 64, 65, 66, 67, 68, 69, 70, 71, 72, 73] (by decide +kernel) (by decide +kernel)) (goodIn_sub (fun _ h => List.mem_cons_of_mem _ (List.mem_append_left _ (List.mem_append_right _ h))) (by decide +kernel))) (goodIn_sub (fun _ h => List.mem_cons_of_mem _ (List.mem_append_right _ h)) (by decide +kernel))
set_option maxRecDepth 20000 in
theorem gL_worlds_X1_worlds : GoodIn wsL_worlds (wsV RL 53 RX1 yX1_worlds wsX1_worlds) := goodIn_app (goodIn_of _ (by decide +kernel)) ggL_worlds_X1_worlds
theorem dL_worlds_0 : decode cL_worlds 0 = .ok (.aload_n 0, 1) := by decide +kernel
theorem dL_worlds_1 : decode cL_worlds 1 = .ok (.iload_n 1, 1) := by decide +kernel
theorem dL_worlds_2 : decode cL_worlds 2 = .ok (.invokevirtual 53, 3) := by decide +kernel
theorem dL_worlds_5 : decode cL_worlds 5 = .ok (.istore_n 2, 1) := by decide +kernel
theorem dL_worlds_6 : decode cL_worlds 6 = .ok (.goto 11, 3) := by decide +kernel
theorem dL_worlds_9 : decode cL_worlds 9 = .ok (.astore_n 3, 1) := by decide +kernel
theorem dL_worlds_10 : decode cL_worlds 10 = .ok (.bipush (-71), 2) := by decide +kernel
theorem dL_worlds_12 : decode cL_worlds 12 = .ok (.ireturn, 1) := by decide +kernel
theorem dL_worlds_13 : decode cL_worlds 13 = .ok (.astore_n 3, 1) := by decide +kernel
theorem dL_worlds_14 : decode cL_worlds 14 = .ok (.bipush (-72), 2) := by decide +kernel
theorem dL_worlds_16 : decode cL_worlds 16 = .ok (.ireturn, 1) := by decide +kernel
theorem dL_worlds_17 : decode cL_worlds 17 = .ok (.iload_n 2, 1) := by decide +kernel
theorem dL_worlds_18 : decode cL_worlds 18 = .ok (.ireturn, 1) := by decide +kernel
set_option maxRecDepth 20000 in
theorem ggL_isPossible_X1_isPossible : GoodIn wsL_isPossible wsX1_isPossible := goodIn_ca (goodIn_ca (goodIn_r _ [7, 8, 9, 10, 11, 6, 12, 13, 14, 15, 16, 17, 18, 19, 20, 21, 22, 23, 24, 25, 26, 27, 28, 29, 30, 31, 32, 33, 34, 35, 36, 37, 38, 39, 40, 41, 42, 43, 44, 45, 46, 47, 48, 49, 50, 51, 52, 53, 54, 55, 56, 57, 58, 59, 60, 61, 62, 63, 64, 65, 66, 67, 68, 69, 70, 71, 72, 73, 74, 75, 76] (by decide +kernel) (by decide +kernel)) (goodIn_sub (fun _ h => List.mem_cons_of_mem _ (List.mem_append_left _ (List.mem_append_right _ h))) (by decide +kernel))) (goodIn_sub (fun _ h => List.mem_cons_of_mem _ (List.mem_append_right _ h)) (by decide +kernel))
set_option maxRecDepth 20000 in
theorem gL_isPossible_X1_isPossible : GoodIn wsL_isPossible (wsV RL 56 RX1 yX1_isPossible wsX1_isPossible) := goodIn_app (goodIn_of _ (by decide +kernel)) ggL_isPossible_X1_isPossible
theorem dL_isPossible_0 : decode cL_isPossible 0 = .ok (.aload_n 0, 1) := by decide +kernel
theorem dL_isPossible_1 : decode cL_isPossible 1 = .ok (.iload_n 1, 1) := by decide +kernel
theorem dL_isPossible_2 : decode cL_isPossible 2 = .ok (.iload_n 2, 1) := by decide +kernel
theorem dL_isPossible_3 : decode cL_isPossible 3 = .ok (.iload_n 3, 1) := by decide +kernel
theorem dL_isPossible_4 : decode cL_isPossible 4 = .ok (.iload 4, 2) := by decide +kernel
theorem dL_isPossible_6 : decode cL_isPossible 6 = .ok (.invokevirtual 56, 3) := by decide +kernel
theorem dL_isPossible_9 : decode cL_isPossible 9 = .ok (.istore 5, 2) := by decide +kernel
theorem dL_isPossible_11 : decode cL_isPossible 11 = .ok (.goto 13, 3) := by decide +kernel
theorem dL_isPossible_14 : decode cL_isPossible 14 = .ok (.astore 6, 2) := by decide +kernel
theorem dL_isPossible_16 : decode cL_isPossible 16 = .ok (.bipush (-71), 2) := by decide +kernel
theorem dL_isPossible_18 : decode cL_isPossible 18 = .ok (.ireturn, 1) := by decide +kernel
theorem dL_isPossible_19 : decode cL_isPossible 19 = .ok (.astore 6, 2) := by decide +kernel
theorem dL_isPossible_21 : decode cL_isPossible 21 = .ok (.bipush (-72), 2) := by decide +kernel
theorem dL_isPossible_23 : decode cL_isPossible 23 = .ok (.ireturn, 1) := by decide +kernel
theorem dL_isPossible_24 : decode cL_isPossible 24 = .ok (.iload 5, 2) := by decide +kernel
theorem dL_isPossible_26 : decode cL_isPossible 26 = .ok (.ifCond .eq 7, 3) := by decide +kernel
theorem dL_isPossible_29 : decode cL_isPossible 29 = .ok (.iconst 1, 1) := by decide +kernel
theorem dL_isPossible_30 : decode cL_isPossible 30 = .ok (.goto 4, 3) := by decide +kernel
theorem dL_isPossible_33 : decode cL_isPossible 33 = .ok (.iconst 0, 1) := by decide +kernel
theorem dL_isPossible_34 : decode cL_isPossible 34 = .ok (.ireturn, 1) := by decide +kernel
theorem dL_has_0 : decode cL_has 0 = .ok (.iload_n 1, 1) := by decide +kernel
theorem dL_has_1 : decode cL_has 1 = .ok (.ifCond .lt 16, 3) := by decide +kernel
theorem dL_has_4 : decode cL_has 4 = .ok (.iload_n 0, 1) := by decide +kernel
theorem dL_has_5 : decode cL_has 5 = .ok (.iload_n 1, 1) := by decide +kernel
theorem dL_has_6 : decode cL_has 6 = .ok (.ishr, 1) := by decide +kernel
theorem dL_has_7 : decode cL_has 7 = .ok (.iconst 1, 1) := by decide +kernel
theorem dL_has_8 : decode cL_has 8 = .ok (.iand, 1) := by decide +kernel
theorem dL_has_9 : decode cL_has 9 = .ok (.iconst 1, 1) := by decide +kernel
theorem dL_has_10 : decode cL_has 10 = .ok (.if_icmp .ne 7, 3) := by decide +kernel
theorem dL_has_13 : decode cL_has 13 = .ok (.iconst 1, 1) := by decide +kernel
theorem dL_has_14 : decode cL_has 14 = .ok (.goto 4, 3) := by decide +kernel
theorem dL_has_17 : decode cL_has 17 = .ok (.iconst 0, 1) := by decide +kernel
theorem dL_has_18 : decode cL_has 18 = .ok (.ireturn, 1) := by decide +kernel
theorem dL_many_0 : decode cL_many 0 = .ok (.iconst 0, 1) := by decide +kernel
theorem dL_many_1 : decode cL_many 1 = .ok (.istore_n 1, 1) := by decide +kernel
theorem dL_many_2 : decode cL_many 2 = .ok (.iload_n 0, 1) := by decide +kernel
theorem dL_many_3 : decode cL_many 3 = .ok (.istore_n 2, 1) := by decide +kernel
theorem dL_many_4 : decode cL_many 4 = .ok (.iload_n 2, 1) := by decide +kernel
theorem dL_many_5 : decode cL_many 5 = .ok (.ifCond .eq 15, 3) := by decide +kernel
theorem dL_many_8 : decode cL_many 8 = .ok (.iinc 1 1, 3) := by decide +kernel
theorem dL_many_11 : decode cL_many 11 = .ok (.iload_n 2, 1) := by decide +kernel
theorem dL_many_12 : decode cL_many 12 = .ok (.iload_n 2, 1) := by decide +kernel
theorem dL_many_13 : decode cL_many 13 = .ok (.iconst 1, 1) := by decide +kernel
theorem dL_many_14 : decode cL_many 14 = .ok (.isub, 1) := by decide +kernel
theorem dL_many_15 : decode cL_many 15 = .ok (.iand, 1) := by decide +kernel
theorem dL_many_16 : decode cL_many 16 = .ok (.istore_n 2, 1) := by decide +kernel
theorem dL_many_17 : decode cL_many 17 = .ok (.goto (-13), 3) := by decide +kernel
theorem dL_many_20 : decode cL_many 20 = .ok (.iload_n 1, 1) := by decide +kernel
theorem dL_many_21 : decode cL_many 21 = .ok (.ireturn, 1) := by decide +kernel
set_option maxRecDepth 20000 in
theorem ggL_role_L_has : GoodIn wsL_role wsL_has := goodIn_r _ [4] (by decide +kernel) (by decide +kernel)
set_option maxRecDepth 20000 in
theorem gL_role_L_has : GoodIn wsL_role (va_wsS RL 60 yL_has wsL_has) := goodIn_app (goodIn_of _ (by decide +kernel)) ggL_role_L_has
theorem dL_role_0 : decode cL_role 0 = .ok (.iload_n 0, 1) := by decide +kernel
theorem dL_role_1 : decode cL_role 1 = .ok (.iload_n 3, 1) := by decide +kernel
theorem dL_role_2 : decode cL_role 2 = .ok (.invokestatic 60, 3) := by decide +kernel
theorem dL_role_5 : decode cL_role 5 = .ok (.ifCond .eq 7, 3) := by decide +kernel
theorem dL_role_8 : decode cL_role 8 = .ok (.iconst 1, 1) := by decide +kernel
theorem dL_role_9 : decode cL_role 9 = .ok (.goto 22, 3) := by decide +kernel
theorem dL_role_12 : decode cL_role 12 = .ok (.iload_n 3, 1) := by decide +kernel
theorem dL_role_13 : decode cL_role 13 = .ok (.iload_n 1, 1) := by decide +kernel
theorem dL_role_14 : decode cL_role 14 = .ok (.if_icmp .ne 7, 3) := by decide +kernel
theorem dL_role_17 : decode cL_role 17 = .ok (.iconst 2, 1) := by decide +kernel
theorem dL_role_18 : decode cL_role 18 = .ok (.goto 13, 3) := by decide +kernel
theorem dL_role_21 : decode cL_role 21 = .ok (.iload_n 3, 1) := by decide +kernel
theorem dL_role_22 : decode cL_role 22 = .ok (.iload_n 2, 1) := by decide +kernel
theorem dL_role_23 : decode cL_role 23 = .ok (.if_icmp .ne 7, 3) := by decide +kernel
theorem dL_role_26 : decode cL_role 26 = .ok (.iconst 3, 1) := by decide +kernel
theorem dL_role_27 : decode cL_role 27 = .ok (.goto 4, 3) := by decide +kernel
theorem dL_role_30 : decode cL_role 30 = .ok (.iconst 0, 1) := by decide +kernel
theorem dL_role_31 : decode cL_role 31 = .ok (.ireturn, 1) := by decide +kernel
