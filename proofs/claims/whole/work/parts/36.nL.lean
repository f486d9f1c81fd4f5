theorem dL_start_0 : decode cL_start 0 = .ok (.aload 5, 2) := by decide +kernel
theorem dL_start_2 : decode cL_start 2 = .ok (.iconst 0, 1) := by decide +kernel
theorem dL_start_3 : decode cL_start 3 = .ok (.aload_n 0, 1) := by decide +kernel
theorem dL_start_4 : decode cL_start 4 = .ok (.iload_n 1, 1) := by decide +kernel
theorem dL_start_5 : decode cL_start 5 = .ok (.iload_n 2, 1) := by decide +kernel
theorem dL_start_6 : decode cL_start 6 = .ok (.iload_n 3, 1) := by decide +kernel
theorem dL_start_7 : decode cL_start 7 = .ok (.iload 4, 2) := by decide +kernel
theorem dL_start_9 : decode cL_start 9 = .ok (.invokevirtual 7, 3) := by decide +kernel
theorem dL_start_12 : decode cL_start 12 = .ok (.i2l, 1) := by decide +kernel
theorem dL_start_13 : decode cL_start 13 = .ok (.lastore, 1) := by decide +kernel
theorem dL_start_14 : decode cL_start 14 = .ok (.goto 7, 3) := by decide +kernel
theorem dL_start_17 : decode cL_start 17 = .ok (.astore 6, 2) := by decide +kernel
theorem dL_start_19 : decode cL_start 19 = .ok (.iconst 1, 1) := by decide +kernel
theorem dL_start_20 : decode cL_start 20 = .ok (.ireturn, 1) := by decide +kernel
theorem dL_start_21 : decode cL_start 21 = .ok (.iconst 0, 1) := by decide +kernel
theorem dL_start_22 : decode cL_start 22 = .ok (.ireturn, 1) := by decide +kernel
set_option maxRecDepth 20000 in
theorem ggL_claim_X1_claim : GoodIn wsL_claim wsX1_claim := goodIn_ca (goodIn_ca (goodIn_ca (goodIn_ca (goodIn_r _ [9, 10, 11, 12, 13, 14, 8, 15, 16, 17, 18, 19, 20, 21, 22, 23, 24, 25, 26, 27, 28, 29, 30, 31, 32, 33, 34, 35, 36, 37, 38, 39, 40, 41, 42, 43, 44, 45, 46, 47, 48, 49, 50, 51, 52, 53, 54, 55, 56, 57, 58, 59, 60, 61, 62, 63, 64, 65, 66, 67, 68, 69, 70, 71, 72, 73, 74, 75, 76, 77, 78, 79, 80, 81, 82, 83, 84, 85, 86, 87, 88, 89, 90, 91, 92, 93, 94, 95, 96, 97, 98] (by decide +kernel) (by decide +kernel)) (goodIn_sub (fun _ h => List.mem_cons_of_mem _ (List.mem_append_left _ (List.mem_append_left _ (List.mem_append_left _ (List.mem_append_right _ h))))) (by decide +kernel))) (goodIn_sub (fun _ h => List.mem_cons_of_mem _ (List.mem_append_left _ (List.mem_append_left _ (List.mem_append_right _ h)))) (by decide +kernel))) (goodIn_sub (fun _ h => List.mem_cons_of_mem _ (List.mem_append_left _ (List.mem_append_right _ h))) (by decide +kernel))) (goodIn_sub (fun _ h => List.mem_cons_of_mem _ (List.mem_append_right _ h)) (by decide +kernel))
set_option maxRecDepth 20000 in
theorem gL_claim_X1_claim : GoodIn wsL_claim (wsV RL 15 RX1 yX1_claim wsX1_claim) := goodIn_app (goodIn_of _ (by decide +kernel)) ggL_claim_X1_claim
theorem dL_claim_0 : decode cL_claim 0 = .ok (.aload 4, 2) := by decide +kernel
theorem dL_claim_2 : decode cL_claim 2 = .ok (.iconst 0, 1) := by decide +kernel
theorem dL_claim_3 : decode cL_claim 3 = .ok (.aload_n 0, 1) := by decide +kernel
theorem dL_claim_4 : decode cL_claim 4 = .ok (.iload_n 1, 1) := by decide +kernel
theorem dL_claim_5 : decode cL_claim 5 = .ok (.iload_n 2, 1) := by decide +kernel
theorem dL_claim_6 : decode cL_claim 6 = .ok (.iload_n 3, 1) := by decide +kernel
theorem dL_claim_7 : decode cL_claim 7 = .ok (.invokevirtual 15, 3) := by decide +kernel
theorem dL_claim_10 : decode cL_claim 10 = .ok (.i2l, 1) := by decide +kernel
theorem dL_claim_11 : decode cL_claim 11 = .ok (.lastore, 1) := by decide +kernel
theorem dL_claim_12 : decode cL_claim 12 = .ok (.goto 19, 3) := by decide +kernel
theorem dL_claim_15 : decode cL_claim 15 = .ok (.astore 5, 2) := by decide +kernel
theorem dL_claim_17 : decode cL_claim 17 = .ok (.iconst 1, 1) := by decide +kernel
theorem dL_claim_18 : decode cL_claim 18 = .ok (.ireturn, 1) := by decide +kernel
theorem dL_claim_19 : decode cL_claim 19 = .ok (.astore 5, 2) := by decide +kernel
theorem dL_claim_21 : decode cL_claim 21 = .ok (.iconst 2, 1) := by decide +kernel
theorem dL_claim_22 : decode cL_claim 22 = .ok (.ireturn, 1) := by decide +kernel
theorem dL_claim_23 : decode cL_claim 23 = .ok (.astore 5, 2) := by decide +kernel
theorem dL_claim_25 : decode cL_claim 25 = .ok (.iconst 3, 1) := by decide +kernel
theorem dL_claim_26 : decode cL_claim 26 = .ok (.ireturn, 1) := by decide +kernel
theorem dL_claim_27 : decode cL_claim 27 = .ok (.astore 5, 2) := by decide +kernel
theorem dL_claim_29 : decode cL_claim 29 = .ok (.iconst 4, 1) := by decide +kernel
theorem dL_claim_30 : decode cL_claim 30 = .ok (.ireturn, 1) := by decide +kernel
theorem dL_claim_31 : decode cL_claim 31 = .ok (.iconst 0, 1) := by decide +kernel
theorem dL_claim_32 : decode cL_claim 32 = .ok (.ireturn, 1) := by decide +kernel
set_option maxRecDepth 20000 in
theorem ggL_claimAmong_X1_claimAmong : GoodIn wsL_claimAmong wsX1_claimAmong := goodIn_ca (goodIn_ca (goodIn_ca (goodIn_ca (goodIn_r _ [9, 10, 11, 12, 13, 14, 15, 8, 16, 17, 18, 19, 20, 21, 22, 23, 24, 25, 26, 27, 28, 29, 30, 31, 32, 33, 34, 35, 36, 37, 38, 39, 40, 41, 42, 43, 44, 45, 46, 47, 48, 49, 50, 51, 52, 53, 54, 55, 56, 57, 58, 59, 60, 61, 62, 63, 64, 65, 66, 67, 68, 69, 70, 71, 72, 73, 74, 75, 76, 77, 78, 79, 80, 81, 82, 83, 84, 85, 86, 87, 88, 89, 90, 91, 92] (by decide +kernel) (by decide +kernel)) (goodIn_sub (fun _ h => List.mem_cons_of_mem _ (List.mem_append_left _ (List.mem_append_left _ (List.mem_append_left _ (List.mem_append_right _ h))))) (by decide +kernel))) (goodIn_sub (fun _ h => List.mem_cons_of_mem _ (List.mem_append_left _ (List.mem_append_left _ (List.mem_append_right _ h)))) (by decide +kernel))) (goodIn_sub (fun _ h => List.mem_cons_of_mem _ (List.mem_append_left _ (List.mem_append_right _ h))) (by decide +kernel))) (goodIn_sub (fun _ h => List.mem_cons_of_mem _ (List.mem_append_right _ h)) (by decide +kernel))
set_option maxRecDepth 20000 in
theorem gL_claimAmong_X1_claimAmong : GoodIn wsL_claimAmong (wsV RL 25 RX1 yX1_claimAmong wsX1_claimAmong) := goodIn_app (goodIn_of _ (by decide +kernel)) ggL_claimAmong_X1_claimAmong
theorem dL_claimAmong_0 : decode cL_claimAmong 0 = .ok (.aload_n 3, 1) := by decide +kernel
theorem dL_claimAmong_1 : decode cL_claimAmong 1 = .ok (.iconst 0, 1) := by decide +kernel
theorem dL_claimAmong_2 : decode cL_claimAmong 2 = .ok (.aload_n 0, 1) := by decide +kernel
theorem dL_claimAmong_3 : decode cL_claimAmong 3 = .ok (.iload_n 1, 1) := by decide +kernel
theorem dL_claimAmong_4 : decode cL_claimAmong 4 = .ok (.iload_n 2, 1) := by decide +kernel
theorem dL_claimAmong_5 : decode cL_claimAmong 5 = .ok (.invokevirtual 25, 3) := by decide +kernel
theorem dL_claimAmong_8 : decode cL_claimAmong 8 = .ok (.i2l, 1) := by decide +kernel
theorem dL_claimAmong_9 : decode cL_claimAmong 9 = .ok (.lastore, 1) := by decide +kernel
theorem dL_claimAmong_10 : decode cL_claimAmong 10 = .ok (.goto 19, 3) := by decide +kernel
theorem dL_claimAmong_13 : decode cL_claimAmong 13 = .ok (.astore 4, 2) := by decide +kernel
theorem dL_claimAmong_15 : decode cL_claimAmong 15 = .ok (.iconst 1, 1) := by decide +kernel
theorem dL_claimAmong_16 : decode cL_claimAmong 16 = .ok (.ireturn, 1) := by decide +kernel
theorem dL_claimAmong_17 : decode cL_claimAmong 17 = .ok (.astore 4, 2) := by decide +kernel
theorem dL_claimAmong_19 : decode cL_claimAmong 19 = .ok (.iconst 2, 1) := by decide +kernel
theorem dL_claimAmong_20 : decode cL_claimAmong 20 = .ok (.ireturn, 1) := by decide +kernel
theorem dL_claimAmong_21 : decode cL_claimAmong 21 = .ok (.astore 4, 2) := by decide +kernel
theorem dL_claimAmong_23 : decode cL_claimAmong 23 = .ok (.iconst 3, 1) := by decide +kernel
theorem dL_claimAmong_24 : decode cL_claimAmong 24 = .ok (.ireturn, 1) := by decide +kernel
theorem dL_claimAmong_25 : decode cL_claimAmong 25 = .ok (.astore 4, 2) := by decide +kernel
theorem dL_claimAmong_27 : decode cL_claimAmong 27 = .ok (.iconst 4, 1) := by decide +kernel
theorem dL_claimAmong_28 : decode cL_claimAmong 28 = .ok (.ireturn, 1) := by decide +kernel
theorem dL_claimAmong_29 : decode cL_claimAmong 29 = .ok (.iconst 0, 1) := by decide +kernel
theorem dL_claimAmong_30 : decode cL_claimAmong 30 = .ok (.ireturn, 1) := by decide +kernel
set_option maxRecDepth 20000 in
theorem ggL_vote_X1_vote : GoodIn wsL_vote wsX1_vote := goodIn_ca (goodIn_ca (goodIn_ca (goodIn_r _ [8, 9, 10, 11, 12, 13, 14, 7, 15, 16, 17, 18, 19, 20, 21, 22, 23, 24, 25, 26, 27, 28, 29, 30, 31, 32, 33, 34, 35, 36, 37, 38, 39, 40, 41, 42, 43, 44, 45, 46, 47, 48, 49, 50, 51] (by decide +kernel) (by decide +kernel)) (goodIn_sub (fun _ h => List.mem_cons_of_mem _ (List.mem_append_left _ (List.mem_append_left _ (List.mem_append_right _ h)))) (by decide +kernel))) (goodIn_sub (fun _ h => List.mem_cons_of_mem _ (List.mem_append_left _ (List.mem_append_right _ h))) (by decide +kernel))) (goodIn_sub (fun _ h => List.mem_cons_of_mem _ (List.mem_append_right _ h)) (by decide +kernel))
set_option maxRecDepth 20000 in
theorem gL_vote_X1_vote : GoodIn wsL_vote (wsV RL 29 RX1 yX1_vote wsX1_vote) := goodIn_app (goodIn_of _ (by decide +kernel)) ggL_vote_X1_vote
theorem dL_vote_0 : decode cL_vote 0 = .ok (.aload_n 3, 1) := by decide +kernel
theorem dL_vote_1 : decode cL_vote 1 = .ok (.iconst 0, 1) := by decide +kernel
theorem dL_vote_2 : decode cL_vote 2 = .ok (.aload_n 0, 1) := by decide +kernel
theorem dL_vote_3 : decode cL_vote 3 = .ok (.iload_n 1, 1) := by decide +kernel
theorem dL_vote_4 : decode cL_vote 4 = .ok (.iload_n 2, 1) := by decide +kernel
theorem dL_vote_5 : decode cL_vote 5 = .ok (.invokevirtual 29, 3) := by decide +kernel
theorem dL_vote_8 : decode cL_vote 8 = .ok (.i2l, 1) := by decide +kernel
theorem dL_vote_9 : decode cL_vote 9 = .ok (.lastore, 1) := by decide +kernel
theorem dL_vote_10 : decode cL_vote 10 = .ok (.goto 15, 3) := by decide +kernel
theorem dL_vote_13 : decode cL_vote 13 = .ok (.astore 4, 2) := by decide +kernel
theorem dL_vote_15 : decode cL_vote 15 = .ok (.iconst 1, 1) := by decide +kernel
theorem dL_vote_16 : decode cL_vote 16 = .ok (.ireturn, 1) := by decide +kernel
theorem dL_vote_17 : decode cL_vote 17 = .ok (.astore 4, 2) := by decide +kernel
theorem dL_vote_19 : decode cL_vote 19 = .ok (.iconst 2, 1) := by decide +kernel
theorem dL_vote_20 : decode cL_vote 20 = .ok (.ireturn, 1) := by decide +kernel
theorem dL_vote_21 : decode cL_vote 21 = .ok (.astore 4, 2) := by decide +kernel
theorem dL_vote_23 : decode cL_vote 23 = .ok (.iconst 3, 1) := by decide +kernel
theorem dL_vote_24 : decode cL_vote 24 = .ok (.ireturn, 1) := by decide +kernel
theorem dL_vote_25 : decode cL_vote 25 = .ok (.iconst 0, 1) := by decide +kernel
theorem dL_vote_26 : decode cL_vote 26 = .ok (.ireturn, 1) := by decide +kernel
set_option maxRecDepth 20000 in
theorem ggL_closeVote_X1_closeVote : GoodIn wsL_closeVote wsX1_closeVote := goodIn_ca (goodIn_r _ [6, 7, 8, 9, 10, 5, 11, 12, 13, 14, 15, 16, 17, 18, 19, 20, 21, 22, 23, 24, 25, 26, 27, 28, 29, 30, 31, 32, 33, 34, 35, 36, 37, 38, 39, 40, 41, 42, 43, 44, 45, 46, 47, 48, 49, 50, 51, 52, 53, 54, 55, 56, 57, 58, 59, 60, 61] (by decide +kernel) (by decide +kernel)) (goodIn_sub (fun _ h => List.mem_cons_of_mem _ (List.mem_append_right _ h)) (by decide +kernel))
set_option maxRecDepth 20000 in
theorem gL_closeVote_X1_closeVote : GoodIn wsL_closeVote (wsV RL 32 RX1 yX1_closeVote wsX1_closeVote) := goodIn_app (goodIn_of _ (by decide +kernel)) ggL_closeVote_X1_closeVote
theorem dL_closeVote_0 : decode cL_closeVote 0 = .ok (.aload_n 1, 1) := by decide +kernel
theorem dL_closeVote_1 : decode cL_closeVote 1 = .ok (.iconst 0, 1) := by decide +kernel
theorem dL_closeVote_2 : decode cL_closeVote 2 = .ok (.aload_n 0, 1) := by decide +kernel
theorem dL_closeVote_3 : decode cL_closeVote 3 = .ok (.invokevirtual 32, 3) := by decide +kernel
theorem dL_closeVote_6 : decode cL_closeVote 6 = .ok (.i2l, 1) := by decide +kernel
theorem dL_closeVote_7 : decode cL_closeVote 7 = .ok (.lastore, 1) := by decide +kernel
theorem dL_closeVote_8 : decode cL_closeVote 8 = .ok (.goto 6, 3) := by decide +kernel
theorem dL_closeVote_11 : decode cL_closeVote 11 = .ok (.astore_n 2, 1) := by decide +kernel
theorem dL_closeVote_12 : decode cL_closeVote 12 = .ok (.iconst 1, 1) := by decide +kernel
theorem dL_closeVote_13 : decode cL_closeVote 13 = .ok (.ireturn, 1) := by decide +kernel
theorem dL_closeVote_14 : decode cL_closeVote 14 = .ok (.iconst 0, 1) := by decide +kernel
theorem dL_closeVote_15 : decode cL_closeVote 15 = .ok (.ireturn, 1) := by decide +kernel
set_option maxRecDepth 20000 in
theorem ggL_protect_X1_protect : GoodIn wsL_protect wsX1_protect := goodIn_ca (goodIn_ca (goodIn_ca (goodIn_r _ [8, 9, 10, 11, 12, 13, 14, 15, 16, 7, 17, 18, 19, 20, 21, 22, 23, 24, 25, 26, 27, 28, 29, 30, 31, 32, 33, 34, 35, 36, 37, 38, 39, 40, 41, 42, 43, 44, 45, 46, 47, 48, 49, 50, 51, 52, 53] (by decide +kernel) (by decide +kernel)) (goodIn_sub (fun _ h => List.mem_cons_of_mem _ (List.mem_append_left _ (List.mem_append_left _ (List.mem_append_right _ h)))) (by decide +kernel))) (goodIn_sub (fun _ h => List.mem_cons_of_mem _ (List.mem_append_left _ (List.mem_append_right _ h))) (by decide +kernel))) (goodIn_sub (fun _ h => List.mem_cons_of_mem _ (List.mem_append_right _ h)) (by decide +kernel))
set_option maxRecDepth 20000 in
theorem gL_protect_X1_protect : GoodIn wsL_protect (wsV RL 36 RX1 yX1_protect wsX1_protect) := goodIn_app (goodIn_of _ (by decide +kernel)) ggL_protect_X1_protect
theorem dL_protect_0 : decode cL_protect 0 = .ok (.aload_n 2, 1) := by decide +kernel
theorem dL_protect_1 : decode cL_protect 1 = .ok (.iconst 0, 1) := by decide +kernel
theorem dL_protect_2 : decode cL_protect 2 = .ok (.aload_n 0, 1) := by decide +kernel
theorem dL_protect_3 : decode cL_protect 3 = .ok (.iload_n 1, 1) := by decide +kernel
theorem dL_protect_4 : decode cL_protect 4 = .ok (.invokevirtual 36, 3) := by decide +kernel
theorem dL_protect_7 : decode cL_protect 7 = .ok (.i2l, 1) := by decide +kernel
theorem dL_protect_8 : decode cL_protect 8 = .ok (.lastore, 1) := by decide +kernel
theorem dL_protect_9 : decode cL_protect 9 = .ok (.goto 12, 3) := by decide +kernel
theorem dL_protect_12 : decode cL_protect 12 = .ok (.astore_n 3, 1) := by decide +kernel
theorem dL_protect_13 : decode cL_protect 13 = .ok (.iconst 1, 1) := by decide +kernel
theorem dL_protect_14 : decode cL_protect 14 = .ok (.ireturn, 1) := by decide +kernel
theorem dL_protect_15 : decode cL_protect 15 = .ok (.astore_n 3, 1) := by decide +kernel
theorem dL_protect_16 : decode cL_protect 16 = .ok (.iconst 2, 1) := by decide +kernel
theorem dL_protect_17 : decode cL_protect 17 = .ok (.ireturn, 1) := by decide +kernel
theorem dL_protect_18 : decode cL_protect 18 = .ok (.astore_n 3, 1) := by decide +kernel
theorem dL_protect_19 : decode cL_protect 19 = .ok (.iconst 3, 1) := by decide +kernel
theorem dL_protect_20 : decode cL_protect 20 = .ok (.ireturn, 1) := by decide +kernel
theorem dL_protect_21 : decode cL_protect 21 = .ok (.iconst 0, 1) := by decide +kernel
theorem dL_protect_22 : decode cL_protect 22 = .ok (.ireturn, 1) := by decide +kernel
set_option maxRecDepth 20000 in
theorem ggL_attack_X1_attack : GoodIn wsL_attack wsX1_attack := goodIn_ca (goodIn_ca (goodIn_ca (goodIn_r _ [8, 9, 10, 11, 12, 13, 14, 7, 15, 16, 17, 18, 19, 20, 21, 22, 23, 24, 25, 26, 27, 28, 29, 30, 31, 32, 33, 34, 35, 36, 37, 38, 39, 40, 41, 42, 43, 44, 45, 46, 47, 48, 49, 50, 51, 52] (by decide +kernel) (by decide +kernel)) (goodIn_sub (fun _ h => List.mem_cons_of_mem _ (List.mem_append_left _ (List.mem_append_left _ (List.mem_append_right _ h)))) (by decide +kernel))) (goodIn_sub (fun _ h => List.mem_cons_of_mem _ (List.mem_append_left _ (List.mem_append_right _ h))) (by decide +kernel))) (goodIn_sub (fun _ h => List.mem_cons_of_mem _ (List.mem_append_right _ h)) (by decide +kernel))
set_option maxRecDepth 20000 in
theorem gL_attack_X1_attack : GoodIn wsL_attack (wsV RL 40 RX1 yX1_attack wsX1_attack) := goodIn_app (goodIn_of _ (by decide +kernel)) ggL_attack_X1_attack
theorem dL_attack_0 : decode cL_attack 0 = .ok (.aload_n 2, 1) := by decide +kernel
theorem dL_attack_1 : decode cL_attack 1 = .ok (.iconst 0, 1) := by decide +kernel
theorem dL_attack_2 : decode cL_attack 2 = .ok (.aload_n 0, 1) := by decide +kernel
theorem dL_attack_3 : decode cL_attack 3 = .ok (.iload_n 1, 1) := by decide +kernel
theorem dL_attack_4 : decode cL_attack 4 = .ok (.invokevirtual 40, 3) := by decide +kernel
theorem dL_attack_7 : decode cL_attack 7 = .ok (.i2l, 1) := by decide +kernel
theorem dL_attack_8 : decode cL_attack 8 = .ok (.lastore, 1) := by decide +kernel
theorem dL_attack_9 : decode cL_attack 9 = .ok (.goto 12, 3) := by decide +kernel
theorem dL_attack_12 : decode cL_attack 12 = .ok (.astore_n 3, 1) := by decide +kernel
theorem dL_attack_13 : decode cL_attack 13 = .ok (.iconst 1, 1) := by decide +kernel
theorem dL_attack_14 : decode cL_attack 14 = .ok (.ireturn, 1) := by decide +kernel
theorem dL_attack_15 : decode cL_attack 15 = .ok (.astore_n 3, 1) := by decide +kernel
theorem dL_attack_16 : decode cL_attack 16 = .ok (.iconst 2, 1) := by decide +kernel
theorem dL_attack_17 : decode cL_attack 17 = .ok (.ireturn, 1) := by decide +kernel
theorem dL_attack_18 : decode cL_attack 18 = .ok (.astore_n 3, 1) := by decide +kernel
theorem dL_attack_19 : decode cL_attack 19 = .ok (.iconst 3, 1) := by decide +kernel
theorem dL_attack_20 : decode cL_attack 20 = .ok (.ireturn, 1) := by decide +kernel
theorem dL_attack_21 : decode cL_attack 21 = .ok (.iconst 0, 1) := by decide +kernel
theorem dL_attack_22 : decode cL_attack 22 = .ok (.ireturn, 1) := by decide +kernel
set_option maxRecDepth 20000 in
theorem ggL_look_X1_look : GoodIn wsL_look wsX1_look := goodIn_ca (goodIn_ca (goodIn_ca (goodIn_r _ [8, 9, 10, 11, 12, 13, 14, 15, 7, 16, 17, 18, 19, 20, 21, 22, 23, 24, 25, 26, 27, 28, 29, 30, 31, 32, 33, 34, 35, 36, 37, 38, 39, 40, 41, 42, 43, 44, 45, 46, 47, 48, 49, 50, 51, 52] (by decide +kernel) (by decide +kernel)) (goodIn_sub (fun _ h => List.mem_cons_of_mem _ (List.mem_append_left _ (List.mem_append_left _ (List.mem_append_right _ h)))) (by decide +kernel))) (goodIn_sub (fun _ h => List.mem_cons_of_mem _ (List.mem_append_left _ (List.mem_append_right _ h))) (by decide +kernel))) (goodIn_sub (fun _ h => List.mem_cons_of_mem _ (List.mem_append_right _ h)) (by decide +kernel))
set_option maxRecDepth 20000 in
theorem gL_look_X1_look : GoodIn wsL_look (wsV RL 43 RX1 yX1_look wsX1_look) := goodIn_app (goodIn_of _ (by decide +kernel)) ggL_look_X1_look
theorem dL_look_0 : decode cL_look 0 = .ok (.aload_n 2, 1) := by decide +kernel
theorem dL_look_1 : decode cL_look 1 = .ok (.iconst 0, 1) := by decide +kernel
theorem dL_look_2 : decode cL_look 2 = .ok (.aload_n 0, 1) := by decide +kernel
theorem dL_look_3 : decode cL_look 3 = .ok (.iload_n 1, 1) := by decide +kernel
theorem dL_look_4 : decode cL_look 4 = .ok (.invokevirtual 43, 3) := by decide +kernel
theorem dL_look_7 : decode cL_look 7 = .ok (.i2l, 1) := by decide +kernel
theorem dL_look_8 : decode cL_look 8 = .ok (.lastore, 1) := by decide +kernel
theorem dL_look_9 : decode cL_look 9 = .ok (.goto 12, 3) := by decide +kernel
theorem dL_look_12 : decode cL_look 12 = .ok (.astore_n 3, 1) := by decide +kernel
theorem dL_look_13 : decode cL_look 13 = .ok (.iconst 1, 1) := by decide +kernel
theorem dL_look_14 : decode cL_look 14 = .ok (.ireturn, 1) := by decide +kernel
theorem dL_look_15 : decode cL_look 15 = .ok (.astore_n 3, 1) := by decide +kernel
theorem dL_look_16 : decode cL_look 16 = .ok (.iconst 2, 1) := by decide +kernel
theorem dL_look_17 : decode cL_look 17 = .ok (.ireturn, 1) := by decide +kernel
theorem dL_look_18 : decode cL_look 18 = .ok (.astore_n 3, 1) := by decide +kernel
theorem dL_look_19 : decode cL_look 19 = .ok (.iconst 3, 1) := by decide +kernel
theorem dL_look_20 : decode cL_look 20 = .ok (.ireturn, 1) := by decide +kernel
theorem dL_look_21 : decode cL_look 21 = .ok (.iconst 0, 1) := by decide +kernel
theorem dL_look_22 : decode cL_look 22 = .ok (.ireturn, 1) := by decide +kernel
set_option maxRecDepth 20000 in
theorem ggL_endNight_X1_endNight : GoodIn wsL_endNight wsX1_endNight := goodIn_ca (goodIn_r _ [6, 7, 8, 9, 10, 11, 12, 13, 14, 5, 15, 16, 17, 18, 19, 20, 21, 22, 23, 24, 25, 26, 27, 28, 29, 30, 31, 32, 33, 34, 35, 36, 37, 38, 39, 40, 41, 42, 43, 44, 45, 46, 47, 48, 49, 50, 51, 52, 53, 54, 55, 56, 57, 58, 59, 60, 61, 62] (by decide +kernel) (by decide +kernel)) (goodIn_sub (fun _ h => List.mem_cons_of_mem _ (List.mem_append_right _ h)) (by decide +kernel))
set_option maxRecDepth 20000 in
theorem gL_endNight_X1_endNight : GoodIn wsL_endNight (wsV RL 46 RX1 yX1_endNight wsX1_endNight) := goodIn_app (goodIn_of _ (by decide +kernel)) ggL_endNight_X1_endNight
theorem dL_endNight_0 : decode cL_endNight 0 = .ok (.aload_n 1, 1) := by decide +kernel
theorem dL_endNight_1 : decode cL_endNight 1 = .ok (.iconst 0, 1) := by decide +kernel
theorem dL_endNight_2 : decode cL_endNight 2 = .ok (.aload_n 0, 1) := by decide +kernel
theorem dL_endNight_3 : decode cL_endNight 3 = .ok (.invokevirtual 46, 3) := by decide +kernel
theorem dL_endNight_6 : decode cL_endNight 6 = .ok (.i2l, 1) := by decide +kernel
theorem dL_endNight_7 : decode cL_endNight 7 = .ok (.lastore, 1) := by decide +kernel
theorem dL_endNight_8 : decode cL_endNight 8 = .ok (.goto 6, 3) := by decide +kernel
theorem dL_endNight_11 : decode cL_endNight 11 = .ok (.astore_n 2, 1) := by decide +kernel
theorem dL_endNight_12 : decode cL_endNight 12 = .ok (.iconst 1, 1) := by decide +kernel
theorem dL_endNight_13 : decode cL_endNight 13 = .ok (.ireturn, 1) := by decide +kernel
theorem dL_endNight_14 : decode cL_endNight 14 = .ok (.iconst 0, 1) := by decide +kernel
theorem dL_endNight_15 : decode cL_endNight 15 = .ok (.ireturn, 1) := by decide +kernel
set_option maxRecDepth 20000 in
theorem ggL_day_X1_day : GoodIn wsL_day wsX1_day := goodIn_ca (goodIn_r _ [6, 7, 8, 9, 10, 5, 11, 12, 13, 14, 15, 16, 17, 18, 19, 20, 21, 22, 23, 24, 25, 26, 27, 28] (by decide +kernel) (by decide +kernel)) (goodIn_sub (fun _ h => List.mem_cons_of_mem _ (List.mem_append_right _ h)) (by decide +kernel))
set_option maxRecDepth 20000 in
theorem gL_day_X1_day : GoodIn wsL_day (wsV RL 49 RX1 yX1_day wsX1_day) := goodIn_app (goodIn_of _ (by decide +kernel)) ggL_day_X1_day
theorem dL_day_0 : decode cL_day 0 = .ok (.aload_n 1, 1) := by decide +kernel
theorem dL_day_1 : decode cL_day 1 = .ok (.iconst 0, 1) := by decide +kernel
theorem dL_day_2 : decode cL_day 2 = .ok (.aload_n 0, 1) := by decide +kernel
theorem dL_day_3 : decode cL_day 3 = .ok (.invokevirtual 49, 3) := by decide +kernel
theorem dL_day_6 : decode cL_day 6 = .ok (.i2l, 1) := by decide +kernel
theorem dL_day_7 : decode cL_day 7 = .ok (.lastore, 1) := by decide +kernel
theorem dL_day_8 : decode cL_day 8 = .ok (.goto 6, 3) := by decide +kernel
theorem dL_day_11 : decode cL_day 11 = .ok (.astore_n 2, 1) := by decide +kernel
theorem dL_day_12 : decode cL_day 12 = .ok (.iconst 1, 1) := by decide +kernel
theorem dL_day_13 : decode cL_day 13 = .ok (.ireturn, 1) := by decide +kernel
theorem dL_day_14 : decode cL_day 14 = .ok (.iconst 0, 1) := by decide +kernel
theorem dL_day_15 : decode cL_day 15 = .ok (.ireturn, 1) := by decide +kernel
set_option maxRecDepth 20000 in
theorem ggL_alive_X1_alive : GoodIn wsL_alive wsX1_alive := goodIn_ca (goodIn_r _ [6, 7, 8, 9, 10, 5, 11, 12, 13, 14, 15, 16, 17, 18, 19, 20, 21, 22, 23, 24, 25, 26, 27, 28] (by decide +kernel) (by decide +kernel)) (goodIn_sub (fun _ h => List.mem_cons_of_mem _ (List.mem_append_right _ h)) (by decide +kernel))
set_option maxRecDepth 20000 in
theorem gL_alive_X1_alive : GoodIn wsL_alive (wsV RL 52 RX1 yX1_alive wsX1_alive) := goodIn_app (goodIn_of _ (by decide +kernel)) ggL_alive_X1_alive
theorem dL_alive_0 : decode cL_alive 0 = .ok (.aload_n 1, 1) := by decide +kernel
theorem dL_alive_1 : decode cL_alive 1 = .ok (.iconst 0, 1) := by decide +kernel
theorem dL_alive_2 : decode cL_alive 2 = .ok (.aload_n 0, 1) := by decide +kernel
theorem dL_alive_3 : decode cL_alive 3 = .ok (.invokevirtual 52, 3) := by decide +kernel
theorem dL_alive_6 : decode cL_alive 6 = .ok (.i2l, 1) := by decide +kernel
theorem dL_alive_7 : decode cL_alive 7 = .ok (.lastore, 1) := by decide +kernel
theorem dL_alive_8 : decode cL_alive 8 = .ok (.goto 6, 3) := by decide +kernel
theorem dL_alive_11 : decode cL_alive 11 = .ok (.astore_n 2, 1) := by decide +kernel
theorem dL_alive_12 : decode cL_alive 12 = .ok (.iconst 1, 1) := by decide +kernel
theorem dL_alive_13 : decode cL_alive 13 = .ok (.ireturn, 1) := by decide +kernel
theorem dL_alive_14 : decode cL_alive 14 = .ok (.iconst 0, 1) := by decide +kernel
theorem dL_alive_15 : decode cL_alive 15 = .ok (.ireturn, 1) := by decide +kernel
set_option maxRecDepth 20000 in
theorem ggL_votesFor_X1_votesFor : GoodIn wsL_votesFor wsX1_votesFor := goodIn_ca (goodIn_ca (goodIn_r _ [7, 8, 9, 10, 6, 11, 12, 13, 14, 15, 16, 17, 18, 19, 20, 21, 22, 23, 24, 25, 26, 27, 28, 29, 30, 31, 32, 33, 34, 35, 36, 37, 38, 39, 40] (by decide +kernel) (by decide +kernel)) (goodIn_sub (fun _ h => List.mem_cons_of_mem _ (List.mem_append_left _ (List.mem_append_right _ h))) (by decide +kernel))) (goodIn_sub (fun _ h => List.mem_cons_of_mem _ (List.mem_append_right _ h)) (by decide +kernel))
set_option maxRecDepth 20000 in
theorem gL_votesFor_X1_votesFor : GoodIn wsL_votesFor (wsV RL 55 RX1 yX1_votesFor wsX1_votesFor) := goodIn_app (goodIn_of _ (by decide +kernel)) ggL_votesFor_X1_votesFor
theorem dL_votesFor_0 : decode cL_votesFor 0 = .ok (.aload_n 2, 1) := by decide +kernel
theorem dL_votesFor_1 : decode cL_votesFor 1 = .ok (.iconst 0, 1) := by decide +kernel
theorem dL_votesFor_2 : decode cL_votesFor 2 = .ok (.aload_n 0, 1) := by decide +kernel
theorem dL_votesFor_3 : decode cL_votesFor 3 = .ok (.iload_n 1, 1) := by decide +kernel
theorem dL_votesFor_4 : decode cL_votesFor 4 = .ok (.invokevirtual 55, 3) := by decide +kernel
theorem dL_votesFor_7 : decode cL_votesFor 7 = .ok (.i2l, 1) := by decide +kernel
theorem dL_votesFor_8 : decode cL_votesFor 8 = .ok (.lastore, 1) := by decide +kernel
theorem dL_votesFor_9 : decode cL_votesFor 9 = .ok (.goto 9, 3) := by decide +kernel
theorem dL_votesFor_12 : decode cL_votesFor 12 = .ok (.astore_n 3, 1) := by decide +kernel
theorem dL_votesFor_13 : decode cL_votesFor 13 = .ok (.iconst 1, 1) := by decide +kernel
theorem dL_votesFor_14 : decode cL_votesFor 14 = .ok (.ireturn, 1) := by decide +kernel
theorem dL_votesFor_15 : decode cL_votesFor 15 = .ok (.astore_n 3, 1) := by decide +kernel
theorem dL_votesFor_16 : decode cL_votesFor 16 = .ok (.iconst 2, 1) := by decide +kernel
theorem dL_votesFor_17 : decode cL_votesFor 17 = .ok (.ireturn, 1) := by decide +kernel
theorem dL_votesFor_18 : decode cL_votesFor 18 = .ok (.iconst 0, 1) := by decide +kernel
theorem dL_votesFor_19 : decode cL_votesFor 19 = .ok (.ireturn, 1) := by decide +kernel
set_option maxRecDepth 20000 in
theorem ggL_lookedAt_X1_lookedAt : GoodIn wsL_lookedAt wsX1_lookedAt := goodIn_ca (goodIn_r _ [6, 7, 8, 9, 10, 5, 11, 12, 13, 14, 15, 16, 17, 18, 19, 20, 21, 22, 23, 24, 25, 26, 27, 28] (by decide +kernel) (by decide +kernel)) (goodIn_sub (fun _ h => List.mem_cons_of_mem _ (List.mem_append_right _ h)) (by decide +kernel))
set_option maxRecDepth 20000 in
theorem gL_lookedAt_X1_lookedAt : GoodIn wsL_lookedAt (wsV RL 58 RX1 yX1_lookedAt wsX1_lookedAt) := goodIn_app (goodIn_of _ (by decide +kernel)) ggL_lookedAt_X1_lookedAt
theorem dL_lookedAt_0 : decode cL_lookedAt 0 = .ok (.aload_n 1, 1) := by decide +kernel
theorem dL_lookedAt_1 : decode cL_lookedAt 1 = .ok (.iconst 0, 1) := by decide +kernel
theorem dL_lookedAt_2 : decode cL_lookedAt 2 = .ok (.aload_n 0, 1) := by decide +kernel
theorem dL_lookedAt_3 : decode cL_lookedAt 3 = .ok (.invokevirtual 58, 3) := by decide +kernel
theorem dL_lookedAt_6 : decode cL_lookedAt 6 = .ok (.i2l, 1) := by decide +kernel
theorem dL_lookedAt_7 : decode cL_lookedAt 7 = .ok (.lastore, 1) := by decide +kernel
theorem dL_lookedAt_8 : decode cL_lookedAt 8 = .ok (.goto 6, 3) := by decide +kernel
theorem dL_lookedAt_11 : decode cL_lookedAt 11 = .ok (.astore_n 2, 1) := by decide +kernel
theorem dL_lookedAt_12 : decode cL_lookedAt 12 = .ok (.iconst 1, 1) := by decide +kernel
theorem dL_lookedAt_13 : decode cL_lookedAt 13 = .ok (.ireturn, 1) := by decide +kernel
theorem dL_lookedAt_14 : decode cL_lookedAt 14 = .ok (.iconst 0, 1) := by decide +kernel
theorem dL_lookedAt_15 : decode cL_lookedAt 15 = .ok (.ireturn, 1) := by decide +kernel
set_option maxRecDepth 20000 in
theorem ggL_worlds_X1_worlds : GoodIn wsL_worlds wsX1_worlds := goodIn_ca (goodIn_ca (goodIn_r _ [7, 8, 9, 10, 11, 6, 12, 13, 14, 15, 16, 17, 18, 19, 20, 21, 22, 23, 24, 25, 26, 27, 28, 29, 30, 31, 32, 33, 34, 35, 36, 37, 38, 39, 40, 41, 42, 43, 44, 45, 46, 47, 48, 49, 50, 51, 52, 53, 54, 55, 56, 57, 58, 59, 60, 61, 62, 63, 64, 65, 66, 67, 68, 69, 70, 71, 72, 73] (by decide +kernel) (by decide +kernel)) (goodIn_sub (fun _ h => List.mem_cons_of_mem _ (List.mem_append_left _ (List.mem_append_right _ h))) (by decide +kernel))) (goodIn_sub (fun _ h => List.mem_cons_of_mem _ (List.mem_append_right _ h)) (by decide +kernel))
set_option maxRecDepth 20000 in
theorem gL_worlds_X1_worlds : GoodIn wsL_worlds (wsV RL 61 RX1 yX1_worlds wsX1_worlds) := goodIn_app (goodIn_of _ (by decide +kernel)) ggL_worlds_X1_worlds
theorem dL_worlds_0 : decode cL_worlds 0 = .ok (.aload_n 2, 1) := by decide +kernel
theorem dL_worlds_1 : decode cL_worlds 1 = .ok (.iconst 0, 1) := by decide +kernel
theorem dL_worlds_2 : decode cL_worlds 2 = .ok (.aload_n 0, 1) := by decide +kernel
theorem dL_worlds_3 : decode cL_worlds 3 = .ok (.iload_n 1, 1) := by decide +kernel
theorem dL_worlds_4 : decode cL_worlds 4 = .ok (.invokevirtual 61, 3) := by decide +kernel
theorem dL_worlds_7 : decode cL_worlds 7 = .ok (.i2l, 1) := by decide +kernel
theorem dL_worlds_8 : decode cL_worlds 8 = .ok (.lastore, 1) := by decide +kernel
theorem dL_worlds_9 : decode cL_worlds 9 = .ok (.goto 9, 3) := by decide +kernel
theorem dL_worlds_12 : decode cL_worlds 12 = .ok (.astore_n 3, 1) := by decide +kernel
theorem dL_worlds_13 : decode cL_worlds 13 = .ok (.iconst 1, 1) := by decide +kernel
theorem dL_worlds_14 : decode cL_worlds 14 = .ok (.ireturn, 1) := by decide +kernel
theorem dL_worlds_15 : decode cL_worlds 15 = .ok (.astore_n 3, 1) := by decide +kernel
theorem dL_worlds_16 : decode cL_worlds 16 = .ok (.iconst 2, 1) := by decide +kernel
theorem dL_worlds_17 : decode cL_worlds 17 = .ok (.ireturn, 1) := by decide +kernel
theorem dL_worlds_18 : decode cL_worlds 18 = .ok (.iconst 0, 1) := by decide +kernel
theorem dL_worlds_19 : decode cL_worlds 19 = .ok (.ireturn, 1) := by decide +kernel
set_option maxRecDepth 20000 in
theorem ggL_worldsWith_X1_worldsWith : GoodIn wsL_worldsWith wsX1_worldsWith := goodIn_ca (goodIn_ca (goodIn_ca (goodIn_r _ [8, 9, 10, 11, 12, 13, 14, 7, 15, 16, 17, 18, 19, 20, 21, 22, 23, 24, 25, 26, 27, 28, 29, 30, 31, 32, 33, 34, 35, 36, 37, 38, 39, 40, 41, 42, 43, 44, 45, 46, 47, 48, 49, 50, 51, 52, 53, 54, 55, 56, 57, 58, 59, 60, 61, 62, 63, 64, 65, 66, 67, 68, 69, 70, 71, 72, 73, 74, 75, 76, 77, 78] (by decide +kernel) (by decide +kernel)) (goodIn_sub (fun _ h => List.mem_cons_of_mem _ (List.mem_append_left _ (List.mem_append_left _ (List.mem_append_right _ h)))) (by decide +kernel))) (goodIn_sub (fun _ h => List.mem_cons_of_mem _ (List.mem_append_left _ (List.mem_append_right _ h))) (by decide +kernel))) (goodIn_sub (fun _ h => List.mem_cons_of_mem _ (List.mem_append_right _ h)) (by decide +kernel))
set_option maxRecDepth 20000 in
theorem gL_worldsWith_X1_worldsWith : GoodIn wsL_worldsWith (wsV RL 64 RX1 yX1_worldsWith wsX1_worldsWith) := goodIn_app (goodIn_of _ (by decide +kernel)) ggL_worldsWith_X1_worldsWith
theorem dL_worldsWith_0 : decode cL_worldsWith 0 = .ok (.aload 4, 2) := by decide +kernel
theorem dL_worldsWith_2 : decode cL_worldsWith 2 = .ok (.iconst 0, 1) := by decide +kernel
theorem dL_worldsWith_3 : decode cL_worldsWith 3 = .ok (.aload_n 0, 1) := by decide +kernel
theorem dL_worldsWith_4 : decode cL_worldsWith 4 = .ok (.iload_n 1, 1) := by decide +kernel
theorem dL_worldsWith_5 : decode cL_worldsWith 5 = .ok (.iload_n 2, 1) := by decide +kernel
theorem dL_worldsWith_6 : decode cL_worldsWith 6 = .ok (.iload_n 3, 1) := by decide +kernel
theorem dL_worldsWith_7 : decode cL_worldsWith 7 = .ok (.invokevirtual 64, 3) := by decide +kernel
theorem dL_worldsWith_10 : decode cL_worldsWith 10 = .ok (.i2l, 1) := by decide +kernel
theorem dL_worldsWith_11 : decode cL_worldsWith 11 = .ok (.lastore, 1) := by decide +kernel
theorem dL_worldsWith_12 : decode cL_worldsWith 12 = .ok (.goto 15, 3) := by decide +kernel
theorem dL_worldsWith_15 : decode cL_worldsWith 15 = .ok (.astore 5, 2) := by decide +kernel
theorem dL_worldsWith_17 : decode cL_worldsWith 17 = .ok (.iconst 1, 1) := by decide +kernel
theorem dL_worldsWith_18 : decode cL_worldsWith 18 = .ok (.ireturn, 1) := by decide +kernel
theorem dL_worldsWith_19 : decode cL_worldsWith 19 = .ok (.astore 5, 2) := by decide +kernel
theorem dL_worldsWith_21 : decode cL_worldsWith 21 = .ok (.iconst 2, 1) := by decide +kernel
theorem dL_worldsWith_22 : decode cL_worldsWith 22 = .ok (.ireturn, 1) := by decide +kernel
theorem dL_worldsWith_23 : decode cL_worldsWith 23 = .ok (.astore 5, 2) := by decide +kernel
theorem dL_worldsWith_25 : decode cL_worldsWith 25 = .ok (.iconst 3, 1) := by decide +kernel
theorem dL_worldsWith_26 : decode cL_worldsWith 26 = .ok (.ireturn, 1) := by decide +kernel
theorem dL_worldsWith_27 : decode cL_worldsWith 27 = .ok (.iconst 0, 1) := by decide +kernel
theorem dL_worldsWith_28 : decode cL_worldsWith 28 = .ok (.ireturn, 1) := by decide +kernel
set_option maxRecDepth 20000 in
theorem ggL_sureWitches_X1_sureWitches : GoodIn wsL_sureWitches wsX1_sureWitches := goodIn_ca (goodIn_ca (goodIn_r _ [7, 8, 9, 10, 11, 6, 12, 13, 14, 15, 16, 17, 18, 19, 20, 21, 22, 23, 24, 25, 26, 27, 28, 29, 30, 31, 32, 33, 34, 35, 36, 37, 38, 39, 40, 41, 42, 43, 44, 45, 46, 47, 48, 49, 50, 51, 52, 53, 54, 55, 56, 57, 58, 59, 60, 61, 62, 63, 64, 65, 66, 67, 68, 69, 70, 71, 72, 73, 74, 75] (by decide +kernel) (by decide +kernel)) (goodIn_sub (fun _ h => List.mem_cons_of_mem _ (List.mem_append_left _ (List.mem_append_right _ h))) (by decide +kernel))) (goodIn_sub (fun _ h => List.mem_cons_of_mem _ (List.mem_append_right _ h)) (by decide +kernel))
set_option maxRecDepth 20000 in
theorem gL_sureWitches_X1_sureWitches : GoodIn wsL_sureWitches (wsV RL 67 RX1 yX1_sureWitches wsX1_sureWitches) := goodIn_app (goodIn_of _ (by decide +kernel)) ggL_sureWitches_X1_sureWitches
theorem dL_sureWitches_0 : decode cL_sureWitches 0 = .ok (.aload_n 2, 1) := by decide +kernel
theorem dL_sureWitches_1 : decode cL_sureWitches 1 = .ok (.iconst 0, 1) := by decide +kernel
theorem dL_sureWitches_2 : decode cL_sureWitches 2 = .ok (.aload_n 0, 1) := by decide +kernel
theorem dL_sureWitches_3 : decode cL_sureWitches 3 = .ok (.iload_n 1, 1) := by decide +kernel
theorem dL_sureWitches_4 : decode cL_sureWitches 4 = .ok (.invokevirtual 67, 3) := by decide +kernel
theorem dL_sureWitches_7 : decode cL_sureWitches 7 = .ok (.i2l, 1) := by decide +kernel
theorem dL_sureWitches_8 : decode cL_sureWitches 8 = .ok (.lastore, 1) := by decide +kernel
theorem dL_sureWitches_9 : decode cL_sureWitches 9 = .ok (.goto 9, 3) := by decide +kernel
theorem dL_sureWitches_12 : decode cL_sureWitches 12 = .ok (.astore_n 3, 1) := by decide +kernel
theorem dL_sureWitches_13 : decode cL_sureWitches 13 = .ok (.iconst 1, 1) := by decide +kernel
theorem dL_sureWitches_14 : decode cL_sureWitches 14 = .ok (.ireturn, 1) := by decide +kernel
theorem dL_sureWitches_15 : decode cL_sureWitches 15 = .ok (.astore_n 3, 1) := by decide +kernel
theorem dL_sureWitches_16 : decode cL_sureWitches 16 = .ok (.iconst 2, 1) := by decide +kernel
theorem dL_sureWitches_17 : decode cL_sureWitches 17 = .ok (.ireturn, 1) := by decide +kernel
theorem dL_sureWitches_18 : decode cL_sureWitches 18 = .ok (.iconst 0, 1) := by decide +kernel
theorem dL_sureWitches_19 : decode cL_sureWitches 19 = .ok (.ireturn, 1) := by decide +kernel
set_option maxRecDepth 20000 in
theorem ggL_sureHonest_X1_sureHonest : GoodIn wsL_sureHonest wsX1_sureHonest := goodIn_ca (goodIn_ca (goodIn_r _ [7, 8, 9, 10, 11, 12, 6, 13, 14, 15, 16, 17, 18, 19, 20, 21, 22, 23, 24, 25, 26, 27, 28, 29, 30, 31, 32, 33, 34, 35, 36, 37, 38, 39, 40, 41, 42, 43, 44, 45, 46, 47, 48, 49, 50, 51, 52, 53, 54, 55, 56, 57, 58, 59, 60, 61, 62, 63, 64, 65, 66, 67, 68, 69, 70, 71, 72, 73, 74, 75] (by decide +kernel) (by decide +kernel)) (goodIn_sub (fun _ h => List.mem_cons_of_mem _ (List.mem_append_left _ (List.mem_append_right _ h))) (by decide +kernel))) (goodIn_sub (fun _ h => List.mem_cons_of_mem _ (List.mem_append_right _ h)) (by decide +kernel))
set_option maxRecDepth 20000 in
theorem gL_sureHonest_X1_sureHonest : GoodIn wsL_sureHonest (wsV RL 70 RX1 yX1_sureHonest wsX1_sureHonest) := goodIn_app (goodIn_of _ (by decide +kernel)) ggL_sureHonest_X1_sureHonest
theorem dL_sureHonest_0 : decode cL_sureHonest 0 = .ok (.aload_n 2, 1) := by decide +kernel
theorem dL_sureHonest_1 : decode cL_sureHonest 1 = .ok (.iconst 0, 1) := by decide +kernel
theorem dL_sureHonest_2 : decode cL_sureHonest 2 = .ok (.aload_n 0, 1) := by decide +kernel
theorem dL_sureHonest_3 : decode cL_sureHonest 3 = .ok (.iload_n 1, 1) := by decide +kernel
theorem dL_sureHonest_4 : decode cL_sureHonest 4 = .ok (.invokevirtual 70, 3) := by decide +kernel
theorem dL_sureHonest_7 : decode cL_sureHonest 7 = .ok (.i2l, 1) := by decide +kernel
theorem dL_sureHonest_8 : decode cL_sureHonest 8 = .ok (.lastore, 1) := by decide +kernel
theorem dL_sureHonest_9 : decode cL_sureHonest 9 = .ok (.goto 9, 3) := by decide +kernel
theorem dL_sureHonest_12 : decode cL_sureHonest 12 = .ok (.astore_n 3, 1) := by decide +kernel
theorem dL_sureHonest_13 : decode cL_sureHonest 13 = .ok (.iconst 1, 1) := by decide +kernel
theorem dL_sureHonest_14 : decode cL_sureHonest 14 = .ok (.ireturn, 1) := by decide +kernel
theorem dL_sureHonest_15 : decode cL_sureHonest 15 = .ok (.astore_n 3, 1) := by decide +kernel
theorem dL_sureHonest_16 : decode cL_sureHonest 16 = .ok (.iconst 2, 1) := by decide +kernel
theorem dL_sureHonest_17 : decode cL_sureHonest 17 = .ok (.ireturn, 1) := by decide +kernel
theorem dL_sureHonest_18 : decode cL_sureHonest 18 = .ok (.iconst 0, 1) := by decide +kernel
theorem dL_sureHonest_19 : decode cL_sureHonest 19 = .ok (.ireturn, 1) := by decide +kernel
set_option maxRecDepth 20000 in
theorem ggL_witchSets_X1_witchSets : GoodIn wsL_witchSets wsX1_witchSets := goodIn_ca (goodIn_ca (goodIn_r _ [7, 8, 9, 10, 11, 6, 12, 13, 14, 15, 16, 17, 18, 19, 20, 21, 22, 23, 24, 25, 26, 27, 28, 29, 30, 31, 32, 33, 34, 35, 36, 37, 38, 39, 40, 41, 42, 43, 44, 45, 46, 47, 48, 49, 50, 51, 52, 53, 54, 55, 56, 57, 58, 59, 60, 61, 62, 63, 64, 65, 66, 67, 68, 69, 70, 71, 72, 73, 74, 75] (by decide +kernel) (by decide +kernel)) (goodIn_sub (fun _ h => List.mem_cons_of_mem _ (List.mem_append_left _ (List.mem_append_right _ h))) (by decide +kernel))) (goodIn_sub (fun _ h => List.mem_cons_of_mem _ (List.mem_append_right _ h)) (by decide +kernel))
set_option maxRecDepth 20000 in
theorem gL_witchSets_X1_witchSets : GoodIn wsL_witchSets (wsV RL 73 RX1 yX1_witchSets wsX1_witchSets) := goodIn_app (goodIn_of _ (by decide +kernel)) ggL_witchSets_X1_witchSets
theorem dL_witchSets_0 : decode cL_witchSets 0 = .ok (.aload_n 2, 1) := by decide +kernel
theorem dL_witchSets_1 : decode cL_witchSets 1 = .ok (.iconst 0, 1) := by decide +kernel
theorem dL_witchSets_2 : decode cL_witchSets 2 = .ok (.aload_n 0, 1) := by decide +kernel
theorem dL_witchSets_3 : decode cL_witchSets 3 = .ok (.iload_n 1, 1) := by decide +kernel
theorem dL_witchSets_4 : decode cL_witchSets 4 = .ok (.invokevirtual 73, 3) := by decide +kernel
theorem dL_witchSets_7 : decode cL_witchSets 7 = .ok (.i2l, 1) := by decide +kernel
theorem dL_witchSets_8 : decode cL_witchSets 8 = .ok (.lastore, 1) := by decide +kernel
theorem dL_witchSets_9 : decode cL_witchSets 9 = .ok (.goto 9, 3) := by decide +kernel
theorem dL_witchSets_12 : decode cL_witchSets 12 = .ok (.astore_n 3, 1) := by decide +kernel
theorem dL_witchSets_13 : decode cL_witchSets 13 = .ok (.iconst 1, 1) := by decide +kernel
theorem dL_witchSets_14 : decode cL_witchSets 14 = .ok (.ireturn, 1) := by decide +kernel
theorem dL_witchSets_15 : decode cL_witchSets 15 = .ok (.astore_n 3, 1) := by decide +kernel
theorem dL_witchSets_16 : decode cL_witchSets 16 = .ok (.iconst 2, 1) := by decide +kernel
theorem dL_witchSets_17 : decode cL_witchSets 17 = .ok (.ireturn, 1) := by decide +kernel
theorem dL_witchSets_18 : decode cL_witchSets 18 = .ok (.iconst 0, 1) := by decide +kernel
theorem dL_witchSets_19 : decode cL_witchSets 19 = .ok (.ireturn, 1) := by decide +kernel
set_option maxRecDepth 20000 in
theorem ggL_suspect_X1_suspect : GoodIn wsL_suspect wsX1_suspect := goodIn_ca (goodIn_ca (goodIn_r _ [7, 8, 9, 10, 11, 12, 6, 13, 14, 15, 16, 17, 18, 19, 20, 21, 22, 23, 24, 25, 26, 27, 28, 29, 30, 31, 32, 33, 34, 35, 36, 37, 38, 39, 40, 41, 42, 43, 44, 45, 46, 47, 48, 49, 50, 51, 52, 53, 54, 55, 56, 57, 58, 59, 60, 61, 62, 63, 64, 65, 66, 67, 68, 69, 70, 71, 72, 73, 74, 75, 76, 77, 78, 79] (by decide +kernel) (by decide +kernel)) (goodIn_sub (fun _ h => List.mem_cons_of_mem _ (List.mem_append_left _ (List.mem_append_right _ h))) (by decide +kernel))) (goodIn_sub (fun _ h => List.mem_cons_of_mem _ (List.mem_append_right _ h)) (by decide +kernel))
set_option maxRecDepth 20000 in
theorem gL_suspect_X1_suspect : GoodIn wsL_suspect (wsV RL 76 RX1 yX1_suspect wsX1_suspect) := goodIn_app (goodIn_of _ (by decide +kernel)) ggL_suspect_X1_suspect
theorem dL_suspect_0 : decode cL_suspect 0 = .ok (.aload_n 2, 1) := by decide +kernel
theorem dL_suspect_1 : decode cL_suspect 1 = .ok (.iconst 0, 1) := by decide +kernel
theorem dL_suspect_2 : decode cL_suspect 2 = .ok (.aload_n 0, 1) := by decide +kernel
theorem dL_suspect_3 : decode cL_suspect 3 = .ok (.iload_n 1, 1) := by decide +kernel
theorem dL_suspect_4 : decode cL_suspect 4 = .ok (.invokevirtual 76, 3) := by decide +kernel
theorem dL_suspect_7 : decode cL_suspect 7 = .ok (.i2l, 1) := by decide +kernel
theorem dL_suspect_8 : decode cL_suspect 8 = .ok (.lastore, 1) := by decide +kernel
theorem dL_suspect_9 : decode cL_suspect 9 = .ok (.goto 9, 3) := by decide +kernel
theorem dL_suspect_12 : decode cL_suspect 12 = .ok (.astore_n 3, 1) := by decide +kernel
theorem dL_suspect_13 : decode cL_suspect 13 = .ok (.iconst 1, 1) := by decide +kernel
theorem dL_suspect_14 : decode cL_suspect 14 = .ok (.ireturn, 1) := by decide +kernel
theorem dL_suspect_15 : decode cL_suspect 15 = .ok (.astore_n 3, 1) := by decide +kernel
theorem dL_suspect_16 : decode cL_suspect 16 = .ok (.iconst 2, 1) := by decide +kernel
theorem dL_suspect_17 : decode cL_suspect 17 = .ok (.ireturn, 1) := by decide +kernel
theorem dL_suspect_18 : decode cL_suspect 18 = .ok (.iconst 0, 1) := by decide +kernel
theorem dL_suspect_19 : decode cL_suspect 19 = .ok (.ireturn, 1) := by decide +kernel
set_option maxRecDepth 20000 in
theorem ggL_bestLook_X1_bestLook : GoodIn wsL_bestLook wsX1_bestLook := goodIn_ca (goodIn_r _ [6, 7, 8, 9, 10, 11, 12, 13, 14, 15, 16, 5, 17, 18, 19, 20, 21, 22, 23, 24, 25, 26, 27, 28, 29, 30, 31, 32, 33, 34, 35, 36, 37, 38, 39, 40, 41, 42, 43, 44, 45, 46, 47, 48, 49, 50, 51, 52, 53, 54, 55, 56, 57, 58, 59, 60, 61, 62, 63, 64, 65, 66, 67, 68, 69, 70, 71, 72, 73, 74, 75] (by decide +kernel) (by decide +kernel)) (goodIn_sub (fun _ h => List.mem_cons_of_mem _ (List.mem_append_right _ h)) (by decide +kernel))
set_option maxRecDepth 20000 in
theorem gL_bestLook_X1_bestLook : GoodIn wsL_bestLook (wsV RL 79 RX1 yX1_bestLook wsX1_bestLook) := goodIn_app (goodIn_of _ (by decide +kernel)) ggL_bestLook_X1_bestLook
theorem dL_bestLook_0 : decode cL_bestLook 0 = .ok (.aload_n 1, 1) := by decide +kernel
theorem dL_bestLook_1 : decode cL_bestLook 1 = .ok (.iconst 0, 1) := by decide +kernel
theorem dL_bestLook_2 : decode cL_bestLook 2 = .ok (.aload_n 0, 1) := by decide +kernel
theorem dL_bestLook_3 : decode cL_bestLook 3 = .ok (.invokevirtual 79, 3) := by decide +kernel
theorem dL_bestLook_6 : decode cL_bestLook 6 = .ok (.i2l, 1) := by decide +kernel
theorem dL_bestLook_7 : decode cL_bestLook 7 = .ok (.lastore, 1) := by decide +kernel
theorem dL_bestLook_8 : decode cL_bestLook 8 = .ok (.goto 6, 3) := by decide +kernel
theorem dL_bestLook_11 : decode cL_bestLook 11 = .ok (.astore_n 2, 1) := by decide +kernel
theorem dL_bestLook_12 : decode cL_bestLook 12 = .ok (.iconst 1, 1) := by decide +kernel
theorem dL_bestLook_13 : decode cL_bestLook 13 = .ok (.ireturn, 1) := by decide +kernel
theorem dL_bestLook_14 : decode cL_bestLook 14 = .ok (.iconst 0, 1) := by decide +kernel
theorem dL_bestLook_15 : decode cL_bestLook 15 = .ok (.ireturn, 1) := by decide +kernel
set_option maxRecDepth 20000 in
theorem ggL_isPossible_X1_isPossible : GoodIn wsL_isPossible wsX1_isPossible := goodIn_ca (goodIn_ca (goodIn_r _ [7, 8, 9, 10, 11, 6, 12, 13, 14, 15, 16, 17, 18, 19, 20, 21, 22, 23, 24, 25, 26, 27, 28, 29, 30, 31, 32, 33, 34, 35, 36, 37, 38, 39, 40, 41, 42, 43, 44, 45, 46, 47, 48, 49, 50, 51, 52, 53, 54, 55, 56, 57, 58, 59, 60, 61, 62, 63, 64, 65, 66, 67, 68, 69, 70, 71, 72, 73, 74, 75, 76] (by decide +kernel) (by decide +kernel)) (goodIn_sub (fun _ h => List.mem_cons_of_mem _ (List.mem_append_left _ (List.mem_append_right _ h))) (by decide +kernel))) (goodIn_sub (fun _ h => List.mem_cons_of_mem _ (List.mem_append_right _ h)) (by decide +kernel))
set_option maxRecDepth 20000 in
theorem gL_isPossible_X1_isPossible : GoodIn wsL_isPossible (wsV RL 82 RX1 yX1_isPossible wsX1_isPossible) := goodIn_app (goodIn_of _ (by decide +kernel)) ggL_isPossible_X1_isPossible
theorem dL_isPossible_0 : decode cL_isPossible 0 = .ok (.aload 5, 2) := by decide +kernel
theorem dL_isPossible_2 : decode cL_isPossible 2 = .ok (.iconst 0, 1) := by decide +kernel
theorem dL_isPossible_3 : decode cL_isPossible 3 = .ok (.aload_n 0, 1) := by decide +kernel
theorem dL_isPossible_4 : decode cL_isPossible 4 = .ok (.iload_n 1, 1) := by decide +kernel
theorem dL_isPossible_5 : decode cL_isPossible 5 = .ok (.iload_n 2, 1) := by decide +kernel
theorem dL_isPossible_6 : decode cL_isPossible 6 = .ok (.iload_n 3, 1) := by decide +kernel
theorem dL_isPossible_7 : decode cL_isPossible 7 = .ok (.iload 4, 2) := by decide +kernel
theorem dL_isPossible_9 : decode cL_isPossible 9 = .ok (.invokevirtual 82, 3) := by decide +kernel
theorem dL_isPossible_12 : decode cL_isPossible 12 = .ok (.ifCond .eq 7, 3) := by decide +kernel
theorem dL_isPossible_15 : decode cL_isPossible 15 = .ok (.lconst 1, 1) := by decide +kernel
theorem dL_isPossible_16 : decode cL_isPossible 16 = .ok (.goto 4, 3) := by decide +kernel
theorem dL_isPossible_19 : decode cL_isPossible 19 = .ok (.lconst 0, 1) := by decide +kernel
theorem dL_isPossible_20 : decode cL_isPossible 20 = .ok (.lastore, 1) := by decide +kernel
theorem dL_isPossible_21 : decode cL_isPossible 21 = .ok (.goto 11, 3) := by decide +kernel
theorem dL_isPossible_24 : decode cL_isPossible 24 = .ok (.astore 6, 2) := by decide +kernel
theorem dL_isPossible_26 : decode cL_isPossible 26 = .ok (.iconst 1, 1) := by decide +kernel
theorem dL_isPossible_27 : decode cL_isPossible 27 = .ok (.ireturn, 1) := by decide +kernel
theorem dL_isPossible_28 : decode cL_isPossible 28 = .ok (.astore 6, 2) := by decide +kernel
theorem dL_isPossible_30 : decode cL_isPossible 30 = .ok (.iconst 2, 1) := by decide +kernel
theorem dL_isPossible_31 : decode cL_isPossible 31 = .ok (.ireturn, 1) := by decide +kernel
theorem dL_isPossible_32 : decode cL_isPossible 32 = .ok (.iconst 0, 1) := by decide +kernel
theorem dL_isPossible_33 : decode cL_isPossible 33 = .ok (.ireturn, 1) := by decide +kernel
