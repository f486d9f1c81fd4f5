set_option maxRecDepth 20000 in
theorem ggX1_init_X0_init : GoodIn wsX1_init wsX0_init := goodIn_r _ [16, 17, 2, 3, 8, 18, 19, 20] (by decide +kernel) (by decide +kernel)
set_option maxRecDepth 20000 in
theorem gX1_init_X0_init_n11 : GoodIn wsX1_init (wsX0_init) := ggX1_init_X0_init
theorem dX1_init_0 : decode cX1_init 0 = .ok (.aload_n 0, 1) := by decide +kernel
theorem dX1_init_1 : decode cX1_init 1 = .ok (.invokespecial 3, 3) := by decide +kernel
theorem dX1_init_4 : decode cX1_init 4 = .ok (.aload_n 0, 1) := by decide +kernel
theorem dX1_init_5 : decode cX1_init 5 = .ok (.new 9, 3) := by decide +kernel
theorem dX1_init_8 : decode cX1_init 8 = .ok (.dup, 1) := by decide +kernel
theorem dX1_init_9 : decode cX1_init 9 = .ok (.invokespecial 11, 3) := by decide +kernel
theorem dX1_init_12 : decode cX1_init 12 = .ok (.putfield 12, 3) := by decide +kernel
theorem dX1_init_15 : decode cX1_init 15 = .ok (.aload_n 0, 1) := by decide +kernel
theorem dX1_init_16 : decode cX1_init 16 = .ok (.bipush 8, 2) := by decide +kernel
theorem dX1_init_18 : decode cX1_init 18 = .ok (.newarray .int, 2) := by decide +kernel
theorem dX1_init_20 : decode cX1_init 20 = .ok (.putfield 16, 3) := by decide +kernel
theorem dX1_init_23 : decode cX1_init 23 = .ok (.aload_n 0, 1) := by decide +kernel
theorem dX1_init_24 : decode cX1_init 24 = .ok (.iconst 0, 1) := by decide +kernel
theorem dX1_init_25 : decode cX1_init 25 = .ok (.putfield 20, 3) := by decide +kernel
theorem dX1_init_28 : decode cX1_init 28 = .ok (.aload_n 0, 1) := by decide +kernel
theorem dX1_init_29 : decode cX1_init 29 = .ok (.iconst (-1), 1) := by decide +kernel
theorem dX1_init_30 : decode cX1_init 30 = .ok (.putfield 24, 3) := by decide +kernel
theorem dX1_init_33 : decode cX1_init 33 = .ok (.aload_n 0, 1) := by decide +kernel
theorem dX1_init_34 : decode cX1_init 34 = .ok (.iconst (-1), 1) := by decide +kernel
theorem dX1_init_35 : decode cX1_init 35 = .ok (.putfield 27, 3) := by decide +kernel
theorem dX1_init_38 : decode cX1_init 38 = .ok (.aload_n 0, 1) := by decide +kernel
theorem dX1_init_39 : decode cX1_init 39 = .ok (.iconst (-1), 1) := by decide +kernel
theorem dX1_init_40 : decode cX1_init 40 = .ok (.putfield 30, 3) := by decide +kernel
theorem dX1_init_43 : decode cX1_init 43 = .ok (.aload_n 0, 1) := by decide +kernel
theorem dX1_init_44 : decode cX1_init 44 = .ok (.iconst (-1), 1) := by decide +kernel
theorem dX1_init_45 : decode cX1_init 45 = .ok (.putfield 33, 3) := by decide +kernel
theorem dX1_init_48 : decode cX1_init 48 = .ok (.return_, 1) := by decide +kernel
set_option maxRecDepth 20000 in
theorem ggX1_start_X1_isDeal : GoodIn wsX1_start wsX1_isDeal := goodIn_r _ [16, 17, 18, 15, 19, 20, 21, 22, 23, 24, 25, 26, 27, 28, 29, 30, 31, 32] (by decide +kernel) (by decide +kernel)
set_option maxRecDepth 20000 in
theorem gX1_start_X1_isDeal : GoodIn wsX1_start (va_wsS RX1 36 yX1_isDeal wsX1_isDeal) := goodIn_app (goodIn_of _ (by decide +kernel)) ggX1_start_X1_isDeal
set_option maxRecDepth 20000 in
theorem ggX1_start_X1_everyone : GoodIn wsX1_start wsX1_everyone := goodIn_r _ [19] (by decide +kernel) (by decide +kernel)
set_option maxRecDepth 20000 in
theorem gX1_start_X1_everyone : GoodIn wsX1_start (va_wsS RX1 59 yX1_everyone wsX1_everyone) := goodIn_app (goodIn_of _ (by decide +kernel)) ggX1_start_X1_everyone
set_option maxRecDepth 20000 in
theorem ggX1_start_X1_forgetVotes : GoodIn wsX1_start wsX1_forgetVotes := goodIn_r _ [36, 37, 38, 39, 40, 41, 84, 85, 86, 87, 88, 89, 90, 91, 92, 93, 94, 95, 96, 97] (by decide +kernel) (by decide +kernel)
set_option maxRecDepth 20000 in
theorem gX1_start_X1_forgetVotes : GoodIn wsX1_start (wsV RX1 72 RX1 yX1_forgetVotes wsX1_forgetVotes) := goodIn_app (goodIn_of _ (by decide +kernel)) ggX1_start_X1_forgetVotes
set_option maxRecDepth 20000 in
theorem ggX1_start_X1_forgetChoices : GoodIn wsX1_start wsX1_forgetChoices := goodIn_r _ [45, 46, 47, 48, 84, 85, 86, 87, 88, 89, 90, 91, 92, 93, 94, 95, 96, 97] (by decide +kernel) (by decide +kernel)
set_option maxRecDepth 20000 in
theorem gX1_start_X1_forgetChoices : GoodIn wsX1_start (wsV RX1 75 RX1 yX1_forgetChoices wsX1_forgetChoices) := goodIn_app (goodIn_of _ (by decide +kernel)) ggX1_start_X1_forgetChoices
set_option maxRecDepth 20000 in
theorem ggX1_start_X1_worldOf : GoodIn wsX1_start wsX1_worldOf := goodIn_r _ [51, 30, 31, 15, 32] (by decide +kernel) (by decide +kernel)
set_option maxRecDepth 20000 in
theorem gX1_start_X1_worldOf : GoodIn wsX1_start (va_wsS RX1 78 yX1_worldOf wsX1_worldOf) := goodIn_app (goodIn_of _ (by decide +kernel)) ggX1_start_X1_worldOf
set_option maxRecDepth 20000 in
theorem ggX1_start_X0_open : GoodIn wsX1_start wsX0_open := goodIn_r _ [55, 56, 57, 58, 39, 40, 41, 59, 15, 60, 61, 21, 22, 23, 24, 25, 26, 18, 19, 62, 63, 64, 53, 65, 28, 29, 30, 31, 32, 50, 51, 98, 99] (by decide +kernel) (by decide +kernel)
set_option maxRecDepth 20000 in
theorem gX1_start_X0_open_n82 : GoodIn wsX1_start (wsX0_open) := ggX1_start_X0_open
set_option maxRecDepth 20000 in
theorem ggX1_start_X1_knownBits : GoodIn wsX1_start wsX1_knownBits := goodIn_r _ [69, 3, 7, 5, 8, 17, 18, 15, 19, 70, 71, 72, 30, 31, 32, 73, 74, 75, 76, 4, 84, 85, 86, 87, 88, 89, 90, 91, 92, 93, 94, 95, 96, 97] (by decide +kernel) (by decide +kernel)
set_option maxRecDepth 20000 in
theorem gX1_start_X1_knownBits : GoodIn wsX1_start (wsV RX1 86 RX1 yX1_knownBits wsX1_knownBits) := goodIn_app (goodIn_of _ (by decide +kernel)) ggX1_start_X1_knownBits
set_option maxRecDepth 20000 in
theorem ggX1_start_X0_count : GoodIn wsX1_start wsX0_count := goodIn_r _ [79, 57, 80, 81, 82, 53, 83, 56, 98, 99] (by decide +kernel) (by decide +kernel)
set_option maxRecDepth 20000 in
theorem gX1_start_X0_count_n89 : GoodIn wsX1_start (wsX0_count) := ggX1_start_X0_count
theorem dX1_start_0 : decode cX1_start 0 = .ok (.iload_n 1, 1) := by decide +kernel
theorem dX1_start_1 : decode cX1_start 1 = .ok (.iload_n 2, 1) := by decide +kernel
theorem dX1_start_2 : decode cX1_start 2 = .ok (.iload_n 3, 1) := by decide +kernel
theorem dX1_start_3 : decode cX1_start 3 = .ok (.iload 4, 2) := by decide +kernel
theorem dX1_start_5 : decode cX1_start 5 = .ok (.invokestatic 36, 3) := by decide +kernel
theorem dX1_start_8 : decode cX1_start 8 = .ok (.ifCond .ne 13, 3) := by decide +kernel
theorem dX1_start_11 : decode cX1_start 11 = .ok (.new 40, 3) := by decide +kernel
theorem dX1_start_14 : decode cX1_start 14 = .ok (.dup, 1) := by decide +kernel
theorem dX1_start_15 : decode cX1_start 15 = .ok (.ldc 42, 2) := by decide +kernel
theorem dX1_start_17 : decode cX1_start 17 = .ok (.invokespecial 44, 3) := by decide +kernel
theorem dX1_start_20 : decode cX1_start 20 = .ok (.athrow, 1) := by decide +kernel
theorem dX1_start_21 : decode cX1_start 21 = .ok (.aload_n 0, 1) := by decide +kernel
theorem dX1_start_22 : decode cX1_start 22 = .ok (.iload_n 1, 1) := by decide +kernel
theorem dX1_start_23 : decode cX1_start 23 = .ok (.putfield 47, 3) := by decide +kernel
theorem dX1_start_26 : decode cX1_start 26 = .ok (.aload_n 0, 1) := by decide +kernel
theorem dX1_start_27 : decode cX1_start 27 = .ok (.iload_n 2, 1) := by decide +kernel
theorem dX1_start_28 : decode cX1_start 28 = .ok (.putfield 50, 3) := by decide +kernel
theorem dX1_start_31 : decode cX1_start 31 = .ok (.aload_n 0, 1) := by decide +kernel
theorem dX1_start_32 : decode cX1_start 32 = .ok (.iload_n 3, 1) := by decide +kernel
theorem dX1_start_33 : decode cX1_start 33 = .ok (.putfield 53, 3) := by decide +kernel
theorem dX1_start_36 : decode cX1_start 36 = .ok (.aload_n 0, 1) := by decide +kernel
theorem dX1_start_37 : decode cX1_start 37 = .ok (.iload 4, 2) := by decide +kernel
theorem dX1_start_39 : decode cX1_start 39 = .ok (.putfield 56, 3) := by decide +kernel
theorem dX1_start_42 : decode cX1_start 42 = .ok (.aload_n 0, 1) := by decide +kernel
theorem dX1_start_43 : decode cX1_start 43 = .ok (.iload_n 1, 1) := by decide +kernel
theorem dX1_start_44 : decode cX1_start 44 = .ok (.invokestatic 59, 3) := by decide +kernel
theorem dX1_start_47 : decode cX1_start 47 = .ok (.putfield 63, 3) := by decide +kernel
theorem dX1_start_50 : decode cX1_start 50 = .ok (.aload_n 0, 1) := by decide +kernel
theorem dX1_start_51 : decode cX1_start 51 = .ok (.iconst 0, 1) := by decide +kernel
theorem dX1_start_52 : decode cX1_start 52 = .ok (.putfield 66, 3) := by decide +kernel
theorem dX1_start_55 : decode cX1_start 55 = .ok (.aload_n 0, 1) := by decide +kernel
theorem dX1_start_56 : decode cX1_start 56 = .ok (.iconst 1, 1) := by decide +kernel
theorem dX1_start_57 : decode cX1_start 57 = .ok (.putfield 69, 3) := by decide +kernel
theorem dX1_start_60 : decode cX1_start 60 = .ok (.aload_n 0, 1) := by decide +kernel
theorem dX1_start_61 : decode cX1_start 61 = .ok (.iconst 1, 1) := by decide +kernel
theorem dX1_start_62 : decode cX1_start 62 = .ok (.putfield 20, 3) := by decide +kernel
theorem dX1_start_65 : decode cX1_start 65 = .ok (.aload_n 0, 1) := by decide +kernel
theorem dX1_start_66 : decode cX1_start 66 = .ok (.iconst (-1), 1) := by decide +kernel
theorem dX1_start_67 : decode cX1_start 67 = .ok (.putfield 33, 3) := by decide +kernel
theorem dX1_start_70 : decode cX1_start 70 = .ok (.aload_n 0, 1) := by decide +kernel
theorem dX1_start_71 : decode cX1_start 71 = .ok (.invokevirtual 72, 3) := by decide +kernel
theorem dX1_start_74 : decode cX1_start 74 = .ok (.aload_n 0, 1) := by decide +kernel
theorem dX1_start_75 : decode cX1_start 75 = .ok (.invokevirtual 75, 3) := by decide +kernel
theorem dX1_start_78 : decode cX1_start 78 = .ok (.aload_n 0, 1) := by decide +kernel
theorem dX1_start_79 : decode cX1_start 79 = .ok (.getfield 12, 3) := by decide +kernel
theorem dX1_start_82 : decode cX1_start 82 = .ok (.iload_n 1, 1) := by decide +kernel
theorem dX1_start_83 : decode cX1_start 83 = .ok (.iload_n 2, 1) := by decide +kernel
theorem dX1_start_84 : decode cX1_start 84 = .ok (.iload_n 3, 1) := by decide +kernel
theorem dX1_start_85 : decode cX1_start 85 = .ok (.iload 4, 2) := by decide +kernel
theorem dX1_start_87 : decode cX1_start 87 = .ok (.invokestatic 78, 3) := by decide +kernel
theorem dX1_start_90 : decode cX1_start 90 = .ok (.invokevirtual 82, 3) := by decide +kernel
theorem dX1_start_93 : decode cX1_start 93 = .ok (.aload_n 0, 1) := by decide +kernel
theorem dX1_start_94 : decode cX1_start 94 = .ok (.getfield 12, 3) := by decide +kernel
theorem dX1_start_97 : decode cX1_start 97 = .ok (.aload_n 0, 1) := by decide +kernel
theorem dX1_start_98 : decode cX1_start 98 = .ok (.iconst (-1), 1) := by decide +kernel
theorem dX1_start_99 : decode cX1_start 99 = .ok (.invokevirtual 86, 3) := by decide +kernel
theorem dX1_start_102 : decode cX1_start 102 = .ok (.invokevirtual 89, 3) := by decide +kernel
theorem dX1_start_105 : decode cX1_start 105 = .ok (.ireturn, 1) := by decide +kernel
theorem dX1_phase_0 : decode cX1_phase 0 = .ok (.aload_n 0, 1) := by decide +kernel
theorem dX1_phase_1 : decode cX1_phase 1 = .ok (.getfield 20, 3) := by decide +kernel
theorem dX1_phase_4 : decode cX1_phase 4 = .ok (.ireturn, 1) := by decide +kernel
set_option maxRecDepth 20000 in
theorem ggX1_claim_X1_requireGame : GoodIn wsX1_claim wsX1_requireGame := goodIn_ca (goodIn_r _ [7, 8, 9, 10, 75, 76, 77, 78, 79, 80, 81, 82, 83, 84, 85, 86, 87, 88] (by decide +kernel) (by decide +kernel)) (goodIn_sub (fun _ h => List.mem_cons_of_mem _ (List.mem_append_left _ (List.mem_append_left _ (List.mem_append_right _ h)))) (by decide +kernel))
set_option maxRecDepth 20000 in
theorem gX1_claim_X1_requireGame : GoodIn wsX1_claim (wsV RX1 92 RX1 yX1_requireGame wsX1_requireGame) := goodIn_app (goodIn_of _ (by decide +kernel)) ggX1_claim_X1_requireGame
set_option maxRecDepth 20000 in
theorem ggX1_claim_X1_requirePlayer : GoodIn wsX1_claim wsX1_requirePlayer := goodIn_ca (goodIn_r _ [14, 15, 16, 17, 75, 76, 77, 78, 79, 80, 81, 82, 83, 84, 85, 86, 87, 88] (by decide +kernel) (by decide +kernel)) (goodIn_sub (fun _ h => List.mem_cons_of_mem _ (List.mem_append_left _ (List.mem_append_right _ h))) (by decide +kernel))
set_option maxRecDepth 20000 in
theorem gX1_claim_X1_requirePlayer : GoodIn wsX1_claim (wsV RX1 95 RX1 yX1_requirePlayer wsX1_requirePlayer) := goodIn_app (goodIn_of _ (by decide +kernel)) ggX1_claim_X1_requirePlayer
set_option maxRecDepth 20000 in
theorem ggX1_claim_X1_claimedBits : GoodIn wsX1_claim wsX1_claimedBits := goodIn_r _ [20, 21, 22, 6, 23, 24, 25, 26] (by decide +kernel) (by decide +kernel)
set_option maxRecDepth 20000 in
theorem gX1_claim_X1_claimedBits : GoodIn wsX1_claim (va_wsS RX1 101 yX1_claimedBits wsX1_claimedBits) := goodIn_app (goodIn_of _ (by decide +kernel)) ggX1_claim_X1_claimedBits
set_option maxRecDepth 20000 in
theorem ggX1_claim_X1_makeClaim : GoodIn wsX1_claim wsX1_makeClaim := goodIn_ca (goodIn_r _ [30, 31, 32, 10, 33, 34, 35, 36, 6, 37, 38, 24, 25, 26, 39, 40, 41, 42, 43, 44, 45, 46, 47, 48, 49, 50, 51, 52, 53, 54, 17, 55, 56, 57, 58, 59, 60, 61, 62, 63, 64, 65, 66, 67, 68, 69, 70, 71, 72, 73, 74, 75, 76, 77, 78, 79, 80, 81, 82, 83, 84, 85, 86, 87, 88, 89, 90] (by decide +kernel) (by decide +kernel)) (goodIn_sub (fun _ h => List.mem_cons_of_mem _ (List.mem_append_right _ h)) (by decide +kernel))
set_option maxRecDepth 20000 in
theorem gX1_claim_X1_makeClaim : GoodIn wsX1_claim (wsV RX1 105 RX1 yX1_makeClaim wsX1_makeClaim) := goodIn_app (goodIn_of _ (by decide +kernel)) ggX1_claim_X1_makeClaim
theorem dX1_claim_0 : decode cX1_claim 0 = .ok (.aload_n 0, 1) := by decide +kernel
theorem dX1_claim_1 : decode cX1_claim 1 = .ok (.invokevirtual 92, 3) := by decide +kernel
theorem dX1_claim_4 : decode cX1_claim 4 = .ok (.aload_n 0, 1) := by decide +kernel
theorem dX1_claim_5 : decode cX1_claim 5 = .ok (.iload_n 1, 1) := by decide +kernel
theorem dX1_claim_6 : decode cX1_claim 6 = .ok (.invokevirtual 95, 3) := by decide +kernel
theorem dX1_claim_9 : decode cX1_claim 9 = .ok (.aload_n 0, 1) := by decide +kernel
theorem dX1_claim_10 : decode cX1_claim 10 = .ok (.iload_n 3, 1) := by decide +kernel
theorem dX1_claim_11 : decode cX1_claim 11 = .ok (.invokevirtual 95, 3) := by decide +kernel
theorem dX1_claim_14 : decode cX1_claim 14 = .ok (.iload_n 2, 1) := by decide +kernel
theorem dX1_claim_15 : decode cX1_claim 15 = .ok (.ifCond .lt 8, 3) := by decide +kernel
theorem dX1_claim_18 : decode cX1_claim 18 = .ok (.iload_n 2, 1) := by decide +kernel
theorem dX1_claim_19 : decode cX1_claim 19 = .ok (.iconst 3, 1) := by decide +kernel
theorem dX1_claim_20 : decode cX1_claim 20 = .ok (.if_icmp .le 13, 3) := by decide +kernel
theorem dX1_claim_23 : decode cX1_claim 23 = .ok (.new 40, 3) := by decide +kernel
theorem dX1_claim_26 : decode cX1_claim 26 = .ok (.dup, 1) := by decide +kernel
theorem dX1_claim_27 : decode cX1_claim 27 = .ok (.ldc 99, 2) := by decide +kernel
theorem dX1_claim_29 : decode cX1_claim 29 = .ok (.invokespecial 44, 3) := by decide +kernel
theorem dX1_claim_32 : decode cX1_claim 32 = .ok (.athrow, 1) := by decide +kernel
theorem dX1_claim_33 : decode cX1_claim 33 = .ok (.aload_n 0, 1) := by decide +kernel
theorem dX1_claim_34 : decode cX1_claim 34 = .ok (.iload_n 1, 1) := by decide +kernel
theorem dX1_claim_35 : decode cX1_claim 35 = .ok (.iload_n 2, 1) := by decide +kernel
theorem dX1_claim_36 : decode cX1_claim 36 = .ok (.iload_n 3, 1) := by decide +kernel
theorem dX1_claim_37 : decode cX1_claim 37 = .ok (.invokestatic 101, 3) := by decide +kernel
theorem dX1_claim_40 : decode cX1_claim 40 = .ok (.iload_n 2, 1) := by decide +kernel
theorem dX1_claim_41 : decode cX1_claim 41 = .ok (.iconst 1, 1) := by decide +kernel
theorem dX1_claim_42 : decode cX1_claim 42 = .ok (.if_icmp .eq 7, 3) := by decide +kernel
theorem dX1_claim_45 : decode cX1_claim 45 = .ok (.iconst 1, 1) := by decide +kernel
theorem dX1_claim_46 : decode cX1_claim 46 = .ok (.goto 4, 3) := by decide +kernel
theorem dX1_claim_49 : decode cX1_claim 49 = .ok (.iconst 0, 1) := by decide +kernel
theorem dX1_claim_50 : decode cX1_claim 50 = .ok (.invokevirtual 105, 3) := by decide +kernel
theorem dX1_claim_53 : decode cX1_claim 53 = .ok (.ireturn, 1) := by decide +kernel
set_option maxRecDepth 20000 in
theorem ggX1_claimAmong_X1_requireGame : GoodIn wsX1_claimAmong wsX1_requireGame := goodIn_ca (goodIn_r _ [8, 9, 10, 11, 69, 70, 71, 72, 73, 74, 75, 76, 77, 78, 79, 80, 81, 82] (by decide +kernel) (by decide +kernel)) (goodIn_sub (fun _ h => List.mem_cons_of_mem _ (List.mem_append_left _ (List.mem_append_left _ (List.mem_append_right _ h)))) (by decide +kernel))
set_option maxRecDepth 20000 in
theorem gX1_claimAmong_X1_requireGame : GoodIn wsX1_claimAmong (wsV RX1 92 RX1 yX1_requireGame wsX1_requireGame) := goodIn_app (goodIn_of _ (by decide +kernel)) ggX1_claimAmong_X1_requireGame
set_option maxRecDepth 20000 in
theorem ggX1_claimAmong_X1_requirePlayer : GoodIn wsX1_claimAmong wsX1_requirePlayer := goodIn_ca (goodIn_r _ [15, 16, 17, 3, 69, 70, 71, 72, 73, 74, 75, 76, 77, 78, 79, 80, 81, 82] (by decide +kernel) (by decide +kernel)) (goodIn_sub (fun _ h => List.mem_cons_of_mem _ (List.mem_append_left _ (List.mem_append_right _ h))) (by decide +kernel))
set_option maxRecDepth 20000 in
theorem gX1_claimAmong_X1_requirePlayer : GoodIn wsX1_claimAmong (wsV RX1 95 RX1 yX1_requirePlayer wsX1_requirePlayer) := goodIn_app (goodIn_of _ (by decide +kernel)) ggX1_claimAmong_X1_requirePlayer
set_option maxRecDepth 20000 in
theorem ggX1_claimAmong_X1_everyone : GoodIn wsX1_claimAmong wsX1_everyone := goodIn_r _ [20] (by decide +kernel) (by decide +kernel)
set_option maxRecDepth 20000 in
theorem gX1_claimAmong_X1_everyone : GoodIn wsX1_claimAmong (va_wsS RX1 59 yX1_everyone wsX1_everyone) := goodIn_app (goodIn_of _ (by decide +kernel)) ggX1_claimAmong_X1_everyone
set_option maxRecDepth 20000 in
theorem ggX1_claimAmong_X1_makeClaim : GoodIn wsX1_claimAmong wsX1_makeClaim := goodIn_ca (goodIn_r _ [24, 25, 26, 11, 27, 28, 29, 30, 7, 31, 32, 33, 34, 35, 36, 37, 38, 39, 40, 41, 42, 43, 44, 45, 46, 47, 48, 49, 50, 51, 3, 52, 53, 18, 19, 20, 54, 55, 56, 57, 58, 59, 60, 61, 62, 63, 64, 65, 66, 67, 68, 69, 70, 71, 72, 73, 74, 75, 76, 77, 78, 79, 80, 81, 82, 83, 84] (by decide +kernel) (by decide +kernel)) (goodIn_sub (fun _ h => List.mem_cons_of_mem _ (List.mem_append_right _ h)) (by decide +kernel))
set_option maxRecDepth 20000 in
theorem gX1_claimAmong_X1_makeClaim : GoodIn wsX1_claimAmong (wsV RX1 105 RX1 yX1_makeClaim wsX1_makeClaim) := goodIn_app (goodIn_of _ (by decide +kernel)) ggX1_claimAmong_X1_makeClaim
theorem dX1_claimAmong_0 : decode cX1_claimAmong 0 = .ok (.aload_n 0, 1) := by decide +kernel
theorem dX1_claimAmong_1 : decode cX1_claimAmong 1 = .ok (.invokevirtual 92, 3) := by decide +kernel
theorem dX1_claimAmong_4 : decode cX1_claimAmong 4 = .ok (.aload_n 0, 1) := by decide +kernel
theorem dX1_claimAmong_5 : decode cX1_claimAmong 5 = .ok (.iload_n 1, 1) := by decide +kernel
theorem dX1_claimAmong_6 : decode cX1_claimAmong 6 = .ok (.invokevirtual 95, 3) := by decide +kernel
theorem dX1_claimAmong_9 : decode cX1_claimAmong 9 = .ok (.iload_n 2, 1) := by decide +kernel
theorem dX1_claimAmong_10 : decode cX1_claimAmong 10 = .ok (.aload_n 0, 1) := by decide +kernel
theorem dX1_claimAmong_11 : decode cX1_claimAmong 11 = .ok (.getfield 47, 3) := by decide +kernel
theorem dX1_claimAmong_14 : decode cX1_claimAmong 14 = .ok (.invokestatic 59, 3) := by decide +kernel
theorem dX1_claimAmong_17 : decode cX1_claimAmong 17 = .ok (.iconst (-1), 1) := by decide +kernel
theorem dX1_claimAmong_18 : decode cX1_claimAmong 18 = .ok (.ixor, 1) := by decide +kernel
theorem dX1_claimAmong_19 : decode cX1_claimAmong 19 = .ok (.iand, 1) := by decide +kernel
theorem dX1_claimAmong_20 : decode cX1_claimAmong 20 = .ok (.ifCond .eq 13, 3) := by decide +kernel
theorem dX1_claimAmong_23 : decode cX1_claimAmong 23 = .ok (.new 40, 3) := by decide +kernel
theorem dX1_claimAmong_26 : decode cX1_claimAmong 26 = .ok (.dup, 1) := by decide +kernel
theorem dX1_claimAmong_27 : decode cX1_claimAmong 27 = .ok (.ldc 109, 2) := by decide +kernel
theorem dX1_claimAmong_29 : decode cX1_claimAmong 29 = .ok (.invokespecial 44, 3) := by decide +kernel
theorem dX1_claimAmong_32 : decode cX1_claimAmong 32 = .ok (.athrow, 1) := by decide +kernel
theorem dX1_claimAmong_33 : decode cX1_claimAmong 33 = .ok (.aload_n 0, 1) := by decide +kernel
theorem dX1_claimAmong_34 : decode cX1_claimAmong 34 = .ok (.iload_n 1, 1) := by decide +kernel
theorem dX1_claimAmong_35 : decode cX1_claimAmong 35 = .ok (.iload_n 2, 1) := by decide +kernel
theorem dX1_claimAmong_36 : decode cX1_claimAmong 36 = .ok (.iconst 1, 1) := by decide +kernel
theorem dX1_claimAmong_37 : decode cX1_claimAmong 37 = .ok (.invokevirtual 105, 3) := by decide +kernel
theorem dX1_claimAmong_40 : decode cX1_claimAmong 40 = .ok (.ireturn, 1) := by decide +kernel
set_option maxRecDepth 20000 in
theorem ggX1_vote_X1_requirePhase : GoodIn wsX1_vote wsX1_requirePhase := goodIn_ca (goodIn_r _ [8, 9, 10, 11, 31, 32, 33, 34, 35, 36, 37, 38, 39, 40, 41, 42, 43, 44] (by decide +kernel) (by decide +kernel)) (goodIn_sub (fun _ h => List.mem_cons_of_mem _ (List.mem_append_left _ (List.mem_append_right _ h))) (by decide +kernel))
set_option maxRecDepth 20000 in
theorem gX1_vote_X1_requirePhase : GoodIn wsX1_vote (wsV RX1 111 RX1 yX1_requirePhase wsX1_requirePhase) := goodIn_app (goodIn_of _ (by decide +kernel)) ggX1_vote_X1_requirePhase
set_option maxRecDepth 20000 in
theorem ggX1_vote_X1_requirePlayer : GoodIn wsX1_vote wsX1_requirePlayer := goodIn_ca (goodIn_r _ [15, 16, 17, 18, 31, 32, 33, 34, 35, 36, 37, 38, 39, 40, 41, 42, 43, 44] (by decide +kernel) (by decide +kernel)) (goodIn_sub (fun _ h => List.mem_cons_of_mem _ (List.mem_append_right _ h)) (by decide +kernel))
set_option maxRecDepth 20000 in
theorem gX1_vote_X1_requirePlayer : GoodIn wsX1_vote (wsV RX1 95 RX1 yX1_requirePlayer wsX1_requirePlayer) := goodIn_app (goodIn_of _ (by decide +kernel)) ggX1_vote_X1_requirePlayer
set_option maxRecDepth 20000 in
theorem ggX1_vote_X1_isAlive : GoodIn wsX1_vote wsX1_isAlive := goodIn_r _ [22, 23, 24, 25, 7, 26, 31, 32, 33, 34, 35, 36, 37, 38, 39, 40, 41, 42, 43, 44] (by decide +kernel) (by decide +kernel)
set_option maxRecDepth 20000 in
theorem gX1_vote_X1_isAlive : GoodIn wsX1_vote (wsV RX1 114 RX1 yX1_isAlive wsX1_isAlive) := goodIn_app (goodIn_of _ (by decide +kernel)) ggX1_vote_X1_isAlive
set_option maxRecDepth 20000 in
theorem ggX1_vote_X1_countVotes : GoodIn wsX1_vote wsX1_countVotes := goodIn_r _ [30, 3, 31, 32, 33, 34, 35, 36, 37, 38, 39, 40, 41, 42, 43, 44] (by decide +kernel) (by decide +kernel)
set_option maxRecDepth 20000 in
theorem gX1_vote_X1_countVotes : GoodIn wsX1_vote (wsV RX1 120 RX1 yX1_countVotes wsX1_countVotes) := goodIn_app (goodIn_of _ (by decide +kernel)) ggX1_vote_X1_countVotes
theorem dX1_vote_0 : decode cX1_vote 0 = .ok (.aload_n 0, 1) := by decide +kernel
theorem dX1_vote_1 : decode cX1_vote 1 = .ok (.iconst 1, 1) := by decide +kernel
theorem dX1_vote_2 : decode cX1_vote 2 = .ok (.invokevirtual 111, 3) := by decide +kernel
theorem dX1_vote_5 : decode cX1_vote 5 = .ok (.aload_n 0, 1) := by decide +kernel
theorem dX1_vote_6 : decode cX1_vote 6 = .ok (.iload_n 1, 1) := by decide +kernel
theorem dX1_vote_7 : decode cX1_vote 7 = .ok (.invokevirtual 95, 3) := by decide +kernel
theorem dX1_vote_10 : decode cX1_vote 10 = .ok (.aload_n 0, 1) := by decide +kernel
theorem dX1_vote_11 : decode cX1_vote 11 = .ok (.iload_n 2, 1) := by decide +kernel
theorem dX1_vote_12 : decode cX1_vote 12 = .ok (.invokevirtual 95, 3) := by decide +kernel
theorem dX1_vote_15 : decode cX1_vote 15 = .ok (.aload_n 0, 1) := by decide +kernel
theorem dX1_vote_16 : decode cX1_vote 16 = .ok (.iload_n 1, 1) := by decide +kernel
theorem dX1_vote_17 : decode cX1_vote 17 = .ok (.invokevirtual 114, 3) := by decide +kernel
theorem dX1_vote_20 : decode cX1_vote 20 = .ok (.ifCond .eq 11, 3) := by decide +kernel
theorem dX1_vote_23 : decode cX1_vote 23 = .ok (.aload_n 0, 1) := by decide +kernel
theorem dX1_vote_24 : decode cX1_vote 24 = .ok (.iload_n 2, 1) := by decide +kernel
theorem dX1_vote_25 : decode cX1_vote 25 = .ok (.invokevirtual 114, 3) := by decide +kernel
theorem dX1_vote_28 : decode cX1_vote 28 = .ok (.ifCond .ne 13, 3) := by decide +kernel
theorem dX1_vote_31 : decode cX1_vote 31 = .ok (.new 40, 3) := by decide +kernel
theorem dX1_vote_34 : decode cX1_vote 34 = .ok (.dup, 1) := by decide +kernel
theorem dX1_vote_35 : decode cX1_vote 35 = .ok (.ldc 118, 2) := by decide +kernel
theorem dX1_vote_37 : decode cX1_vote 37 = .ok (.invokespecial 44, 3) := by decide +kernel
theorem dX1_vote_40 : decode cX1_vote 40 = .ok (.athrow, 1) := by decide +kernel
theorem dX1_vote_41 : decode cX1_vote 41 = .ok (.aload_n 0, 1) := by decide +kernel
theorem dX1_vote_42 : decode cX1_vote 42 = .ok (.getfield 16, 3) := by decide +kernel
theorem dX1_vote_45 : decode cX1_vote 45 = .ok (.iload_n 1, 1) := by decide +kernel
theorem dX1_vote_46 : decode cX1_vote 46 = .ok (.iload_n 2, 1) := by decide +kernel
theorem dX1_vote_47 : decode cX1_vote 47 = .ok (.iastore, 1) := by decide +kernel
theorem dX1_vote_48 : decode cX1_vote 48 = .ok (.aload_n 0, 1) := by decide +kernel
theorem dX1_vote_49 : decode cX1_vote 49 = .ok (.iload_n 2, 1) := by decide +kernel
theorem dX1_vote_50 : decode cX1_vote 50 = .ok (.invokevirtual 120, 3) := by decide +kernel
theorem dX1_vote_53 : decode cX1_vote 53 = .ok (.ireturn, 1) := by decide +kernel
set_option maxRecDepth 20000 in
theorem ggX1_closeVote_X1_requirePhase : GoodIn wsX1_closeVote wsX1_requirePhase := goodIn_ca (goodIn_r _ [6, 7, 8, 1, 43, 44, 45, 46, 47, 48, 49, 50, 51, 52, 53, 54, 55, 56] (by decide +kernel) (by decide +kernel)) (goodIn_sub (fun _ h => List.mem_cons_of_mem _ (List.mem_append_right _ h)) (by decide +kernel))
set_option maxRecDepth 20000 in
theorem gX1_closeVote_X1_requirePhase : GoodIn wsX1_closeVote (wsV RX1 111 RX1 yX1_requirePhase wsX1_requirePhase) := goodIn_app (goodIn_of _ (by decide +kernel)) ggX1_closeVote_X1_requirePhase
set_option maxRecDepth 20000 in
theorem ggX1_closeVote_X1_playerWithMostVotes : GoodIn wsX1_closeVote wsX1_playerWithMostVotes := goodIn_r _ [12, 13, 14, 15, 16, 5, 17, 18, 43, 44, 45, 46, 47, 48, 49, 50, 51, 52, 53, 54, 55, 56] (by decide +kernel) (by decide +kernel)
set_option maxRecDepth 20000 in
theorem gX1_closeVote_X1_playerWithMostVotes : GoodIn wsX1_closeVote (wsV RX1 123 RX1 yX1_playerWithMostVotes wsX1_playerWithMostVotes) := goodIn_app (goodIn_of _ (by decide +kernel)) ggX1_closeVote_X1_playerWithMostVotes
set_option maxRecDepth 20000 in
theorem ggX1_closeVote_X1_forgetVotes : GoodIn wsX1_closeVote wsX1_forgetVotes := goodIn_r _ [22, 18, 23, 24, 25, 26, 43, 44, 45, 46, 47, 48, 49, 50, 51, 52, 53, 54, 55, 56] (by decide +kernel) (by decide +kernel)
set_option maxRecDepth 20000 in
theorem gX1_closeVote_X1_forgetVotes : GoodIn wsX1_closeVote (wsV RX1 72 RX1 yX1_forgetVotes wsX1_forgetVotes) := goodIn_app (goodIn_of _ (by decide +kernel)) ggX1_closeVote_X1_forgetVotes
set_option maxRecDepth 20000 in
theorem ggX1_closeVote_X1_die : GoodIn wsX1_closeVote wsX1_die := goodIn_r _ [30, 31, 32, 1, 33, 34, 5, 35, 36, 37, 38, 39, 40, 41, 42, 43, 44, 45, 46, 47, 48, 49, 50, 51, 52, 53, 54, 55, 56] (by decide +kernel) (by decide +kernel)
set_option maxRecDepth 20000 in
theorem gX1_closeVote_X1_die : GoodIn wsX1_closeVote (wsV RX1 127 RX1 yX1_die wsX1_die) := goodIn_app (goodIn_of _ (by decide +kernel)) ggX1_closeVote_X1_die
theorem dX1_closeVote_0 : decode cX1_closeVote 0 = .ok (.aload_n 0, 1) := by decide +kernel
theorem dX1_closeVote_1 : decode cX1_closeVote 1 = .ok (.iconst 1, 1) := by decide +kernel
theorem dX1_closeVote_2 : decode cX1_closeVote 2 = .ok (.invokevirtual 111, 3) := by decide +kernel
theorem dX1_closeVote_5 : decode cX1_closeVote 5 = .ok (.aload_n 0, 1) := by decide +kernel
theorem dX1_closeVote_6 : decode cX1_closeVote 6 = .ok (.invokevirtual 123, 3) := by decide +kernel
theorem dX1_closeVote_9 : decode cX1_closeVote 9 = .ok (.istore_n 1, 1) := by decide +kernel
theorem dX1_closeVote_10 : decode cX1_closeVote 10 = .ok (.aload_n 0, 1) := by decide +kernel
theorem dX1_closeVote_11 : decode cX1_closeVote 11 = .ok (.invokevirtual 72, 3) := by decide +kernel
theorem dX1_closeVote_14 : decode cX1_closeVote 14 = .ok (.aload_n 0, 1) := by decide +kernel
theorem dX1_closeVote_15 : decode cX1_closeVote 15 = .ok (.iconst 2, 1) := by decide +kernel
theorem dX1_closeVote_16 : decode cX1_closeVote 16 = .ok (.putfield 20, 3) := by decide +kernel
theorem dX1_closeVote_19 : decode cX1_closeVote 19 = .ok (.iload_n 1, 1) := by decide +kernel
theorem dX1_closeVote_20 : decode cX1_closeVote 20 = .ok (.iconst (-1), 1) := by decide +kernel
theorem dX1_closeVote_21 : decode cX1_closeVote 21 = .ok (.if_icmp .eq 8, 3) := by decide +kernel
theorem dX1_closeVote_24 : decode cX1_closeVote 24 = .ok (.aload_n 0, 1) := by decide +kernel
theorem dX1_closeVote_25 : decode cX1_closeVote 25 = .ok (.iload_n 1, 1) := by decide +kernel
theorem dX1_closeVote_26 : decode cX1_closeVote 26 = .ok (.invokevirtual 127, 3) := by decide +kernel
theorem dX1_closeVote_29 : decode cX1_closeVote 29 = .ok (.iload_n 1, 1) := by decide +kernel
theorem dX1_closeVote_30 : decode cX1_closeVote 30 = .ok (.ireturn, 1) := by decide +kernel
set_option maxRecDepth 20000 in
theorem ggX1_protect_X1_requirePhase : GoodIn wsX1_protect wsX1_requirePhase := goodIn_ca (goodIn_r _ [10, 11, 12, 13, 33, 34, 35, 36, 37, 38, 39, 40, 41, 42, 43, 44, 45, 46] (by decide +kernel) (by decide +kernel)) (goodIn_sub (fun _ h => List.mem_cons_of_mem _ (List.mem_append_left _ (List.mem_append_right _ h))) (by decide +kernel))
set_option maxRecDepth 20000 in
theorem gX1_protect_X1_requirePhase : GoodIn wsX1_protect (wsV RX1 111 RX1 yX1_requirePhase wsX1_requirePhase) := goodIn_app (goodIn_of _ (by decide +kernel)) ggX1_protect_X1_requirePhase
set_option maxRecDepth 20000 in
theorem ggX1_protect_X1_requireToLive : GoodIn wsX1_protect wsX1_requireToLive := goodIn_ca (goodIn_r _ [17, 11, 12, 18, 19, 20, 9, 21, 22, 23, 24, 25, 33, 34, 35, 36, 37, 38, 39, 40, 41, 42, 43, 44, 45, 46] (by decide +kernel) (by decide +kernel)) (goodIn_sub (fun _ h => List.mem_cons_of_mem _ (List.mem_append_left _ (List.mem_append_right _ h))) (by decide +kernel))
set_option maxRecDepth 20000 in
theorem gX1_protect_X1_requireToLive : GoodIn wsX1_protect (wsV RX1 130 RX1 yX1_requireToLive wsX1_requireToLive) := goodIn_app (goodIn_of _ (by decide +kernel)) ggX1_protect_X1_requireToLive
set_option maxRecDepth 20000 in
theorem ggX1_protect_X1_requirePlayer : GoodIn wsX1_protect wsX1_requirePlayer := goodIn_ca (goodIn_r _ [29, 30, 31, 32, 33, 34, 35, 36, 37, 38, 39, 40, 41, 42, 43, 44, 45, 46] (by decide +kernel) (by decide +kernel)) (goodIn_sub (fun _ h => List.mem_cons_of_mem _ (List.mem_append_right _ h)) (by decide +kernel))
set_option maxRecDepth 20000 in
theorem gX1_protect_X1_requirePlayer : GoodIn wsX1_protect (wsV RX1 95 RX1 yX1_requirePlayer wsX1_requirePlayer) := goodIn_app (goodIn_of _ (by decide +kernel)) ggX1_protect_X1_requirePlayer
set_option maxRecDepth 20000 in
theorem ggX1_protect_X1_isAlive : GoodIn wsX1_protect wsX1_isAlive := goodIn_r _ [21, 22, 23, 24, 9, 25, 33, 34, 35, 36, 37, 38, 39, 40, 41, 42, 43, 44, 45, 46] (by decide +kernel) (by decide +kernel)
set_option maxRecDepth 20000 in
theorem gX1_protect_X1_isAlive : GoodIn wsX1_protect (wsV RX1 114 RX1 yX1_isAlive wsX1_isAlive) := goodIn_app (goodIn_of _ (by decide +kernel)) ggX1_protect_X1_isAlive
theorem dX1_protect_0 : decode cX1_protect 0 = .ok (.aload_n 0, 1) := by decide +kernel
theorem dX1_protect_1 : decode cX1_protect 1 = .ok (.iconst 2, 1) := by decide +kernel
theorem dX1_protect_2 : decode cX1_protect 2 = .ok (.invokevirtual 111, 3) := by decide +kernel
theorem dX1_protect_5 : decode cX1_protect 5 = .ok (.aload_n 0, 1) := by decide +kernel
theorem dX1_protect_6 : decode cX1_protect 6 = .ok (.aload_n 0, 1) := by decide +kernel
theorem dX1_protect_7 : decode cX1_protect 7 = .ok (.getfield 56, 3) := by decide +kernel
theorem dX1_protect_10 : decode cX1_protect 10 = .ok (.invokevirtual 130, 3) := by decide +kernel
theorem dX1_protect_13 : decode cX1_protect 13 = .ok (.aload_n 0, 1) := by decide +kernel
theorem dX1_protect_14 : decode cX1_protect 14 = .ok (.iload_n 1, 1) := by decide +kernel
theorem dX1_protect_15 : decode cX1_protect 15 = .ok (.invokevirtual 95, 3) := by decide +kernel
theorem dX1_protect_18 : decode cX1_protect 18 = .ok (.aload_n 0, 1) := by decide +kernel
theorem dX1_protect_19 : decode cX1_protect 19 = .ok (.iload_n 1, 1) := by decide +kernel
theorem dX1_protect_20 : decode cX1_protect 20 = .ok (.invokevirtual 114, 3) := by decide +kernel
theorem dX1_protect_23 : decode cX1_protect 23 = .ok (.ifCond .eq 11, 3) := by decide +kernel
theorem dX1_protect_26 : decode cX1_protect 26 = .ok (.iload_n 1, 1) := by decide +kernel
theorem dX1_protect_27 : decode cX1_protect 27 = .ok (.aload_n 0, 1) := by decide +kernel
theorem dX1_protect_28 : decode cX1_protect 28 = .ok (.getfield 33, 3) := by decide +kernel
theorem dX1_protect_31 : decode cX1_protect 31 = .ok (.if_icmp .ne 13, 3) := by decide +kernel
theorem dX1_protect_34 : decode cX1_protect 34 = .ok (.new 40, 3) := by decide +kernel
theorem dX1_protect_37 : decode cX1_protect 37 = .ok (.dup, 1) := by decide +kernel
theorem dX1_protect_38 : decode cX1_protect 38 = .ok (.ldc 133, 2) := by decide +kernel
theorem dX1_protect_40 : decode cX1_protect 40 = .ok (.invokespecial 44, 3) := by decide +kernel
theorem dX1_protect_43 : decode cX1_protect 43 = .ok (.athrow, 1) := by decide +kernel
theorem dX1_protect_44 : decode cX1_protect 44 = .ok (.aload_n 0, 1) := by decide +kernel
theorem dX1_protect_45 : decode cX1_protect 45 = .ok (.getfield 24, 3) := by decide +kernel
theorem dX1_protect_48 : decode cX1_protect 48 = .ok (.istore_n 2, 1) := by decide +kernel
theorem dX1_protect_49 : decode cX1_protect 49 = .ok (.aload_n 0, 1) := by decide +kernel
theorem dX1_protect_50 : decode cX1_protect 50 = .ok (.iload_n 1, 1) := by decide +kernel
theorem dX1_protect_51 : decode cX1_protect 51 = .ok (.putfield 24, 3) := by decide +kernel
theorem dX1_protect_54 : decode cX1_protect 54 = .ok (.iload_n 2, 1) := by decide +kernel
theorem dX1_protect_55 : decode cX1_protect 55 = .ok (.ireturn, 1) := by decide +kernel
set_option maxRecDepth 20000 in
theorem ggX1_attack_X1_requirePhase : GoodIn wsX1_attack wsX1_requirePhase := goodIn_ca (goodIn_r _ [8, 9, 10, 11, 32, 33, 34, 35, 36, 37, 38, 39, 40, 41, 42, 43, 44, 45] (by decide +kernel) (by decide +kernel)) (goodIn_sub (fun _ h => List.mem_cons_of_mem _ (List.mem_append_left _ (List.mem_append_right _ h))) (by decide +kernel))
set_option maxRecDepth 20000 in
theorem gX1_attack_X1_requirePhase : GoodIn wsX1_attack (wsV RX1 111 RX1 yX1_requirePhase wsX1_requirePhase) := goodIn_app (goodIn_of _ (by decide +kernel)) ggX1_attack_X1_requirePhase
set_option maxRecDepth 20000 in
theorem ggX1_attack_X1_requirePlayer : GoodIn wsX1_attack wsX1_requirePlayer := goodIn_ca (goodIn_r _ [15, 16, 17, 18, 32, 33, 34, 35, 36, 37, 38, 39, 40, 41, 42, 43, 44, 45] (by decide +kernel) (by decide +kernel)) (goodIn_sub (fun _ h => List.mem_cons_of_mem _ (List.mem_append_right _ h)) (by decide +kernel))
set_option maxRecDepth 20000 in
theorem gX1_attack_X1_requirePlayer : GoodIn wsX1_attack (wsV RX1 95 RX1 yX1_requirePlayer wsX1_requirePlayer) := goodIn_app (goodIn_of _ (by decide +kernel)) ggX1_attack_X1_requirePlayer
set_option maxRecDepth 20000 in
theorem ggX1_attack_X1_isAlive : GoodIn wsX1_attack wsX1_isAlive := goodIn_r _ [22, 23, 24, 25, 7, 26, 32, 33, 34, 35, 36, 37, 38, 39, 40, 41, 42, 43, 44, 45] (by decide +kernel) (by decide +kernel)
set_option maxRecDepth 20000 in
theorem gX1_attack_X1_isAlive : GoodIn wsX1_attack (wsV RX1 114 RX1 yX1_isAlive wsX1_isAlive) := goodIn_app (goodIn_of _ (by decide +kernel)) ggX1_attack_X1_isAlive
set_option maxRecDepth 20000 in
theorem ggX1_attack_X1_isWitch : GoodIn wsX1_attack wsX1_isWitch := goodIn_r _ [30, 31, 24, 25, 7, 26, 32, 33, 34, 35, 36, 37, 38, 39, 40, 41, 42, 43, 44, 45] (by decide +kernel) (by decide +kernel)
set_option maxRecDepth 20000 in
theorem gX1_attack_X1_isWitch : GoodIn wsX1_attack (wsV RX1 135 RX1 yX1_isWitch wsX1_isWitch) := goodIn_app (goodIn_of _ (by decide +kernel)) ggX1_attack_X1_isWitch
theorem dX1_attack_0 : decode cX1_attack 0 = .ok (.aload_n 0, 1) := by decide +kernel
theorem dX1_attack_1 : decode cX1_attack 1 = .ok (.iconst 2, 1) := by decide +kernel
theorem dX1_attack_2 : decode cX1_attack 2 = .ok (.invokevirtual 111, 3) := by decide +kernel
theorem dX1_attack_5 : decode cX1_attack 5 = .ok (.aload_n 0, 1) := by decide +kernel
theorem dX1_attack_6 : decode cX1_attack 6 = .ok (.iload_n 1, 1) := by decide +kernel
theorem dX1_attack_7 : decode cX1_attack 7 = .ok (.invokevirtual 95, 3) := by decide +kernel
theorem dX1_attack_10 : decode cX1_attack 10 = .ok (.aload_n 0, 1) := by decide +kernel
theorem dX1_attack_11 : decode cX1_attack 11 = .ok (.iload_n 1, 1) := by decide +kernel
theorem dX1_attack_12 : decode cX1_attack 12 = .ok (.invokevirtual 114, 3) := by decide +kernel
theorem dX1_attack_15 : decode cX1_attack 15 = .ok (.ifCond .eq 11, 3) := by decide +kernel
theorem dX1_attack_18 : decode cX1_attack 18 = .ok (.aload_n 0, 1) := by decide +kernel
theorem dX1_attack_19 : decode cX1_attack 19 = .ok (.iload_n 1, 1) := by decide +kernel
theorem dX1_attack_20 : decode cX1_attack 20 = .ok (.invokevirtual 135, 3) := by decide +kernel
theorem dX1_attack_23 : decode cX1_attack 23 = .ok (.ifCond .eq 13, 3) := by decide +kernel
theorem dX1_attack_26 : decode cX1_attack 26 = .ok (.new 40, 3) := by decide +kernel
theorem dX1_attack_29 : decode cX1_attack 29 = .ok (.dup, 1) := by decide +kernel
theorem dX1_attack_30 : decode cX1_attack 30 = .ok (.ldc 138, 2) := by decide +kernel
theorem dX1_attack_32 : decode cX1_attack 32 = .ok (.invokespecial 44, 3) := by decide +kernel
theorem dX1_attack_35 : decode cX1_attack 35 = .ok (.athrow, 1) := by decide +kernel
theorem dX1_attack_36 : decode cX1_attack 36 = .ok (.aload_n 0, 1) := by decide +kernel
theorem dX1_attack_37 : decode cX1_attack 37 = .ok (.getfield 27, 3) := by decide +kernel
theorem dX1_attack_40 : decode cX1_attack 40 = .ok (.istore_n 2, 1) := by decide +kernel
theorem dX1_attack_41 : decode cX1_attack 41 = .ok (.aload_n 0, 1) := by decide +kernel
theorem dX1_attack_42 : decode cX1_attack 42 = .ok (.iload_n 1, 1) := by decide +kernel
theorem dX1_attack_43 : decode cX1_attack 43 = .ok (.putfield 27, 3) := by decide +kernel
theorem dX1_attack_46 : decode cX1_attack 46 = .ok (.iload_n 2, 1) := by decide +kernel
theorem dX1_attack_47 : decode cX1_attack 47 = .ok (.ireturn, 1) := by decide +kernel
set_option maxRecDepth 20000 in
theorem ggX1_look_X1_requirePhase : GoodIn wsX1_look wsX1_requirePhase := goodIn_ca (goodIn_r _ [9, 10, 11, 12, 32, 33, 34, 35, 36, 37, 38, 39, 40, 41, 42, 43, 44, 45] (by decide +kernel) (by decide +kernel)) (goodIn_sub (fun _ h => List.mem_cons_of_mem _ (List.mem_append_left _ (List.mem_append_right _ h))) (by decide +kernel))
set_option maxRecDepth 20000 in
theorem gX1_look_X1_requirePhase : GoodIn wsX1_look (wsV RX1 111 RX1 yX1_requirePhase wsX1_requirePhase) := goodIn_app (goodIn_of _ (by decide +kernel)) ggX1_look_X1_requirePhase
set_option maxRecDepth 20000 in
theorem ggX1_look_X1_requireToLive : GoodIn wsX1_look wsX1_requireToLive := goodIn_ca (goodIn_r _ [16, 10, 11, 17, 18, 19, 8, 20, 21, 22, 23, 24, 32, 33, 34, 35, 36, 37, 38, 39, 40, 41, 42, 43, 44, 45] (by decide +kernel) (by decide +kernel)) (goodIn_sub (fun _ h => List.mem_cons_of_mem _ (List.mem_append_left _ (List.mem_append_right _ h))) (by decide +kernel))
set_option maxRecDepth 20000 in
theorem gX1_look_X1_requireToLive : GoodIn wsX1_look (wsV RX1 130 RX1 yX1_requireToLive wsX1_requireToLive) := goodIn_app (goodIn_of _ (by decide +kernel)) ggX1_look_X1_requireToLive
set_option maxRecDepth 20000 in
theorem ggX1_look_X1_requirePlayer : GoodIn wsX1_look wsX1_requirePlayer := goodIn_ca (goodIn_r _ [28, 29, 30, 31, 32, 33, 34, 35, 36, 37, 38, 39, 40, 41, 42, 43, 44, 45] (by decide +kernel) (by decide +kernel)) (goodIn_sub (fun _ h => List.mem_cons_of_mem _ (List.mem_append_right _ h)) (by decide +kernel))
set_option maxRecDepth 20000 in
theorem gX1_look_X1_requirePlayer : GoodIn wsX1_look (wsV RX1 95 RX1 yX1_requirePlayer wsX1_requirePlayer) := goodIn_app (goodIn_of _ (by decide +kernel)) ggX1_look_X1_requirePlayer
set_option maxRecDepth 20000 in
theorem ggX1_look_X1_isAlive : GoodIn wsX1_look wsX1_isAlive := goodIn_r _ [20, 21, 22, 23, 8, 24, 32, 33, 34, 35, 36, 37, 38, 39, 40, 41, 42, 43, 44, 45] (by decide +kernel) (by decide +kernel)
set_option maxRecDepth 20000 in
theorem gX1_look_X1_isAlive : GoodIn wsX1_look (wsV RX1 114 RX1 yX1_isAlive wsX1_isAlive) := goodIn_app (goodIn_of _ (by decide +kernel)) ggX1_look_X1_isAlive
theorem dX1_look_0 : decode cX1_look 0 = .ok (.aload_n 0, 1) := by decide +kernel
theorem dX1_look_1 : decode cX1_look 1 = .ok (.iconst 2, 1) := by decide +kernel
theorem dX1_look_2 : decode cX1_look 2 = .ok (.invokevirtual 111, 3) := by decide +kernel
theorem dX1_look_5 : decode cX1_look 5 = .ok (.aload_n 0, 1) := by decide +kernel
theorem dX1_look_6 : decode cX1_look 6 = .ok (.aload_n 0, 1) := by decide +kernel
theorem dX1_look_7 : decode cX1_look 7 = .ok (.getfield 53, 3) := by decide +kernel
theorem dX1_look_10 : decode cX1_look 10 = .ok (.invokevirtual 130, 3) := by decide +kernel
theorem dX1_look_13 : decode cX1_look 13 = .ok (.aload_n 0, 1) := by decide +kernel
theorem dX1_look_14 : decode cX1_look 14 = .ok (.iload_n 1, 1) := by decide +kernel
theorem dX1_look_15 : decode cX1_look 15 = .ok (.invokevirtual 95, 3) := by decide +kernel
theorem dX1_look_18 : decode cX1_look 18 = .ok (.aload_n 0, 1) := by decide +kernel
theorem dX1_look_19 : decode cX1_look 19 = .ok (.iload_n 1, 1) := by decide +kernel
theorem dX1_look_20 : decode cX1_look 20 = .ok (.invokevirtual 114, 3) := by decide +kernel
theorem dX1_look_23 : decode cX1_look 23 = .ok (.ifCond .eq 11, 3) := by decide +kernel
theorem dX1_look_26 : decode cX1_look 26 = .ok (.iload_n 1, 1) := by decide +kernel
theorem dX1_look_27 : decode cX1_look 27 = .ok (.aload_n 0, 1) := by decide +kernel
theorem dX1_look_28 : decode cX1_look 28 = .ok (.getfield 53, 3) := by decide +kernel
theorem dX1_look_31 : decode cX1_look 31 = .ok (.if_icmp .ne 13, 3) := by decide +kernel
theorem dX1_look_34 : decode cX1_look 34 = .ok (.new 40, 3) := by decide +kernel
theorem dX1_look_37 : decode cX1_look 37 = .ok (.dup, 1) := by decide +kernel
theorem dX1_look_38 : decode cX1_look 38 = .ok (.ldc 140, 2) := by decide +kernel
theorem dX1_look_40 : decode cX1_look 40 = .ok (.invokespecial 44, 3) := by decide +kernel
theorem dX1_look_43 : decode cX1_look 43 = .ok (.athrow, 1) := by decide +kernel
theorem dX1_look_44 : decode cX1_look 44 = .ok (.aload_n 0, 1) := by decide +kernel
theorem dX1_look_45 : decode cX1_look 45 = .ok (.getfield 30, 3) := by decide +kernel
theorem dX1_look_48 : decode cX1_look 48 = .ok (.istore_n 2, 1) := by decide +kernel
theorem dX1_look_49 : decode cX1_look 49 = .ok (.aload_n 0, 1) := by decide +kernel
theorem dX1_look_50 : decode cX1_look 50 = .ok (.iload_n 1, 1) := by decide +kernel
theorem dX1_look_51 : decode cX1_look 51 = .ok (.putfield 30, 3) := by decide +kernel
theorem dX1_look_54 : decode cX1_look 54 = .ok (.iload_n 2, 1) := by decide +kernel
theorem dX1_look_55 : decode cX1_look 55 = .ok (.ireturn, 1) := by decide +kernel
set_option maxRecDepth 20000 in
theorem ggX1_endNight_X1_requirePhase : GoodIn wsX1_endNight wsX1_requirePhase := goodIn_ca (goodIn_r _ [10, 11, 12, 3, 44, 45, 46, 47, 48, 49, 50, 51, 52, 53, 54, 55, 56, 57] (by decide +kernel) (by decide +kernel)) (goodIn_sub (fun _ h => List.mem_cons_of_mem _ (List.mem_append_right _ h)) (by decide +kernel))
set_option maxRecDepth 20000 in
theorem gX1_endNight_X1_requirePhase : GoodIn wsX1_endNight (wsV RX1 111 RX1 yX1_requirePhase wsX1_requirePhase) := goodIn_app (goodIn_of _ (by decide +kernel)) ggX1_endNight_X1_requirePhase
set_option maxRecDepth 20000 in
theorem ggX1_endNight_X1_die : GoodIn wsX1_endNight wsX1_die := goodIn_r _ [16, 17, 18, 3, 19, 20, 9, 21, 22, 23, 24, 25, 26, 27, 28, 44, 45, 46, 47, 48, 49, 50, 51, 52, 53, 54, 55, 56, 57] (by decide +kernel) (by decide +kernel)
set_option maxRecDepth 20000 in
theorem gX1_endNight_X1_die : GoodIn wsX1_endNight (wsV RX1 127 RX1 yX1_die wsX1_die) := goodIn_app (goodIn_of _ (by decide +kernel)) ggX1_endNight_X1_die
set_option maxRecDepth 20000 in
theorem ggX1_endNight_X1_seerLooks : GoodIn wsX1_endNight wsX1_seerLooks := goodIn_r _ [32, 33, 34, 35, 36, 37, 38, 9, 39, 17, 19, 20, 21, 44, 45, 46, 47, 48, 49, 50, 51, 52, 53, 54, 55, 56, 57] (by decide +kernel) (by decide +kernel)
set_option maxRecDepth 20000 in
theorem gX1_endNight_X1_seerLooks : GoodIn wsX1_endNight (wsV RX1 142 RX1 yX1_seerLooks wsX1_seerLooks) := goodIn_app (goodIn_of _ (by decide +kernel)) ggX1_endNight_X1_seerLooks
set_option maxRecDepth 20000 in
theorem ggX1_endNight_X1_forgetChoices : GoodIn wsX1_endNight wsX1_forgetChoices := goodIn_r _ [43, 2, 1, 33, 44, 45, 46, 47, 48, 49, 50, 51, 52, 53, 54, 55, 56, 57] (by decide +kernel) (by decide +kernel)
set_option maxRecDepth 20000 in
theorem gX1_endNight_X1_forgetChoices : GoodIn wsX1_endNight (wsV RX1 75 RX1 yX1_forgetChoices wsX1_forgetChoices) := goodIn_app (goodIn_of _ (by decide +kernel)) ggX1_endNight_X1_forgetChoices
theorem dX1_endNight_0 : decode cX1_endNight 0 = .ok (.aload_n 0, 1) := by decide +kernel
theorem dX1_endNight_1 : decode cX1_endNight 1 = .ok (.iconst 2, 1) := by decide +kernel
theorem dX1_endNight_2 : decode cX1_endNight 2 = .ok (.invokevirtual 111, 3) := by decide +kernel
theorem dX1_endNight_5 : decode cX1_endNight 5 = .ok (.aload_n 0, 1) := by decide +kernel
theorem dX1_endNight_6 : decode cX1_endNight 6 = .ok (.getfield 27, 3) := by decide +kernel
theorem dX1_endNight_9 : decode cX1_endNight 9 = .ok (.aload_n 0, 1) := by decide +kernel
theorem dX1_endNight_10 : decode cX1_endNight 10 = .ok (.getfield 24, 3) := by decide +kernel
theorem dX1_endNight_13 : decode cX1_endNight 13 = .ok (.if_icmp .ne 7, 3) := by decide +kernel
theorem dX1_endNight_16 : decode cX1_endNight 16 = .ok (.iconst (-1), 1) := by decide +kernel
theorem dX1_endNight_17 : decode cX1_endNight 17 = .ok (.goto 7, 3) := by decide +kernel
theorem dX1_endNight_20 : decode cX1_endNight 20 = .ok (.aload_n 0, 1) := by decide +kernel
theorem dX1_endNight_21 : decode cX1_endNight 21 = .ok (.getfield 27, 3) := by decide +kernel
theorem dX1_endNight_24 : decode cX1_endNight 24 = .ok (.istore_n 1, 1) := by decide +kernel
theorem dX1_endNight_25 : decode cX1_endNight 25 = .ok (.iload_n 1, 1) := by decide +kernel
theorem dX1_endNight_26 : decode cX1_endNight 26 = .ok (.iconst (-1), 1) := by decide +kernel
theorem dX1_endNight_27 : decode cX1_endNight 27 = .ok (.if_icmp .eq 8, 3) := by decide +kernel
theorem dX1_endNight_30 : decode cX1_endNight 30 = .ok (.aload_n 0, 1) := by decide +kernel
theorem dX1_endNight_31 : decode cX1_endNight 31 = .ok (.iload_n 1, 1) := by decide +kernel
theorem dX1_endNight_32 : decode cX1_endNight 32 = .ok (.invokevirtual 127, 3) := by decide +kernel
theorem dX1_endNight_35 : decode cX1_endNight 35 = .ok (.aload_n 0, 1) := by decide +kernel
theorem dX1_endNight_36 : decode cX1_endNight 36 = .ok (.getfield 20, 3) := by decide +kernel
theorem dX1_endNight_39 : decode cX1_endNight 39 = .ok (.iconst 2, 1) := by decide +kernel
theorem dX1_endNight_40 : decode cX1_endNight 40 = .ok (.if_icmp .ne 22, 3) := by decide +kernel
theorem dX1_endNight_43 : decode cX1_endNight 43 = .ok (.aload_n 0, 1) := by decide +kernel
theorem dX1_endNight_44 : decode cX1_endNight 44 = .ok (.invokevirtual 142, 3) := by decide +kernel
theorem dX1_endNight_47 : decode cX1_endNight 47 = .ok (.aload_n 0, 1) := by decide +kernel
theorem dX1_endNight_48 : decode cX1_endNight 48 = .ok (.dup, 1) := by decide +kernel
theorem dX1_endNight_49 : decode cX1_endNight 49 = .ok (.getfield 69, 3) := by decide +kernel
theorem dX1_endNight_52 : decode cX1_endNight 52 = .ok (.iconst 1, 1) := by decide +kernel
theorem dX1_endNight_53 : decode cX1_endNight 53 = .ok (.iadd, 1) := by decide +kernel
theorem dX1_endNight_54 : decode cX1_endNight 54 = .ok (.putfield 69, 3) := by decide +kernel
theorem dX1_endNight_57 : decode cX1_endNight 57 = .ok (.aload_n 0, 1) := by decide +kernel
theorem dX1_endNight_58 : decode cX1_endNight 58 = .ok (.iconst 1, 1) := by decide +kernel
theorem dX1_endNight_59 : decode cX1_endNight 59 = .ok (.putfield 20, 3) := by decide +kernel
theorem dX1_endNight_62 : decode cX1_endNight 62 = .ok (.aload_n 0, 1) := by decide +kernel
theorem dX1_endNight_63 : decode cX1_endNight 63 = .ok (.aload_n 0, 1) := by decide +kernel
theorem dX1_endNight_64 : decode cX1_endNight 64 = .ok (.getfield 24, 3) := by decide +kernel
theorem dX1_endNight_67 : decode cX1_endNight 67 = .ok (.putfield 33, 3) := by decide +kernel
theorem dX1_endNight_70 : decode cX1_endNight 70 = .ok (.aload_n 0, 1) := by decide +kernel
theorem dX1_endNight_71 : decode cX1_endNight 71 = .ok (.invokevirtual 75, 3) := by decide +kernel
theorem dX1_endNight_74 : decode cX1_endNight 74 = .ok (.iload_n 1, 1) := by decide +kernel
theorem dX1_endNight_75 : decode cX1_endNight 75 = .ok (.ireturn, 1) := by decide +kernel
set_option maxRecDepth 20000 in
theorem ggX1_day_X1_requireGame : GoodIn wsX1_day wsX1_requireGame := goodIn_ca (goodIn_r _ [6, 7, 8, 9, 10, 11, 12, 13, 14, 15, 16, 17, 18, 19, 20, 21, 22, 23] (by decide +kernel) (by decide +kernel)) (goodIn_sub (fun _ h => List.mem_cons_of_mem _ (List.mem_append_right _ h)) (by decide +kernel))
set_option maxRecDepth 20000 in
theorem gX1_day_X1_requireGame : GoodIn wsX1_day (wsV RX1 92 RX1 yX1_requireGame wsX1_requireGame) := goodIn_app (goodIn_of _ (by decide +kernel)) ggX1_day_X1_requireGame
theorem dX1_day_0 : decode cX1_day 0 = .ok (.aload_n 0, 1) := by decide +kernel
theorem dX1_day_1 : decode cX1_day 1 = .ok (.invokevirtual 92, 3) := by decide +kernel
theorem dX1_day_4 : decode cX1_day 4 = .ok (.aload_n 0, 1) := by decide +kernel
theorem dX1_day_5 : decode cX1_day 5 = .ok (.getfield 69, 3) := by decide +kernel
theorem dX1_day_8 : decode cX1_day 8 = .ok (.ireturn, 1) := by decide +kernel
set_option maxRecDepth 20000 in
theorem ggX1_alive_X1_requireGame : GoodIn wsX1_alive wsX1_requireGame := goodIn_ca (goodIn_r _ [6, 7, 8, 9, 10, 11, 12, 13, 14, 15, 16, 17, 18, 19, 20, 21, 22, 23] (by decide +kernel) (by decide +kernel)) (goodIn_sub (fun _ h => List.mem_cons_of_mem _ (List.mem_append_right _ h)) (by decide +kernel))
set_option maxRecDepth 20000 in
theorem gX1_alive_X1_requireGame : GoodIn wsX1_alive (wsV RX1 92 RX1 yX1_requireGame wsX1_requireGame) := goodIn_app (goodIn_of _ (by decide +kernel)) ggX1_alive_X1_requireGame
theorem dX1_alive_0 : decode cX1_alive 0 = .ok (.aload_n 0, 1) := by decide +kernel
theorem dX1_alive_1 : decode cX1_alive 1 = .ok (.invokevirtual 92, 3) := by decide +kernel
theorem dX1_alive_4 : decode cX1_alive 4 = .ok (.aload_n 0, 1) := by decide +kernel
theorem dX1_alive_5 : decode cX1_alive 5 = .ok (.getfield 63, 3) := by decide +kernel
theorem dX1_alive_8 : decode cX1_alive 8 = .ok (.ireturn, 1) := by decide +kernel
set_option maxRecDepth 20000 in
theorem ggX1_votesFor_X1_requireGame : GoodIn wsX1_votesFor wsX1_requireGame := goodIn_ca (goodIn_r _ [5, 6, 7, 8, 21, 22, 23, 24, 25, 26, 27, 28, 29, 30, 31, 32, 33, 34] (by decide +kernel) (by decide +kernel)) (goodIn_sub (fun _ h => List.mem_cons_of_mem _ (List.mem_append_left _ (List.mem_append_right _ h))) (by decide +kernel))
set_option maxRecDepth 20000 in
theorem gX1_votesFor_X1_requireGame : GoodIn wsX1_votesFor (wsV RX1 92 RX1 yX1_requireGame wsX1_requireGame) := goodIn_app (goodIn_of _ (by decide +kernel)) ggX1_votesFor_X1_requireGame
set_option maxRecDepth 20000 in
theorem ggX1_votesFor_X1_requirePlayer : GoodIn wsX1_votesFor wsX1_requirePlayer := goodIn_ca (goodIn_r _ [12, 13, 14, 15, 21, 22, 23, 24, 25, 26, 27, 28, 29, 30, 31, 32, 33, 34] (by decide +kernel) (by decide +kernel)) (goodIn_sub (fun _ h => List.mem_cons_of_mem _ (List.mem_append_right _ h)) (by decide +kernel))
set_option maxRecDepth 20000 in
theorem gX1_votesFor_X1_requirePlayer : GoodIn wsX1_votesFor (wsV RX1 95 RX1 yX1_requirePlayer wsX1_requirePlayer) := goodIn_app (goodIn_of _ (by decide +kernel)) ggX1_votesFor_X1_requirePlayer
set_option maxRecDepth 20000 in
theorem ggX1_votesFor_X1_countVotes : GoodIn wsX1_votesFor wsX1_countVotes := goodIn_r _ [19, 20, 21, 22, 23, 24, 25, 26, 27, 28, 29, 30, 31, 32, 33, 34] (by decide +kernel) (by decide +kernel)
set_option maxRecDepth 20000 in
theorem gX1_votesFor_X1_countVotes : GoodIn wsX1_votesFor (wsV RX1 120 RX1 yX1_countVotes wsX1_countVotes) := goodIn_app (goodIn_of _ (by decide +kernel)) ggX1_votesFor_X1_countVotes
theorem dX1_votesFor_0 : decode cX1_votesFor 0 = .ok (.aload_n 0, 1) := by decide +kernel
theorem dX1_votesFor_1 : decode cX1_votesFor 1 = .ok (.invokevirtual 92, 3) := by decide +kernel
theorem dX1_votesFor_4 : decode cX1_votesFor 4 = .ok (.aload_n 0, 1) := by decide +kernel
theorem dX1_votesFor_5 : decode cX1_votesFor 5 = .ok (.iload_n 1, 1) := by decide +kernel
theorem dX1_votesFor_6 : decode cX1_votesFor 6 = .ok (.invokevirtual 95, 3) := by decide +kernel
theorem dX1_votesFor_9 : decode cX1_votesFor 9 = .ok (.aload_n 0, 1) := by decide +kernel
theorem dX1_votesFor_10 : decode cX1_votesFor 10 = .ok (.iload_n 1, 1) := by decide +kernel
theorem dX1_votesFor_11 : decode cX1_votesFor 11 = .ok (.invokevirtual 120, 3) := by decide +kernel
theorem dX1_votesFor_14 : decode cX1_votesFor 14 = .ok (.ireturn, 1) := by decide +kernel
set_option maxRecDepth 20000 in
theorem ggX1_lookedAt_X1_requireGame : GoodIn wsX1_lookedAt wsX1_requireGame := goodIn_ca (goodIn_r _ [6, 7, 8, 9, 10, 11, 12, 13, 14, 15, 16, 17, 18, 19, 20, 21, 22, 23] (by decide +kernel) (by decide +kernel)) (goodIn_sub (fun _ h => List.mem_cons_of_mem _ (List.mem_append_right _ h)) (by decide +kernel))
set_option maxRecDepth 20000 in
theorem gX1_lookedAt_X1_requireGame : GoodIn wsX1_lookedAt (wsV RX1 92 RX1 yX1_requireGame wsX1_requireGame) := goodIn_app (goodIn_of _ (by decide +kernel)) ggX1_lookedAt_X1_requireGame
theorem dX1_lookedAt_0 : decode cX1_lookedAt 0 = .ok (.aload_n 0, 1) := by decide +kernel
theorem dX1_lookedAt_1 : decode cX1_lookedAt 1 = .ok (.invokevirtual 92, 3) := by decide +kernel
theorem dX1_lookedAt_4 : decode cX1_lookedAt 4 = .ok (.aload_n 0, 1) := by decide +kernel
theorem dX1_lookedAt_5 : decode cX1_lookedAt 5 = .ok (.getfield 66, 3) := by decide +kernel
theorem dX1_lookedAt_8 : decode cX1_lookedAt 8 = .ok (.ireturn, 1) := by decide +kernel
set_option maxRecDepth 20000 in
theorem ggX1_worlds_X1_requireGame : GoodIn wsX1_worlds wsX1_requireGame := goodIn_ca (goodIn_r _ [6, 7, 8, 9, 52, 53, 54, 55, 56, 57, 58, 59, 60, 61, 62, 63, 64, 65] (by decide +kernel) (by decide +kernel)) (goodIn_sub (fun _ h => List.mem_cons_of_mem _ (List.mem_append_left _ (List.mem_append_right _ h))) (by decide +kernel))
set_option maxRecDepth 20000 in
theorem gX1_worlds_X1_requireGame : GoodIn wsX1_worlds (wsV RX1 92 RX1 yX1_requireGame wsX1_requireGame) := goodIn_app (goodIn_of _ (by decide +kernel)) ggX1_worlds_X1_requireGame
set_option maxRecDepth 20000 in
theorem ggX1_worlds_X1_requireViewer : GoodIn wsX1_worlds wsX1_requireViewer := goodIn_ca (goodIn_r _ [13, 14, 15, 16, 5, 17, 18, 19, 20, 52, 53, 54, 55, 56, 57, 58, 59, 60, 61, 62, 63, 64, 65] (by decide +kernel) (by decide +kernel)) (goodIn_sub (fun _ h => List.mem_cons_of_mem _ (List.mem_append_right _ h)) (by decide +kernel))
set_option maxRecDepth 20000 in
theorem gX1_worlds_X1_requireViewer : GoodIn wsX1_worlds (wsV RX1 145 RX1 yX1_requireViewer wsX1_requireViewer) := goodIn_app (goodIn_of _ (by decide +kernel)) ggX1_worlds_X1_requireViewer
set_option maxRecDepth 20000 in
theorem ggX1_worlds_X1_knownBits : GoodIn wsX1_worlds wsX1_knownBits := goodIn_r _ [24, 20, 25, 26, 27, 28, 29, 5, 30, 31, 32, 33, 34, 35, 36, 37, 38, 39, 40, 41, 52, 53, 54, 55, 56, 57, 58, 59, 60, 61, 62, 63, 64, 65] (by decide +kernel) (by decide +kernel)
set_option maxRecDepth 20000 in
theorem gX1_worlds_X1_knownBits : GoodIn wsX1_worlds (wsV RX1 86 RX1 yX1_knownBits wsX1_knownBits) := goodIn_app (goodIn_of _ (by decide +kernel)) ggX1_worlds_X1_knownBits
set_option maxRecDepth 20000 in
theorem ggX1_worlds_X0_count : GoodIn wsX1_worlds wsX0_count := goodIn_r _ [45, 46, 47, 48, 49, 43, 50, 51, 66, 67] (by decide +kernel) (by decide +kernel)
set_option maxRecDepth 20000 in
theorem gX1_worlds_X0_count_n89 : GoodIn wsX1_worlds (wsX0_count) := ggX1_worlds_X0_count
theorem dX1_worlds_0 : decode cX1_worlds 0 = .ok (.aload_n 0, 1) := by decide +kernel
theorem dX1_worlds_1 : decode cX1_worlds 1 = .ok (.invokevirtual 92, 3) := by decide +kernel
theorem dX1_worlds_4 : decode cX1_worlds 4 = .ok (.aload_n 0, 1) := by decide +kernel
theorem dX1_worlds_5 : decode cX1_worlds 5 = .ok (.iload_n 1, 1) := by decide +kernel
theorem dX1_worlds_6 : decode cX1_worlds 6 = .ok (.invokevirtual 145, 3) := by decide +kernel
theorem dX1_worlds_9 : decode cX1_worlds 9 = .ok (.aload_n 0, 1) := by decide +kernel
theorem dX1_worlds_10 : decode cX1_worlds 10 = .ok (.getfield 12, 3) := by decide +kernel
theorem dX1_worlds_13 : decode cX1_worlds 13 = .ok (.aload_n 0, 1) := by decide +kernel
theorem dX1_worlds_14 : decode cX1_worlds 14 = .ok (.iload_n 1, 1) := by decide +kernel
theorem dX1_worlds_15 : decode cX1_worlds 15 = .ok (.invokevirtual 86, 3) := by decide +kernel
theorem dX1_worlds_18 : decode cX1_worlds 18 = .ok (.invokevirtual 89, 3) := by decide +kernel
theorem dX1_worlds_21 : decode cX1_worlds 21 = .ok (.ireturn, 1) := by decide +kernel
set_option maxRecDepth 20000 in
theorem ggX1_worldsWith_X1_requireGame : GoodIn wsX1_worldsWith wsX1_requireGame := goodIn_ca (goodIn_r _ [8, 9, 10, 11, 56, 57, 58, 59, 60, 61, 62, 63, 64, 65, 66, 67, 68, 69] (by decide +kernel) (by decide +kernel)) (goodIn_sub (fun _ h => List.mem_cons_of_mem _ (List.mem_append_left _ (List.mem_append_right _ h))) (by decide +kernel))
set_option maxRecDepth 20000 in
theorem gX1_worldsWith_X1_requireGame : GoodIn wsX1_worldsWith (wsV RX1 92 RX1 yX1_requireGame wsX1_requireGame) := goodIn_app (goodIn_of _ (by decide +kernel)) ggX1_worldsWith_X1_requireGame
set_option maxRecDepth 20000 in
theorem ggX1_worldsWith_X1_requireViewer : GoodIn wsX1_worldsWith wsX1_requireViewer := goodIn_ca (goodIn_r _ [15, 16, 17, 18, 7, 19, 20, 21, 22, 56, 57, 58, 59, 60, 61, 62, 63, 64, 65, 66, 67, 68, 69] (by decide +kernel) (by decide +kernel)) (goodIn_sub (fun _ h => List.mem_cons_of_mem _ (List.mem_append_right _ h)) (by decide +kernel))
set_option maxRecDepth 20000 in
theorem gX1_worldsWith_X1_requireViewer : GoodIn wsX1_worldsWith (wsV RX1 145 RX1 yX1_requireViewer wsX1_requireViewer) := goodIn_app (goodIn_of _ (by decide +kernel)) ggX1_worldsWith_X1_requireViewer
set_option maxRecDepth 20000 in
theorem ggX1_worldsWith_X1_requirePlayer : GoodIn wsX1_worldsWith wsX1_requirePlayer := goodIn_ca (goodIn_r _ [19, 20, 21, 22, 56, 57, 58, 59, 60, 61, 62, 63, 64, 65, 66, 67, 68, 69] (by decide +kernel) (by decide +kernel)) (goodIn_sub (fun _ h => List.mem_cons_of_mem _ (List.mem_append_right _ h)) (by decide +kernel))
set_option maxRecDepth 20000 in
theorem gX1_worldsWith_X1_requirePlayer : GoodIn wsX1_worldsWith (wsV RX1 95 RX1 yX1_requirePlayer wsX1_requirePlayer) := goodIn_app (goodIn_of _ (by decide +kernel)) ggX1_worldsWith_X1_requirePlayer
set_option maxRecDepth 20000 in
theorem ggX1_worldsWith_X1_knownBits : GoodIn wsX1_worldsWith wsX1_knownBits := goodIn_r _ [26, 22, 27, 28, 29, 30, 31, 7, 32, 33, 34, 35, 36, 37, 38, 39, 40, 41, 42, 43, 56, 57, 58, 59, 60, 61, 62, 63, 64, 65, 66, 67, 68, 69] (by decide +kernel) (by decide +kernel)
set_option maxRecDepth 20000 in
theorem gX1_worldsWith_X1_knownBits : GoodIn wsX1_worldsWith (wsV RX1 86 RX1 yX1_knownBits wsX1_knownBits) := goodIn_app (goodIn_of _ (by decide +kernel)) ggX1_worldsWith_X1_knownBits
set_option maxRecDepth 20000 in
theorem ggX1_worldsWith_X0_countWithRole : GoodIn wsX1_worldsWith wsX0_countWithRole := goodIn_r _ [47, 48, 37, 7, 38, 34, 35, 49, 50, 36, 51, 52, 53, 45, 54, 55, 70, 71] (by decide +kernel) (by decide +kernel)
set_option maxRecDepth 20000 in
theorem gX1_worldsWith_X0_countWithRole_n150 : GoodIn wsX1_worldsWith (wsX0_countWithRole) := ggX1_worldsWith_X0_countWithRole
theorem dX1_worldsWith_0 : decode cX1_worldsWith 0 = .ok (.aload_n 0, 1) := by decide +kernel
theorem dX1_worldsWith_1 : decode cX1_worldsWith 1 = .ok (.invokevirtual 92, 3) := by decide +kernel
theorem dX1_worldsWith_4 : decode cX1_worldsWith 4 = .ok (.aload_n 0, 1) := by decide +kernel
theorem dX1_worldsWith_5 : decode cX1_worldsWith 5 = .ok (.iload_n 1, 1) := by decide +kernel
theorem dX1_worldsWith_6 : decode cX1_worldsWith 6 = .ok (.invokevirtual 145, 3) := by decide +kernel
theorem dX1_worldsWith_9 : decode cX1_worldsWith 9 = .ok (.aload_n 0, 1) := by decide +kernel
theorem dX1_worldsWith_10 : decode cX1_worldsWith 10 = .ok (.iload_n 2, 1) := by decide +kernel
theorem dX1_worldsWith_11 : decode cX1_worldsWith 11 = .ok (.invokevirtual 95, 3) := by decide +kernel
theorem dX1_worldsWith_14 : decode cX1_worldsWith 14 = .ok (.iload_n 3, 1) := by decide +kernel
theorem dX1_worldsWith_15 : decode cX1_worldsWith 15 = .ok (.ifCond .lt 8, 3) := by decide +kernel
theorem dX1_worldsWith_18 : decode cX1_worldsWith 18 = .ok (.iload_n 3, 1) := by decide +kernel
theorem dX1_worldsWith_19 : decode cX1_worldsWith 19 = .ok (.iconst 3, 1) := by decide +kernel
theorem dX1_worldsWith_20 : decode cX1_worldsWith 20 = .ok (.if_icmp .le 13, 3) := by decide +kernel
theorem dX1_worldsWith_23 : decode cX1_worldsWith 23 = .ok (.new 40, 3) := by decide +kernel
theorem dX1_worldsWith_26 : decode cX1_worldsWith 26 = .ok (.dup, 1) := by decide +kernel
theorem dX1_worldsWith_27 : decode cX1_worldsWith 27 = .ok (.ldc 148, 2) := by decide +kernel
theorem dX1_worldsWith_29 : decode cX1_worldsWith 29 = .ok (.invokespecial 44, 3) := by decide +kernel
theorem dX1_worldsWith_32 : decode cX1_worldsWith 32 = .ok (.athrow, 1) := by decide +kernel
theorem dX1_worldsWith_33 : decode cX1_worldsWith 33 = .ok (.aload_n 0, 1) := by decide +kernel
theorem dX1_worldsWith_34 : decode cX1_worldsWith 34 = .ok (.getfield 12, 3) := by decide +kernel
theorem dX1_worldsWith_37 : decode cX1_worldsWith 37 = .ok (.aload_n 0, 1) := by decide +kernel
theorem dX1_worldsWith_38 : decode cX1_worldsWith 38 = .ok (.iload_n 1, 1) := by decide +kernel
theorem dX1_worldsWith_39 : decode cX1_worldsWith 39 = .ok (.invokevirtual 86, 3) := by decide +kernel
theorem dX1_worldsWith_42 : decode cX1_worldsWith 42 = .ok (.iload_n 2, 1) := by decide +kernel
theorem dX1_worldsWith_43 : decode cX1_worldsWith 43 = .ok (.iload_n 3, 1) := by decide +kernel
theorem dX1_worldsWith_44 : decode cX1_worldsWith 44 = .ok (.invokevirtual 150, 3) := by decide +kernel
theorem dX1_worldsWith_47 : decode cX1_worldsWith 47 = .ok (.ireturn, 1) := by decide +kernel
set_option maxRecDepth 20000 in
theorem ggX1_sureWitches_X1_requireGame : GoodIn wsX1_sureWitches wsX1_requireGame := goodIn_ca (goodIn_r _ [6, 7, 8, 9, 54, 55, 56, 57, 58, 59, 60, 61, 62, 63, 64, 65, 66, 67] (by decide +kernel) (by decide +kernel)) (goodIn_sub (fun _ h => List.mem_cons_of_mem _ (List.mem_append_left _ (List.mem_append_right _ h))) (by decide +kernel))
set_option maxRecDepth 20000 in
theorem gX1_sureWitches_X1_requireGame : GoodIn wsX1_sureWitches (wsV RX1 92 RX1 yX1_requireGame wsX1_requireGame) := goodIn_app (goodIn_of _ (by decide +kernel)) ggX1_sureWitches_X1_requireGame
set_option maxRecDepth 20000 in
theorem ggX1_sureWitches_X1_requireViewer : GoodIn wsX1_sureWitches wsX1_requireViewer := goodIn_ca (goodIn_r _ [13, 14, 15, 16, 5, 17, 18, 19, 20, 54, 55, 56, 57, 58, 59, 60, 61, 62, 63, 64, 65, 66, 67] (by decide +kernel) (by decide +kernel)) (goodIn_sub (fun _ h => List.mem_cons_of_mem _ (List.mem_append_right _ h)) (by decide +kernel))
set_option maxRecDepth 20000 in
theorem gX1_sureWitches_X1_requireViewer : GoodIn wsX1_sureWitches (wsV RX1 145 RX1 yX1_requireViewer wsX1_requireViewer) := goodIn_app (goodIn_of _ (by decide +kernel)) ggX1_sureWitches_X1_requireViewer
set_option maxRecDepth 20000 in
theorem ggX1_sureWitches_X1_knownBits : GoodIn wsX1_sureWitches wsX1_knownBits := goodIn_r _ [24, 20, 25, 26, 27, 28, 29, 5, 30, 31, 32, 33, 34, 35, 36, 37, 38, 39, 40, 41, 54, 55, 56, 57, 58, 59, 60, 61, 62, 63, 64, 65, 66, 67] (by decide +kernel) (by decide +kernel)
set_option maxRecDepth 20000 in
theorem gX1_sureWitches_X1_knownBits : GoodIn wsX1_sureWitches (wsV RX1 86 RX1 yX1_knownBits wsX1_knownBits) := goodIn_app (goodIn_of _ (by decide +kernel)) ggX1_sureWitches_X1_knownBits
set_option maxRecDepth 20000 in
theorem ggX1_sureWitches_X0_witchesInAll : GoodIn wsX1_sureWitches wsX0_witchesInAll := goodIn_r _ [45, 46, 47, 48, 49, 43, 50, 51, 52, 5, 53, 68, 69] (by decide +kernel) (by decide +kernel)
set_option maxRecDepth 20000 in
theorem gX1_sureWitches_X0_witchesInAll_n153 : GoodIn wsX1_sureWitches (wsX0_witchesInAll) := ggX1_sureWitches_X0_witchesInAll
theorem dX1_sureWitches_0 : decode cX1_sureWitches 0 = .ok (.aload_n 0, 1) := by decide +kernel
theorem dX1_sureWitches_1 : decode cX1_sureWitches 1 = .ok (.invokevirtual 92, 3) := by decide +kernel
theorem dX1_sureWitches_4 : decode cX1_sureWitches 4 = .ok (.aload_n 0, 1) := by decide +kernel
theorem dX1_sureWitches_5 : decode cX1_sureWitches 5 = .ok (.iload_n 1, 1) := by decide +kernel
theorem dX1_sureWitches_6 : decode cX1_sureWitches 6 = .ok (.invokevirtual 145, 3) := by decide +kernel
theorem dX1_sureWitches_9 : decode cX1_sureWitches 9 = .ok (.aload_n 0, 1) := by decide +kernel
theorem dX1_sureWitches_10 : decode cX1_sureWitches 10 = .ok (.getfield 12, 3) := by decide +kernel
theorem dX1_sureWitches_13 : decode cX1_sureWitches 13 = .ok (.aload_n 0, 1) := by decide +kernel
theorem dX1_sureWitches_14 : decode cX1_sureWitches 14 = .ok (.iload_n 1, 1) := by decide +kernel
theorem dX1_sureWitches_15 : decode cX1_sureWitches 15 = .ok (.invokevirtual 86, 3) := by decide +kernel
theorem dX1_sureWitches_18 : decode cX1_sureWitches 18 = .ok (.invokevirtual 153, 3) := by decide +kernel
theorem dX1_sureWitches_21 : decode cX1_sureWitches 21 = .ok (.ireturn, 1) := by decide +kernel
set_option maxRecDepth 20000 in
theorem ggX1_sureHonest_X1_requireGame : GoodIn wsX1_sureHonest wsX1_requireGame := goodIn_ca (goodIn_r _ [7, 8, 9, 10, 54, 55, 56, 57, 58, 59, 60, 61, 62, 63, 64, 65, 66, 67] (by decide +kernel) (by decide +kernel)) (goodIn_sub (fun _ h => List.mem_cons_of_mem _ (List.mem_append_left _ (List.mem_append_right _ h))) (by decide +kernel))
set_option maxRecDepth 20000 in
theorem gX1_sureHonest_X1_requireGame : GoodIn wsX1_sureHonest (wsV RX1 92 RX1 yX1_requireGame wsX1_requireGame) := goodIn_app (goodIn_of _ (by decide +kernel)) ggX1_sureHonest_X1_requireGame
set_option maxRecDepth 20000 in
theorem ggX1_sureHonest_X1_requireViewer : GoodIn wsX1_sureHonest wsX1_requireViewer := goodIn_ca (goodIn_r _ [14, 15, 16, 17, 6, 18, 19, 20, 1, 54, 55, 56, 57, 58, 59, 60, 61, 62, 63, 64, 65, 66, 67] (by decide +kernel) (by decide +kernel)) (goodIn_sub (fun _ h => List.mem_cons_of_mem _ (List.mem_append_right _ h)) (by decide +kernel))
set_option maxRecDepth 20000 in
theorem gX1_sureHonest_X1_requireViewer : GoodIn wsX1_sureHonest (wsV RX1 145 RX1 yX1_requireViewer wsX1_requireViewer) := goodIn_app (goodIn_of _ (by decide +kernel)) ggX1_sureHonest_X1_requireViewer
set_option maxRecDepth 20000 in
theorem ggX1_sureHonest_X1_everyone : GoodIn wsX1_sureHonest wsX1_everyone := goodIn_r _ [23] (by decide +kernel) (by decide +kernel)
set_option maxRecDepth 20000 in
theorem gX1_sureHonest_X1_everyone : GoodIn wsX1_sureHonest (va_wsS RX1 59 yX1_everyone wsX1_everyone) := goodIn_app (goodIn_of _ (by decide +kernel)) ggX1_sureHonest_X1_everyone
set_option maxRecDepth 20000 in
theorem ggX1_sureHonest_X1_knownBits : GoodIn wsX1_sureHonest wsX1_knownBits := goodIn_r _ [27, 1, 28, 29, 30, 21, 22, 6, 23, 31, 32, 33, 34, 35, 36, 37, 38, 39, 40, 41, 54, 55, 56, 57, 58, 59, 60, 61, 62, 63, 64, 65, 66, 67] (by decide +kernel) (by decide +kernel)
set_option maxRecDepth 20000 in
theorem gX1_sureHonest_X1_knownBits : GoodIn wsX1_sureHonest (wsV RX1 86 RX1 yX1_knownBits wsX1_knownBits) := goodIn_app (goodIn_of _ (by decide +kernel)) ggX1_sureHonest_X1_knownBits
set_option maxRecDepth 20000 in
theorem ggX1_sureHonest_X0_witchesInAny : GoodIn wsX1_sureHonest wsX0_witchesInAny := goodIn_r _ [45, 46, 47, 48, 49, 43, 50, 51, 52, 6, 53, 68, 69] (by decide +kernel) (by decide +kernel)
set_option maxRecDepth 20000 in
theorem gX1_sureHonest_X0_witchesInAny_n156 : GoodIn wsX1_sureHonest (wsX0_witchesInAny) := ggX1_sureHonest_X0_witchesInAny
theorem dX1_sureHonest_0 : decode cX1_sureHonest 0 = .ok (.aload_n 0, 1) := by decide +kernel
theorem dX1_sureHonest_1 : decode cX1_sureHonest 1 = .ok (.invokevirtual 92, 3) := by decide +kernel
theorem dX1_sureHonest_4 : decode cX1_sureHonest 4 = .ok (.aload_n 0, 1) := by decide +kernel
theorem dX1_sureHonest_5 : decode cX1_sureHonest 5 = .ok (.iload_n 1, 1) := by decide +kernel
theorem dX1_sureHonest_6 : decode cX1_sureHonest 6 = .ok (.invokevirtual 145, 3) := by decide +kernel
theorem dX1_sureHonest_9 : decode cX1_sureHonest 9 = .ok (.aload_n 0, 1) := by decide +kernel
theorem dX1_sureHonest_10 : decode cX1_sureHonest 10 = .ok (.getfield 47, 3) := by decide +kernel
theorem dX1_sureHonest_13 : decode cX1_sureHonest 13 = .ok (.invokestatic 59, 3) := by decide +kernel
theorem dX1_sureHonest_16 : decode cX1_sureHonest 16 = .ok (.aload_n 0, 1) := by decide +kernel
theorem dX1_sureHonest_17 : decode cX1_sureHonest 17 = .ok (.getfield 12, 3) := by decide +kernel
theorem dX1_sureHonest_20 : decode cX1_sureHonest 20 = .ok (.aload_n 0, 1) := by decide +kernel
theorem dX1_sureHonest_21 : decode cX1_sureHonest 21 = .ok (.iload_n 1, 1) := by decide +kernel
theorem dX1_sureHonest_22 : decode cX1_sureHonest 22 = .ok (.invokevirtual 86, 3) := by decide +kernel
theorem dX1_sureHonest_25 : decode cX1_sureHonest 25 = .ok (.invokevirtual 156, 3) := by decide +kernel
theorem dX1_sureHonest_28 : decode cX1_sureHonest 28 = .ok (.iconst (-1), 1) := by decide +kernel
theorem dX1_sureHonest_29 : decode cX1_sureHonest 29 = .ok (.ixor, 1) := by decide +kernel
theorem dX1_sureHonest_30 : decode cX1_sureHonest 30 = .ok (.iand, 1) := by decide +kernel
theorem dX1_sureHonest_31 : decode cX1_sureHonest 31 = .ok (.ireturn, 1) := by decide +kernel
set_option maxRecDepth 20000 in
theorem ggX1_witchSets_X1_requireGame : GoodIn wsX1_witchSets wsX1_requireGame := goodIn_ca (goodIn_r _ [6, 7, 8, 9, 54, 55, 56, 57, 58, 59, 60, 61, 62, 63, 64, 65, 66, 67] (by decide +kernel) (by decide +kernel)) (goodIn_sub (fun _ h => List.mem_cons_of_mem _ (List.mem_append_left _ (List.mem_append_right _ h))) (by decide +kernel))
set_option maxRecDepth 20000 in
theorem gX1_witchSets_X1_requireGame : GoodIn wsX1_witchSets (wsV RX1 92 RX1 yX1_requireGame wsX1_requireGame) := goodIn_app (goodIn_of _ (by decide +kernel)) ggX1_witchSets_X1_requireGame
set_option maxRecDepth 20000 in
theorem ggX1_witchSets_X1_requireViewer : GoodIn wsX1_witchSets wsX1_requireViewer := goodIn_ca (goodIn_r _ [13, 14, 15, 16, 5, 17, 18, 19, 20, 54, 55, 56, 57, 58, 59, 60, 61, 62, 63, 64, 65, 66, 67] (by decide +kernel) (by decide +kernel)) (goodIn_sub (fun _ h => List.mem_cons_of_mem _ (List.mem_append_right _ h)) (by decide +kernel))
set_option maxRecDepth 20000 in
theorem gX1_witchSets_X1_requireViewer : GoodIn wsX1_witchSets (wsV RX1 145 RX1 yX1_requireViewer wsX1_requireViewer) := goodIn_app (goodIn_of _ (by decide +kernel)) ggX1_witchSets_X1_requireViewer
set_option maxRecDepth 20000 in
theorem ggX1_witchSets_X1_knownBits : GoodIn wsX1_witchSets wsX1_knownBits := goodIn_r _ [24, 20, 25, 26, 27, 28, 29, 5, 30, 31, 32, 33, 34, 35, 36, 37, 38, 39, 40, 41, 54, 55, 56, 57, 58, 59, 60, 61, 62, 63, 64, 65, 66, 67] (by decide +kernel) (by decide +kernel)
set_option maxRecDepth 20000 in
theorem gX1_witchSets_X1_knownBits : GoodIn wsX1_witchSets (wsV RX1 86 RX1 yX1_knownBits wsX1_knownBits) := goodIn_app (goodIn_of _ (by decide +kernel)) ggX1_witchSets_X1_knownBits
set_option maxRecDepth 20000 in
theorem ggX1_witchSets_X0_countWitchSets : GoodIn wsX1_witchSets wsX0_countWitchSets := goodIn_r _ [45, 46, 47, 48, 49, 43, 50, 51, 52, 5, 53, 68, 69] (by decide +kernel) (by decide +kernel)
set_option maxRecDepth 20000 in
theorem gX1_witchSets_X0_countWitchSets_n159 : GoodIn wsX1_witchSets (wsX0_countWitchSets) := ggX1_witchSets_X0_countWitchSets
theorem dX1_witchSets_0 : decode cX1_witchSets 0 = .ok (.aload_n 0, 1) := by decide +kernel
theorem dX1_witchSets_1 : decode cX1_witchSets 1 = .ok (.invokevirtual 92, 3) := by decide +kernel
theorem dX1_witchSets_4 : decode cX1_witchSets 4 = .ok (.aload_n 0, 1) := by decide +kernel
theorem dX1_witchSets_5 : decode cX1_witchSets 5 = .ok (.iload_n 1, 1) := by decide +kernel
theorem dX1_witchSets_6 : decode cX1_witchSets 6 = .ok (.invokevirtual 145, 3) := by decide +kernel
theorem dX1_witchSets_9 : decode cX1_witchSets 9 = .ok (.aload_n 0, 1) := by decide +kernel
theorem dX1_witchSets_10 : decode cX1_witchSets 10 = .ok (.getfield 12, 3) := by decide +kernel
theorem dX1_witchSets_13 : decode cX1_witchSets 13 = .ok (.aload_n 0, 1) := by decide +kernel
theorem dX1_witchSets_14 : decode cX1_witchSets 14 = .ok (.iload_n 1, 1) := by decide +kernel
theorem dX1_witchSets_15 : decode cX1_witchSets 15 = .ok (.invokevirtual 86, 3) := by decide +kernel
theorem dX1_witchSets_18 : decode cX1_witchSets 18 = .ok (.invokevirtual 159, 3) := by decide +kernel
theorem dX1_witchSets_21 : decode cX1_witchSets 21 = .ok (.ireturn, 1) := by decide +kernel
set_option maxRecDepth 20000 in
theorem ggX1_suspect_X1_requireGame : GoodIn wsX1_suspect wsX1_requireGame := goodIn_ca (goodIn_r _ [7, 8, 9, 10, 58, 59, 60, 61, 62, 63, 64, 65, 66, 67, 68, 69, 70, 71] (by decide +kernel) (by decide +kernel)) (goodIn_sub (fun _ h => List.mem_cons_of_mem _ (List.mem_append_left _ (List.mem_append_right _ h))) (by decide +kernel))
set_option maxRecDepth 20000 in
theorem gX1_suspect_X1_requireGame : GoodIn wsX1_suspect (wsV RX1 92 RX1 yX1_requireGame wsX1_requireGame) := goodIn_app (goodIn_of _ (by decide +kernel)) ggX1_suspect_X1_requireGame
set_option maxRecDepth 20000 in
theorem ggX1_suspect_X1_requireViewer : GoodIn wsX1_suspect wsX1_requireViewer := goodIn_ca (goodIn_r _ [14, 15, 16, 17, 6, 18, 19, 20, 1, 58, 59, 60, 61, 62, 63, 64, 65, 66, 67, 68, 69, 70, 71] (by decide +kernel) (by decide +kernel)) (goodIn_sub (fun _ h => List.mem_cons_of_mem _ (List.mem_append_right _ h)) (by decide +kernel))
set_option maxRecDepth 20000 in
theorem gX1_suspect_X1_requireViewer : GoodIn wsX1_suspect (wsV RX1 145 RX1 yX1_requireViewer wsX1_requireViewer) := goodIn_app (goodIn_of _ (by decide +kernel)) ggX1_suspect_X1_requireViewer
set_option maxRecDepth 20000 in
theorem ggX1_suspect_X1_knownBits : GoodIn wsX1_suspect wsX1_knownBits := goodIn_r _ [24, 1, 25, 26, 27, 28, 29, 6, 30, 31, 32, 33, 34, 35, 36, 37, 38, 39, 40, 41, 58, 59, 60, 61, 62, 63, 64, 65, 66, 67, 68, 69, 70, 71] (by decide +kernel) (by decide +kernel)
set_option maxRecDepth 20000 in
theorem gX1_suspect_X1_knownBits : GoodIn wsX1_suspect (wsV RX1 86 RX1 yX1_knownBits wsX1_knownBits) := goodIn_app (goodIn_of _ (by decide +kernel)) ggX1_suspect_X1_knownBits
set_option maxRecDepth 20000 in
theorem ggX1_suspect_X1_isAlive : GoodIn wsX1_suspect wsX1_isAlive := goodIn_r _ [45, 25, 34, 35, 6, 36, 58, 59, 60, 61, 62, 63, 64, 65, 66, 67, 68, 69, 70, 71] (by decide +kernel) (by decide +kernel)
set_option maxRecDepth 20000 in
theorem gX1_suspect_X1_isAlive : GoodIn wsX1_suspect (wsV RX1 114 RX1 yX1_isAlive wsX1_isAlive) := goodIn_app (goodIn_of _ (by decide +kernel)) ggX1_suspect_X1_isAlive
set_option maxRecDepth 20000 in
theorem ggX1_suspect_X0_countWithRole : GoodIn wsX1_suspect wsX0_countWithRole := goodIn_r _ [49, 50, 35, 6, 36, 32, 33, 51, 52, 34, 53, 54, 55, 47, 56, 57, 72, 73] (by decide +kernel) (by decide +kernel)
set_option maxRecDepth 20000 in
theorem gX1_suspect_X0_countWithRole_n150 : GoodIn wsX1_suspect (wsX0_countWithRole) := ggX1_suspect_X0_countWithRole
theorem dX1_suspect_0 : decode cX1_suspect 0 = .ok (.aload_n 0, 1) := by decide +kernel
theorem dX1_suspect_1 : decode cX1_suspect 1 = .ok (.invokevirtual 92, 3) := by decide +kernel
theorem dX1_suspect_4 : decode cX1_suspect 4 = .ok (.aload_n 0, 1) := by decide +kernel
theorem dX1_suspect_5 : decode cX1_suspect 5 = .ok (.iload_n 1, 1) := by decide +kernel
theorem dX1_suspect_6 : decode cX1_suspect 6 = .ok (.invokevirtual 145, 3) := by decide +kernel
theorem dX1_suspect_9 : decode cX1_suspect 9 = .ok (.aload_n 0, 1) := by decide +kernel
theorem dX1_suspect_10 : decode cX1_suspect 10 = .ok (.iload_n 1, 1) := by decide +kernel
theorem dX1_suspect_11 : decode cX1_suspect 11 = .ok (.invokevirtual 86, 3) := by decide +kernel
theorem dX1_suspect_14 : decode cX1_suspect 14 = .ok (.istore_n 2, 1) := by decide +kernel
theorem dX1_suspect_15 : decode cX1_suspect 15 = .ok (.iconst (-1), 1) := by decide +kernel
theorem dX1_suspect_16 : decode cX1_suspect 16 = .ok (.istore_n 3, 1) := by decide +kernel
theorem dX1_suspect_17 : decode cX1_suspect 17 = .ok (.iconst (-1), 1) := by decide +kernel
theorem dX1_suspect_18 : decode cX1_suspect 18 = .ok (.istore 4, 2) := by decide +kernel
theorem dX1_suspect_20 : decode cX1_suspect 20 = .ok (.iconst 0, 1) := by decide +kernel
theorem dX1_suspect_21 : decode cX1_suspect 21 = .ok (.istore 5, 2) := by decide +kernel
theorem dX1_suspect_23 : decode cX1_suspect 23 = .ok (.iload 5, 2) := by decide +kernel
theorem dX1_suspect_25 : decode cX1_suspect 25 = .ok (.aload_n 0, 1) := by decide +kernel
theorem dX1_suspect_26 : decode cX1_suspect 26 = .ok (.getfield 47, 3) := by decide +kernel
theorem dX1_suspect_29 : decode cX1_suspect 29 = .ok (.if_icmp .ge 51, 3) := by decide +kernel
theorem dX1_suspect_32 : decode cX1_suspect 32 = .ok (.aload_n 0, 1) := by decide +kernel
theorem dX1_suspect_33 : decode cX1_suspect 33 = .ok (.iload 5, 2) := by decide +kernel
theorem dX1_suspect_35 : decode cX1_suspect 35 = .ok (.invokevirtual 114, 3) := by decide +kernel
theorem dX1_suspect_38 : decode cX1_suspect 38 = .ok (.ifCond .eq 36, 3) := by decide +kernel
theorem dX1_suspect_41 : decode cX1_suspect 41 = .ok (.iload 5, 2) := by decide +kernel
theorem dX1_suspect_43 : decode cX1_suspect 43 = .ok (.iload_n 1, 1) := by decide +kernel
theorem dX1_suspect_44 : decode cX1_suspect 44 = .ok (.if_icmp .eq 30, 3) := by decide +kernel
theorem dX1_suspect_47 : decode cX1_suspect 47 = .ok (.aload_n 0, 1) := by decide +kernel
theorem dX1_suspect_48 : decode cX1_suspect 48 = .ok (.getfield 12, 3) := by decide +kernel
theorem dX1_suspect_51 : decode cX1_suspect 51 = .ok (.iload_n 2, 1) := by decide +kernel
theorem dX1_suspect_52 : decode cX1_suspect 52 = .ok (.iload 5, 2) := by decide +kernel
theorem dX1_suspect_54 : decode cX1_suspect 54 = .ok (.iconst 1, 1) := by decide +kernel
theorem dX1_suspect_55 : decode cX1_suspect 55 = .ok (.invokevirtual 150, 3) := by decide +kernel
theorem dX1_suspect_58 : decode cX1_suspect 58 = .ok (.istore 6, 2) := by decide +kernel
theorem dX1_suspect_60 : decode cX1_suspect 60 = .ok (.iload 6, 2) := by decide +kernel
theorem dX1_suspect_62 : decode cX1_suspect 62 = .ok (.iload 4, 2) := by decide +kernel
theorem dX1_suspect_64 : decode cX1_suspect 64 = .ok (.if_icmp .le 10, 3) := by decide +kernel
theorem dX1_suspect_67 : decode cX1_suspect 67 = .ok (.iload 6, 2) := by decide +kernel
theorem dX1_suspect_69 : decode cX1_suspect 69 = .ok (.istore 4, 2) := by decide +kernel
theorem dX1_suspect_71 : decode cX1_suspect 71 = .ok (.iload 5, 2) := by decide +kernel
theorem dX1_suspect_73 : decode cX1_suspect 73 = .ok (.istore_n 3, 1) := by decide +kernel
theorem dX1_suspect_74 : decode cX1_suspect 74 = .ok (.iinc 5 1, 3) := by decide +kernel
theorem dX1_suspect_77 : decode cX1_suspect 77 = .ok (.goto (-54), 3) := by decide +kernel
theorem dX1_suspect_80 : decode cX1_suspect 80 = .ok (.iload_n 3, 1) := by decide +kernel
theorem dX1_suspect_81 : decode cX1_suspect 81 = .ok (.ireturn, 1) := by decide +kernel
set_option maxRecDepth 20000 in
theorem ggX1_bestLook_X1_requireGame : GoodIn wsX1_bestLook wsX1_requireGame := goodIn_ca (goodIn_r _ [12, 13, 14, 15, 55, 56, 57, 58, 59, 60, 61, 62, 63, 64, 65, 66, 67, 68] (by decide +kernel) (by decide +kernel)) (goodIn_sub (fun _ h => List.mem_cons_of_mem _ (List.mem_append_right _ h)) (by decide +kernel))
set_option maxRecDepth 20000 in
theorem gX1_bestLook_X1_requireGame : GoodIn wsX1_bestLook (wsV RX1 92 RX1 yX1_requireGame wsX1_requireGame) := goodIn_app (goodIn_of _ (by decide +kernel)) ggX1_bestLook_X1_requireGame
set_option maxRecDepth 20000 in
theorem ggX1_bestLook_X1_knownBits : GoodIn wsX1_bestLook wsX1_knownBits := goodIn_r _ [19, 3, 20, 1, 21, 22, 23, 11, 24, 25, 26, 27, 28, 29, 30, 31, 32, 33, 34, 35, 55, 56, 57, 58, 59, 60, 61, 62, 63, 64, 65, 66, 67, 68] (by decide +kernel) (by decide +kernel)
set_option maxRecDepth 20000 in
theorem gX1_bestLook_X1_knownBits : GoodIn wsX1_bestLook (wsV RX1 86 RX1 yX1_knownBits wsX1_knownBits) := goodIn_app (goodIn_of _ (by decide +kernel)) ggX1_bestLook_X1_knownBits
set_option maxRecDepth 20000 in
theorem ggX1_bestLook_X0_count : GoodIn wsX1_bestLook wsX0_count := goodIn_r _ [39, 40, 41, 42, 43, 37, 44, 45, 69, 70] (by decide +kernel) (by decide +kernel)
set_option maxRecDepth 20000 in
theorem gX1_bestLook_X0_count_n89 : GoodIn wsX1_bestLook (wsX0_count) := ggX1_bestLook_X0_count
set_option maxRecDepth 20000 in
theorem ggX1_bestLook_X1_isAlive : GoodIn wsX1_bestLook wsX1_isAlive := goodIn_r _ [49, 20, 28, 29, 11, 30, 55, 56, 57, 58, 59, 60, 61, 62, 63, 64, 65, 66, 67, 68] (by decide +kernel) (by decide +kernel)
set_option maxRecDepth 20000 in
theorem gX1_bestLook_X1_isAlive : GoodIn wsX1_bestLook (wsV RX1 114 RX1 yX1_isAlive wsX1_isAlive) := goodIn_app (goodIn_of _ (by decide +kernel)) ggX1_bestLook_X1_isAlive
set_option maxRecDepth 20000 in
theorem ggX1_bestLook_X0_countWithRole : GoodIn wsX1_bestLook wsX0_countWithRole := goodIn_r _ [52, 40, 29, 11, 30, 26, 27, 53, 54, 28, 41, 42, 43, 37, 44, 45, 69, 70] (by decide +kernel) (by decide +kernel)
set_option maxRecDepth 20000 in
theorem gX1_bestLook_X0_countWithRole_n150 : GoodIn wsX1_bestLook (wsX0_countWithRole) := ggX1_bestLook_X0_countWithRole
theorem dX1_bestLook_0 : decode cX1_bestLook 0 = .ok (.aload_n 0, 1) := by decide +kernel
theorem dX1_bestLook_1 : decode cX1_bestLook 1 = .ok (.invokevirtual 92, 3) := by decide +kernel
theorem dX1_bestLook_4 : decode cX1_bestLook 4 = .ok (.aload_n 0, 1) := by decide +kernel
theorem dX1_bestLook_5 : decode cX1_bestLook 5 = .ok (.aload_n 0, 1) := by decide +kernel
theorem dX1_bestLook_6 : decode cX1_bestLook 6 = .ok (.getfield 53, 3) := by decide +kernel
theorem dX1_bestLook_9 : decode cX1_bestLook 9 = .ok (.invokevirtual 86, 3) := by decide +kernel
theorem dX1_bestLook_12 : decode cX1_bestLook 12 = .ok (.istore_n 1, 1) := by decide +kernel
theorem dX1_bestLook_13 : decode cX1_bestLook 13 = .ok (.aload_n 0, 1) := by decide +kernel
theorem dX1_bestLook_14 : decode cX1_bestLook 14 = .ok (.getfield 12, 3) := by decide +kernel
theorem dX1_bestLook_17 : decode cX1_bestLook 17 = .ok (.iload_n 1, 1) := by decide +kernel
theorem dX1_bestLook_18 : decode cX1_bestLook 18 = .ok (.invokevirtual 89, 3) := by decide +kernel
theorem dX1_bestLook_21 : decode cX1_bestLook 21 = .ok (.istore_n 2, 1) := by decide +kernel
theorem dX1_bestLook_22 : decode cX1_bestLook 22 = .ok (.iconst (-1), 1) := by decide +kernel
theorem dX1_bestLook_23 : decode cX1_bestLook 23 = .ok (.istore_n 3, 1) := by decide +kernel
theorem dX1_bestLook_24 : decode cX1_bestLook 24 = .ok (.iload_n 2, 1) := by decide +kernel
theorem dX1_bestLook_25 : decode cX1_bestLook 25 = .ok (.iconst 1, 1) := by decide +kernel
theorem dX1_bestLook_26 : decode cX1_bestLook 26 = .ok (.iadd, 1) := by decide +kernel
theorem dX1_bestLook_27 : decode cX1_bestLook 27 = .ok (.istore 4, 2) := by decide +kernel
theorem dX1_bestLook_29 : decode cX1_bestLook 29 = .ok (.iconst 0, 1) := by decide +kernel
theorem dX1_bestLook_30 : decode cX1_bestLook 30 = .ok (.istore 5, 2) := by decide +kernel
theorem dX1_bestLook_32 : decode cX1_bestLook 32 = .ok (.iload 5, 2) := by decide +kernel
theorem dX1_bestLook_34 : decode cX1_bestLook 34 = .ok (.aload_n 0, 1) := by decide +kernel
theorem dX1_bestLook_35 : decode cX1_bestLook 35 = .ok (.getfield 47, 3) := by decide +kernel
theorem dX1_bestLook_38 : decode cX1_bestLook 38 = .ok (.if_icmp .ge 65, 3) := by decide +kernel
theorem dX1_bestLook_41 : decode cX1_bestLook 41 = .ok (.aload_n 0, 1) := by decide +kernel
theorem dX1_bestLook_42 : decode cX1_bestLook 42 = .ok (.iload 5, 2) := by decide +kernel
theorem dX1_bestLook_44 : decode cX1_bestLook 44 = .ok (.invokevirtual 114, 3) := by decide +kernel
theorem dX1_bestLook_47 : decode cX1_bestLook 47 = .ok (.ifCond .eq 50, 3) := by decide +kernel
theorem dX1_bestLook_50 : decode cX1_bestLook 50 = .ok (.iload 5, 2) := by decide +kernel
theorem dX1_bestLook_52 : decode cX1_bestLook 52 = .ok (.aload_n 0, 1) := by decide +kernel
theorem dX1_bestLook_53 : decode cX1_bestLook 53 = .ok (.getfield 53, 3) := by decide +kernel
theorem dX1_bestLook_56 : decode cX1_bestLook 56 = .ok (.if_icmp .eq 41, 3) := by decide +kernel
theorem dX1_bestLook_59 : decode cX1_bestLook 59 = .ok (.aload_n 0, 1) := by decide +kernel
theorem dX1_bestLook_60 : decode cX1_bestLook 60 = .ok (.getfield 12, 3) := by decide +kernel
theorem dX1_bestLook_63 : decode cX1_bestLook 63 = .ok (.iload_n 1, 1) := by decide +kernel
theorem dX1_bestLook_64 : decode cX1_bestLook 64 = .ok (.iload 5, 2) := by decide +kernel
theorem dX1_bestLook_66 : decode cX1_bestLook 66 = .ok (.iconst 1, 1) := by decide +kernel
theorem dX1_bestLook_67 : decode cX1_bestLook 67 = .ok (.invokevirtual 150, 3) := by decide +kernel
theorem dX1_bestLook_70 : decode cX1_bestLook 70 = .ok (.istore 6, 2) := by decide +kernel
theorem dX1_bestLook_72 : decode cX1_bestLook 72 = .ok (.iload 6, 2) := by decide +kernel
theorem dX1_bestLook_74 : decode cX1_bestLook 74 = .ok (.iload_n 2, 1) := by decide +kernel
theorem dX1_bestLook_75 : decode cX1_bestLook 75 = .ok (.iload 6, 2) := by decide +kernel
theorem dX1_bestLook_77 : decode cX1_bestLook 77 = .ok (.isub, 1) := by decide +kernel
theorem dX1_bestLook_78 : decode cX1_bestLook 78 = .ok (.invokestatic 162, 3) := by decide +kernel
theorem dX1_bestLook_81 : decode cX1_bestLook 81 = .ok (.istore 7, 2) := by decide +kernel
theorem dX1_bestLook_83 : decode cX1_bestLook 83 = .ok (.iload 7, 2) := by decide +kernel
theorem dX1_bestLook_85 : decode cX1_bestLook 85 = .ok (.iload 4, 2) := by decide +kernel
theorem dX1_bestLook_87 : decode cX1_bestLook 87 = .ok (.if_icmp .ge 10, 3) := by decide +kernel
theorem dX1_bestLook_90 : decode cX1_bestLook 90 = .ok (.iload 7, 2) := by decide +kernel
theorem dX1_bestLook_92 : decode cX1_bestLook 92 = .ok (.istore 4, 2) := by decide +kernel
theorem dX1_bestLook_94 : decode cX1_bestLook 94 = .ok (.iload 5, 2) := by decide +kernel
theorem dX1_bestLook_96 : decode cX1_bestLook 96 = .ok (.istore_n 3, 1) := by decide +kernel
theorem dX1_bestLook_97 : decode cX1_bestLook 97 = .ok (.iinc 5 1, 3) := by decide +kernel
theorem dX1_bestLook_100 : decode cX1_bestLook 100 = .ok (.goto (-68), 3) := by decide +kernel
theorem dX1_bestLook_103 : decode cX1_bestLook 103 = .ok (.iload_n 3, 1) := by decide +kernel
theorem dX1_bestLook_104 : decode cX1_bestLook 104 = .ok (.ireturn, 1) := by decide +kernel
set_option maxRecDepth 20000 in
theorem ggX1_isPossible_X1_requireGame : GoodIn wsX1_isPossible wsX1_requireGame := goodIn_ca (goodIn_r _ [6, 7, 8, 9, 55, 56, 57, 58, 59, 60, 61, 62, 63, 64, 65, 66, 67, 68] (by decide +kernel) (by decide +kernel)) (goodIn_sub (fun _ h => List.mem_cons_of_mem _ (List.mem_append_left _ (List.mem_append_right _ h))) (by decide +kernel))
set_option maxRecDepth 20000 in
theorem gX1_isPossible_X1_requireGame : GoodIn wsX1_isPossible (wsV RX1 92 RX1 yX1_requireGame wsX1_requireGame) := goodIn_app (goodIn_of _ (by decide +kernel)) ggX1_isPossible_X1_requireGame
set_option maxRecDepth 20000 in
theorem ggX1_isPossible_X1_requireViewer : GoodIn wsX1_isPossible wsX1_requireViewer := goodIn_ca (goodIn_r _ [13, 14, 15, 16, 5, 17, 18, 19, 20, 55, 56, 57, 58, 59, 60, 61, 62, 63, 64, 65, 66, 67, 68] (by decide +kernel) (by decide +kernel)) (goodIn_sub (fun _ h => List.mem_cons_of_mem _ (List.mem_append_right _ h)) (by decide +kernel))
set_option maxRecDepth 20000 in
theorem gX1_isPossible_X1_requireViewer : GoodIn wsX1_isPossible (wsV RX1 145 RX1 yX1_requireViewer wsX1_requireViewer) := goodIn_app (goodIn_of _ (by decide +kernel)) ggX1_isPossible_X1_requireViewer
set_option maxRecDepth 20000 in
theorem ggX1_isPossible_X1_requirePlayer : GoodIn wsX1_isPossible wsX1_requirePlayer := goodIn_ca (goodIn_r _ [17, 18, 19, 20, 55, 56, 57, 58, 59, 60, 61, 62, 63, 64, 65, 66, 67, 68] (by decide +kernel) (by decide +kernel)) (goodIn_sub (fun _ h => List.mem_cons_of_mem _ (List.mem_append_right _ h)) (by decide +kernel))
set_option maxRecDepth 20000 in
theorem gX1_isPossible_X1_requirePlayer : GoodIn wsX1_isPossible (wsV RX1 95 RX1 yX1_requirePlayer wsX1_requirePlayer) := goodIn_app (goodIn_of _ (by decide +kernel)) ggX1_isPossible_X1_requirePlayer
set_option maxRecDepth 20000 in
theorem ggX1_isPossible_X1_worldOf : GoodIn wsX1_isPossible wsX1_worldOf := goodIn_r _ [23, 24, 25, 5, 26] (by decide +kernel) (by decide +kernel)
set_option maxRecDepth 20000 in
theorem gX1_isPossible_X1_worldOf : GoodIn wsX1_isPossible (va_wsS RX1 78 yX1_worldOf wsX1_worldOf) := goodIn_app (goodIn_of _ (by decide +kernel)) ggX1_isPossible_X1_worldOf
set_option maxRecDepth 20000 in
theorem ggX1_isPossible_X1_knownBits : GoodIn wsX1_isPossible wsX1_knownBits := goodIn_r _ [30, 20, 31, 32, 33, 34, 35, 5, 36, 37, 38, 39, 24, 25, 26, 40, 41, 42, 43, 44, 55, 56, 57, 58, 59, 60, 61, 62, 63, 64, 65, 66, 67, 68] (by decide +kernel) (by decide +kernel)
set_option maxRecDepth 20000 in
theorem gX1_isPossible_X1_knownBits : GoodIn wsX1_isPossible (wsV RX1 86 RX1 yX1_knownBits wsX1_knownBits) := goodIn_app (goodIn_of _ (by decide +kernel)) ggX1_isPossible_X1_knownBits
set_option maxRecDepth 20000 in
theorem ggX1_isPossible_X0_contains : GoodIn wsX1_isPossible wsX0_contains := goodIn_r _ [48, 49, 50, 51, 52, 46, 53, 54, 69, 70] (by decide +kernel) (by decide +kernel)
set_option maxRecDepth 20000 in
theorem gX1_isPossible_X0_contains_n167 : GoodIn wsX1_isPossible (wsX0_contains) := ggX1_isPossible_X0_contains
theorem dX1_isPossible_0 : decode cX1_isPossible 0 = .ok (.aload_n 0, 1) := by decide +kernel
theorem dX1_isPossible_1 : decode cX1_isPossible 1 = .ok (.invokevirtual 92, 3) := by decide +kernel
theorem dX1_isPossible_4 : decode cX1_isPossible 4 = .ok (.aload_n 0, 1) := by decide +kernel
theorem dX1_isPossible_5 : decode cX1_isPossible 5 = .ok (.iload_n 1, 1) := by decide +kernel
theorem dX1_isPossible_6 : decode cX1_isPossible 6 = .ok (.invokevirtual 145, 3) := by decide +kernel
theorem dX1_isPossible_9 : decode cX1_isPossible 9 = .ok (.aload_n 0, 1) := by decide +kernel
theorem dX1_isPossible_10 : decode cX1_isPossible 10 = .ok (.iload_n 3, 1) := by decide +kernel
theorem dX1_isPossible_11 : decode cX1_isPossible 11 = .ok (.invokevirtual 95, 3) := by decide +kernel
theorem dX1_isPossible_14 : decode cX1_isPossible 14 = .ok (.aload_n 0, 1) := by decide +kernel
theorem dX1_isPossible_15 : decode cX1_isPossible 15 = .ok (.iload 4, 2) := by decide +kernel
theorem dX1_isPossible_17 : decode cX1_isPossible 17 = .ok (.invokevirtual 95, 3) := by decide +kernel
theorem dX1_isPossible_20 : decode cX1_isPossible 20 = .ok (.iload_n 2, 1) := by decide +kernel
theorem dX1_isPossible_21 : decode cX1_isPossible 21 = .ok (.sipush (-256), 3) := by decide +kernel
theorem dX1_isPossible_24 : decode cX1_isPossible 24 = .ok (.iand, 1) := by decide +kernel
theorem dX1_isPossible_25 : decode cX1_isPossible 25 = .ok (.ifCond .ne 29, 3) := by decide +kernel
theorem dX1_isPossible_28 : decode cX1_isPossible 28 = .ok (.aload_n 0, 1) := by decide +kernel
theorem dX1_isPossible_29 : decode cX1_isPossible 29 = .ok (.getfield 12, 3) := by decide +kernel
theorem dX1_isPossible_32 : decode cX1_isPossible 32 = .ok (.iload_n 2, 1) := by decide +kernel
theorem dX1_isPossible_33 : decode cX1_isPossible 33 = .ok (.iload_n 3, 1) := by decide +kernel
theorem dX1_isPossible_34 : decode cX1_isPossible 34 = .ok (.iload 4, 2) := by decide +kernel
theorem dX1_isPossible_36 : decode cX1_isPossible 36 = .ok (.invokestatic 78, 3) := by decide +kernel
theorem dX1_isPossible_39 : decode cX1_isPossible 39 = .ok (.aload_n 0, 1) := by decide +kernel
theorem dX1_isPossible_40 : decode cX1_isPossible 40 = .ok (.iload_n 1, 1) := by decide +kernel
theorem dX1_isPossible_41 : decode cX1_isPossible 41 = .ok (.invokevirtual 86, 3) := by decide +kernel
theorem dX1_isPossible_44 : decode cX1_isPossible 44 = .ok (.invokevirtual 167, 3) := by decide +kernel
theorem dX1_isPossible_47 : decode cX1_isPossible 47 = .ok (.ifCond .eq 7, 3) := by decide +kernel
theorem dX1_isPossible_50 : decode cX1_isPossible 50 = .ok (.iconst 1, 1) := by decide +kernel
theorem dX1_isPossible_51 : decode cX1_isPossible 51 = .ok (.goto 4, 3) := by decide +kernel
theorem dX1_isPossible_54 : decode cX1_isPossible 54 = .ok (.iconst 0, 1) := by decide +kernel
theorem dX1_isPossible_55 : decode cX1_isPossible 55 = .ok (.ireturn, 1) := by decide +kernel
theorem dX1_requireGame_0 : decode cX1_requireGame 0 = .ok (.aload_n 0, 1) := by decide +kernel
theorem dX1_requireGame_1 : decode cX1_requireGame 1 = .ok (.getfield 20, 3) := by decide +kernel
theorem dX1_requireGame_4 : decode cX1_requireGame 4 = .ok (.ifCond .ne 13, 3) := by decide +kernel
theorem dX1_requireGame_7 : decode cX1_requireGame 7 = .ok (.new 171, 3) := by decide +kernel
theorem dX1_requireGame_10 : decode cX1_requireGame 10 = .ok (.dup, 1) := by decide +kernel
theorem dX1_requireGame_11 : decode cX1_requireGame 11 = .ok (.ldc 173, 2) := by decide +kernel
theorem dX1_requireGame_13 : decode cX1_requireGame 13 = .ok (.invokespecial 175, 3) := by decide +kernel
theorem dX1_requireGame_16 : decode cX1_requireGame 16 = .ok (.athrow, 1) := by decide +kernel
theorem dX1_requireGame_17 : decode cX1_requireGame 17 = .ok (.return_, 1) := by decide +kernel
theorem dX1_requirePhase_0 : decode cX1_requirePhase 0 = .ok (.aload_n 0, 1) := by decide +kernel
theorem dX1_requirePhase_1 : decode cX1_requirePhase 1 = .ok (.getfield 20, 3) := by decide +kernel
theorem dX1_requirePhase_4 : decode cX1_requirePhase 4 = .ok (.iload_n 1, 1) := by decide +kernel
theorem dX1_requirePhase_5 : decode cX1_requirePhase 5 = .ok (.if_icmp .eq 13, 3) := by decide +kernel
theorem dX1_requirePhase_8 : decode cX1_requirePhase 8 = .ok (.new 171, 3) := by decide +kernel
theorem dX1_requirePhase_11 : decode cX1_requirePhase 11 = .ok (.dup, 1) := by decide +kernel
theorem dX1_requirePhase_12 : decode cX1_requirePhase 12 = .ok (.ldc 176, 2) := by decide +kernel
theorem dX1_requirePhase_14 : decode cX1_requirePhase 14 = .ok (.invokespecial 175, 3) := by decide +kernel
theorem dX1_requirePhase_17 : decode cX1_requirePhase 17 = .ok (.athrow, 1) := by decide +kernel
theorem dX1_requirePhase_18 : decode cX1_requirePhase 18 = .ok (.return_, 1) := by decide +kernel
set_option maxRecDepth 20000 in
theorem ggX1_requireToLive_X1_isAlive : GoodIn wsX1_requireToLive wsX1_isAlive := goodIn_r _ [7, 8, 9, 10, 6, 11, 12, 13, 14, 15, 16, 17, 18, 19, 20, 21, 22, 23, 24, 25] (by decide +kernel) (by decide +kernel)
set_option maxRecDepth 20000 in
theorem gX1_requireToLive_X1_isAlive : GoodIn wsX1_requireToLive (wsV RX1 114 RX1 yX1_isAlive wsX1_isAlive) := goodIn_app (goodIn_of _ (by decide +kernel)) ggX1_requireToLive_X1_isAlive
theorem dX1_requireToLive_0 : decode cX1_requireToLive 0 = .ok (.aload_n 0, 1) := by decide +kernel
theorem dX1_requireToLive_1 : decode cX1_requireToLive 1 = .ok (.iload_n 1, 1) := by decide +kernel
theorem dX1_requireToLive_2 : decode cX1_requireToLive 2 = .ok (.invokevirtual 114, 3) := by decide +kernel
theorem dX1_requireToLive_5 : decode cX1_requireToLive 5 = .ok (.ifCond .ne 13, 3) := by decide +kernel
theorem dX1_requireToLive_8 : decode cX1_requireToLive 8 = .ok (.new 171, 3) := by decide +kernel
theorem dX1_requireToLive_11 : decode cX1_requireToLive 11 = .ok (.dup, 1) := by decide +kernel
theorem dX1_requireToLive_12 : decode cX1_requireToLive 12 = .ok (.ldc 178, 2) := by decide +kernel
theorem dX1_requireToLive_14 : decode cX1_requireToLive 14 = .ok (.invokespecial 175, 3) := by decide +kernel
theorem dX1_requireToLive_17 : decode cX1_requireToLive 17 = .ok (.athrow, 1) := by decide +kernel
theorem dX1_requireToLive_18 : decode cX1_requireToLive 18 = .ok (.return_, 1) := by decide +kernel
theorem dX1_requirePlayer_0 : decode cX1_requirePlayer 0 = .ok (.iload_n 1, 1) := by decide +kernel
theorem dX1_requirePlayer_1 : decode cX1_requirePlayer 1 = .ok (.ifCond .lt 11, 3) := by decide +kernel
theorem dX1_requirePlayer_4 : decode cX1_requirePlayer 4 = .ok (.iload_n 1, 1) := by decide +kernel
theorem dX1_requirePlayer_5 : decode cX1_requirePlayer 5 = .ok (.aload_n 0, 1) := by decide +kernel
theorem dX1_requirePlayer_6 : decode cX1_requirePlayer 6 = .ok (.getfield 47, 3) := by decide +kernel
theorem dX1_requirePlayer_9 : decode cX1_requirePlayer 9 = .ok (.if_icmp .lt 13, 3) := by decide +kernel
theorem dX1_requirePlayer_12 : decode cX1_requirePlayer 12 = .ok (.new 180, 3) := by decide +kernel
theorem dX1_requirePlayer_15 : decode cX1_requirePlayer 15 = .ok (.dup, 1) := by decide +kernel
theorem dX1_requirePlayer_16 : decode cX1_requirePlayer 16 = .ok (.ldc 182, 2) := by decide +kernel
theorem dX1_requirePlayer_18 : decode cX1_requirePlayer 18 = .ok (.invokespecial 184, 3) := by decide +kernel
theorem dX1_requirePlayer_21 : decode cX1_requirePlayer 21 = .ok (.athrow, 1) := by decide +kernel
theorem dX1_requirePlayer_22 : decode cX1_requirePlayer 22 = .ok (.return_, 1) := by decide +kernel
set_option maxRecDepth 20000 in
theorem ggX1_requireViewer_X1_requirePlayer : GoodIn wsX1_requireViewer wsX1_requirePlayer := goodIn_ca (goodIn_r _ [5, 6, 7, 8, 9, 10, 11, 12, 13, 14, 15, 16, 17, 18, 19, 20, 21, 22] (by decide +kernel) (by decide +kernel)) (goodIn_sub (fun _ h => List.mem_cons_of_mem _ (List.mem_append_right _ h)) (by decide +kernel))
set_option maxRecDepth 20000 in
theorem gX1_requireViewer_X1_requirePlayer : GoodIn wsX1_requireViewer (wsV RX1 95 RX1 yX1_requirePlayer wsX1_requirePlayer) := goodIn_app (goodIn_of _ (by decide +kernel)) ggX1_requireViewer_X1_requirePlayer
theorem dX1_requireViewer_0 : decode cX1_requireViewer 0 = .ok (.iload_n 1, 1) := by decide +kernel
theorem dX1_requireViewer_1 : decode cX1_requireViewer 1 = .ok (.iconst (-1), 1) := by decide +kernel
theorem dX1_requireViewer_2 : decode cX1_requireViewer 2 = .ok (.if_icmp .eq 8, 3) := by decide +kernel
theorem dX1_requireViewer_5 : decode cX1_requireViewer 5 = .ok (.aload_n 0, 1) := by decide +kernel
theorem dX1_requireViewer_6 : decode cX1_requireViewer 6 = .ok (.iload_n 1, 1) := by decide +kernel
theorem dX1_requireViewer_7 : decode cX1_requireViewer 7 = .ok (.invokevirtual 95, 3) := by decide +kernel
theorem dX1_requireViewer_10 : decode cX1_requireViewer 10 = .ok (.return_, 1) := by decide +kernel
set_option maxRecDepth 20000 in
theorem ggX1_isDeal_X1_everyone : GoodIn wsX1_isDeal wsX1_everyone := goodIn_r _ [4] (by decide +kernel) (by decide +kernel)
set_option maxRecDepth 20000 in
theorem gX1_isDeal_X1_everyone : GoodIn wsX1_isDeal (va_wsS RX1 59 yX1_everyone wsX1_everyone) := goodIn_app (goodIn_of _ (by decide +kernel)) ggX1_isDeal_X1_everyone
set_option maxRecDepth 20000 in
theorem ggX1_isDeal_J6_bitCount_0f7a4 : GoodIn wsX1_isDeal wsJ6_bitCount_0f7a4 := goodIn_r _ [8, 9, 10, 11] (by decide +kernel) (by decide +kernel)
set_option maxRecDepth 20000 in
theorem gX1_isDeal_J6_bitCount_0f7a4 : GoodIn wsX1_isDeal (va_wsS RX1 185 yJ6_bitCount_0f7a4 wsJ6_bitCount_0f7a4) := goodIn_app (goodIn_of _ (by decide +kernel)) ggX1_isDeal_J6_bitCount_0f7a4
set_option maxRecDepth 20000 in
theorem ggX1_isDeal_X1_isHonestIn : GoodIn wsX1_isDeal wsX1_isHonestIn := goodIn_r _ [14, 15, 16, 3, 17] (by decide +kernel) (by decide +kernel)
set_option maxRecDepth 20000 in
theorem gX1_isDeal_X1_isHonestIn : GoodIn wsX1_isDeal (va_wsS RX1 190 yX1_isHonestIn wsX1_isHonestIn) := goodIn_app (goodIn_of _ (by decide +kernel)) ggX1_isDeal_X1_isHonestIn
theorem dX1_isDeal_0 : decode cX1_isDeal 0 = .ok (.iload_n 0, 1) := by decide +kernel
theorem dX1_isDeal_1 : decode cX1_isDeal 1 = .ok (.iconst 4, 1) := by decide +kernel
theorem dX1_isDeal_2 : decode cX1_isDeal 2 = .ok (.if_icmp .lt 61, 3) := by decide +kernel
theorem dX1_isDeal_5 : decode cX1_isDeal 5 = .ok (.iload_n 0, 1) := by decide +kernel
theorem dX1_isDeal_6 : decode cX1_isDeal 6 = .ok (.bipush 8, 2) := by decide +kernel
theorem dX1_isDeal_8 : decode cX1_isDeal 8 = .ok (.if_icmp .gt 55, 3) := by decide +kernel
theorem dX1_isDeal_11 : decode cX1_isDeal 11 = .ok (.iload_n 1, 1) := by decide +kernel
theorem dX1_isDeal_12 : decode cX1_isDeal 12 = .ok (.iload_n 0, 1) := by decide +kernel
theorem dX1_isDeal_13 : decode cX1_isDeal 13 = .ok (.invokestatic 59, 3) := by decide +kernel
theorem dX1_isDeal_16 : decode cX1_isDeal 16 = .ok (.iconst (-1), 1) := by decide +kernel
theorem dX1_isDeal_17 : decode cX1_isDeal 17 = .ok (.ixor, 1) := by decide +kernel
theorem dX1_isDeal_18 : decode cX1_isDeal 18 = .ok (.iand, 1) := by decide +kernel
theorem dX1_isDeal_19 : decode cX1_isDeal 19 = .ok (.ifCond .ne 44, 3) := by decide +kernel
theorem dX1_isDeal_22 : decode cX1_isDeal 22 = .ok (.iload_n 1, 1) := by decide +kernel
theorem dX1_isDeal_23 : decode cX1_isDeal 23 = .ok (.ifCond .eq 40, 3) := by decide +kernel
theorem dX1_isDeal_26 : decode cX1_isDeal 26 = .ok (.iconst 2, 1) := by decide +kernel
theorem dX1_isDeal_27 : decode cX1_isDeal 27 = .ok (.iload_n 1, 1) := by decide +kernel
theorem dX1_isDeal_28 : decode cX1_isDeal 28 = .ok (.invokestatic 185, 3) := by decide +kernel
theorem dX1_isDeal_31 : decode cX1_isDeal 31 = .ok (.imul, 1) := by decide +kernel
theorem dX1_isDeal_32 : decode cX1_isDeal 32 = .ok (.iload_n 0, 1) := by decide +kernel
theorem dX1_isDeal_33 : decode cX1_isDeal 33 = .ok (.if_icmp .ge 30, 3) := by decide +kernel
theorem dX1_isDeal_36 : decode cX1_isDeal 36 = .ok (.iload_n 0, 1) := by decide +kernel
theorem dX1_isDeal_37 : decode cX1_isDeal 37 = .ok (.iload_n 1, 1) := by decide +kernel
theorem dX1_isDeal_38 : decode cX1_isDeal 38 = .ok (.iload_n 2, 1) := by decide +kernel
theorem dX1_isDeal_39 : decode cX1_isDeal 39 = .ok (.invokestatic 190, 3) := by decide +kernel
theorem dX1_isDeal_42 : decode cX1_isDeal 42 = .ok (.ifCond .eq 21, 3) := by decide +kernel
theorem dX1_isDeal_45 : decode cX1_isDeal 45 = .ok (.iload_n 0, 1) := by decide +kernel
theorem dX1_isDeal_46 : decode cX1_isDeal 46 = .ok (.iload_n 1, 1) := by decide +kernel
theorem dX1_isDeal_47 : decode cX1_isDeal 47 = .ok (.iload_n 3, 1) := by decide +kernel
theorem dX1_isDeal_48 : decode cX1_isDeal 48 = .ok (.invokestatic 190, 3) := by decide +kernel
theorem dX1_isDeal_51 : decode cX1_isDeal 51 = .ok (.ifCond .eq 12, 3) := by decide +kernel
theorem dX1_isDeal_54 : decode cX1_isDeal 54 = .ok (.iload_n 2, 1) := by decide +kernel
theorem dX1_isDeal_55 : decode cX1_isDeal 55 = .ok (.iload_n 3, 1) := by decide +kernel
theorem dX1_isDeal_56 : decode cX1_isDeal 56 = .ok (.if_icmp .eq 7, 3) := by decide +kernel
theorem dX1_isDeal_59 : decode cX1_isDeal 59 = .ok (.iconst 1, 1) := by decide +kernel
theorem dX1_isDeal_60 : decode cX1_isDeal 60 = .ok (.goto 4, 3) := by decide +kernel
theorem dX1_isDeal_63 : decode cX1_isDeal 63 = .ok (.iconst 0, 1) := by decide +kernel
theorem dX1_isDeal_64 : decode cX1_isDeal 64 = .ok (.ireturn, 1) := by decide +kernel
set_option maxRecDepth 20000 in
theorem ggX1_isHonestIn_X1_setOf : GoodIn wsX1_isHonestIn wsX1_setOf := goodIn_r _ [4] (by decide +kernel) (by decide +kernel)
set_option maxRecDepth 20000 in
theorem gX1_isHonestIn_X1_setOf : GoodIn wsX1_isHonestIn (va_wsS RX1 194 yX1_setOf wsX1_setOf) := goodIn_app (goodIn_of _ (by decide +kernel)) ggX1_isHonestIn_X1_setOf
theorem dX1_isHonestIn_0 : decode cX1_isHonestIn 0 = .ok (.iload_n 2, 1) := by decide +kernel
theorem dX1_isHonestIn_1 : decode cX1_isHonestIn 1 = .ok (.ifCond .lt 21, 3) := by decide +kernel
theorem dX1_isHonestIn_4 : decode cX1_isHonestIn 4 = .ok (.iload_n 2, 1) := by decide +kernel
theorem dX1_isHonestIn_5 : decode cX1_isHonestIn 5 = .ok (.iload_n 0, 1) := by decide +kernel
theorem dX1_isHonestIn_6 : decode cX1_isHonestIn 6 = .ok (.if_icmp .ge 16, 3) := by decide +kernel
theorem dX1_isHonestIn_9 : decode cX1_isHonestIn 9 = .ok (.iload_n 1, 1) := by decide +kernel
theorem dX1_isHonestIn_10 : decode cX1_isHonestIn 10 = .ok (.iload_n 2, 1) := by decide +kernel
theorem dX1_isHonestIn_11 : decode cX1_isHonestIn 11 = .ok (.invokestatic 194, 3) := by decide +kernel
theorem dX1_isHonestIn_14 : decode cX1_isHonestIn 14 = .ok (.iand, 1) := by decide +kernel
theorem dX1_isHonestIn_15 : decode cX1_isHonestIn 15 = .ok (.ifCond .ne 7, 3) := by decide +kernel
theorem dX1_isHonestIn_18 : decode cX1_isHonestIn 18 = .ok (.iconst 1, 1) := by decide +kernel
theorem dX1_isHonestIn_19 : decode cX1_isHonestIn 19 = .ok (.goto 4, 3) := by decide +kernel
theorem dX1_isHonestIn_22 : decode cX1_isHonestIn 22 = .ok (.iconst 0, 1) := by decide +kernel
theorem dX1_isHonestIn_23 : decode cX1_isHonestIn 23 = .ok (.ireturn, 1) := by decide +kernel
theorem dX1_setOf_0 : decode cX1_setOf 0 = .ok (.iconst 1, 1) := by decide +kernel
theorem dX1_setOf_1 : decode cX1_setOf 1 = .ok (.iload_n 0, 1) := by decide +kernel
theorem dX1_setOf_2 : decode cX1_setOf 2 = .ok (.ishl, 1) := by decide +kernel
theorem dX1_setOf_3 : decode cX1_setOf 3 = .ok (.ireturn, 1) := by decide +kernel
theorem dX1_everyone_0 : decode cX1_everyone 0 = .ok (.iconst 1, 1) := by decide +kernel
theorem dX1_everyone_1 : decode cX1_everyone 1 = .ok (.iload_n 0, 1) := by decide +kernel
theorem dX1_everyone_2 : decode cX1_everyone 2 = .ok (.ishl, 1) := by decide +kernel
theorem dX1_everyone_3 : decode cX1_everyone 3 = .ok (.iconst 1, 1) := by decide +kernel
theorem dX1_everyone_4 : decode cX1_everyone 4 = .ok (.isub, 1) := by decide +kernel
theorem dX1_everyone_5 : decode cX1_everyone 5 = .ok (.ireturn, 1) := by decide +kernel
set_option maxRecDepth 20000 in
theorem ggX1_isAlive_X1_setOf : GoodIn wsX1_isAlive wsX1_setOf := goodIn_r _ [5] (by decide +kernel) (by decide +kernel)
set_option maxRecDepth 20000 in
theorem gX1_isAlive_X1_setOf : GoodIn wsX1_isAlive (va_wsS RX1 194 yX1_setOf wsX1_setOf) := goodIn_app (goodIn_of _ (by decide +kernel)) ggX1_isAlive_X1_setOf
theorem dX1_isAlive_0 : decode cX1_isAlive 0 = .ok (.aload_n 0, 1) := by decide +kernel
theorem dX1_isAlive_1 : decode cX1_isAlive 1 = .ok (.getfield 63, 3) := by decide +kernel
theorem dX1_isAlive_4 : decode cX1_isAlive 4 = .ok (.iload_n 1, 1) := by decide +kernel
theorem dX1_isAlive_5 : decode cX1_isAlive 5 = .ok (.invokestatic 194, 3) := by decide +kernel
theorem dX1_isAlive_8 : decode cX1_isAlive 8 = .ok (.iand, 1) := by decide +kernel
theorem dX1_isAlive_9 : decode cX1_isAlive 9 = .ok (.ifCond .eq 7, 3) := by decide +kernel
theorem dX1_isAlive_12 : decode cX1_isAlive 12 = .ok (.iconst 1, 1) := by decide +kernel
theorem dX1_isAlive_13 : decode cX1_isAlive 13 = .ok (.goto 4, 3) := by decide +kernel
theorem dX1_isAlive_16 : decode cX1_isAlive 16 = .ok (.iconst 0, 1) := by decide +kernel
theorem dX1_isAlive_17 : decode cX1_isAlive 17 = .ok (.ireturn, 1) := by decide +kernel
set_option maxRecDepth 20000 in
theorem ggX1_isWitch_X1_setOf : GoodIn wsX1_isWitch wsX1_setOf := goodIn_r _ [5] (by decide +kernel) (by decide +kernel)
set_option maxRecDepth 20000 in
theorem gX1_isWitch_X1_setOf : GoodIn wsX1_isWitch (va_wsS RX1 194 yX1_setOf wsX1_setOf) := goodIn_app (goodIn_of _ (by decide +kernel)) ggX1_isWitch_X1_setOf
theorem dX1_isWitch_0 : decode cX1_isWitch 0 = .ok (.aload_n 0, 1) := by decide +kernel
theorem dX1_isWitch_1 : decode cX1_isWitch 1 = .ok (.getfield 50, 3) := by decide +kernel
theorem dX1_isWitch_4 : decode cX1_isWitch 4 = .ok (.iload_n 1, 1) := by decide +kernel
theorem dX1_isWitch_5 : decode cX1_isWitch 5 = .ok (.invokestatic 194, 3) := by decide +kernel
theorem dX1_isWitch_8 : decode cX1_isWitch 8 = .ok (.iand, 1) := by decide +kernel
theorem dX1_isWitch_9 : decode cX1_isWitch 9 = .ok (.ifCond .eq 7, 3) := by decide +kernel
theorem dX1_isWitch_12 : decode cX1_isWitch 12 = .ok (.iconst 1, 1) := by decide +kernel
theorem dX1_isWitch_13 : decode cX1_isWitch 13 = .ok (.goto 4, 3) := by decide +kernel
theorem dX1_isWitch_16 : decode cX1_isWitch 16 = .ok (.iconst 0, 1) := by decide +kernel
theorem dX1_isWitch_17 : decode cX1_isWitch 17 = .ok (.ireturn, 1) := by decide +kernel
set_option maxRecDepth 20000 in
theorem ggX1_makeClaim_X1_isAlive : GoodIn wsX1_makeClaim wsX1_isAlive := goodIn_r _ [9, 10, 11, 12, 8, 13, 51, 52, 53, 54, 55, 56, 57, 58, 59, 60, 61, 62, 63, 64] (by decide +kernel) (by decide +kernel)
set_option maxRecDepth 20000 in
theorem gX1_makeClaim_X1_isAlive : GoodIn wsX1_makeClaim (wsV RX1 114 RX1 yX1_isAlive wsX1_isAlive) := goodIn_app (goodIn_of _ (by decide +kernel)) ggX1_makeClaim_X1_isAlive
set_option maxRecDepth 20000 in
theorem ggX1_makeClaim_X0_allowsClaim : GoodIn wsX1_makeClaim wsX0_allowsClaim := goodIn_r _ [17, 18, 19, 20, 15, 21, 12, 8, 13, 65, 66] (by decide +kernel) (by decide +kernel)
set_option maxRecDepth 20000 in
theorem gX1_makeClaim_X0_allowsClaim_n197 : GoodIn wsX1_makeClaim (wsX0_allowsClaim) := ggX1_makeClaim_X0_allowsClaim
set_option maxRecDepth 20000 in
theorem ggX1_makeClaim_X0_keepClaim : GoodIn wsX1_makeClaim wsX0_keepClaim := goodIn_r _ [24, 25, 19, 20, 15, 21, 12, 8, 13, 65, 66] (by decide +kernel) (by decide +kernel)
set_option maxRecDepth 20000 in
theorem gX1_makeClaim_X0_keepClaim_n206 : GoodIn wsX1_makeClaim (wsX0_keepClaim) := ggX1_makeClaim_X0_keepClaim
set_option maxRecDepth 20000 in
theorem ggX1_makeClaim_X1_knownBits : GoodIn wsX1_makeClaim wsX1_knownBits := goodIn_r _ [29, 30, 10, 31, 32, 33, 34, 8, 35, 36, 37, 38, 11, 12, 13, 39, 40, 41, 42, 43, 51, 52, 53, 54, 55, 56, 57, 58, 59, 60, 61, 62, 63, 64] (by decide +kernel) (by decide +kernel)
set_option maxRecDepth 20000 in
theorem gX1_makeClaim_X1_knownBits : GoodIn wsX1_makeClaim (wsV RX1 86 RX1 yX1_knownBits wsX1_knownBits) := goodIn_app (goodIn_of _ (by decide +kernel)) ggX1_makeClaim_X1_knownBits
set_option maxRecDepth 20000 in
theorem ggX1_makeClaim_X0_count : GoodIn wsX1_makeClaim wsX0_count := goodIn_r _ [46, 25, 47, 48, 49, 15, 50, 18, 65, 66] (by decide +kernel) (by decide +kernel)
set_option maxRecDepth 20000 in
theorem gX1_makeClaim_X0_count_n89 : GoodIn wsX1_makeClaim (wsX0_count) := ggX1_makeClaim_X0_count
theorem dX1_makeClaim_0 : decode cX1_makeClaim 0 = .ok (.aload_n 0, 1) := by decide +kernel
theorem dX1_makeClaim_1 : decode cX1_makeClaim 1 = .ok (.getfield 20, 3) := by decide +kernel
theorem dX1_makeClaim_4 : decode cX1_makeClaim 4 = .ok (.iconst 1, 1) := by decide +kernel
theorem dX1_makeClaim_5 : decode cX1_makeClaim 5 = .ok (.if_icmp .ne 24, 3) := by decide +kernel
theorem dX1_makeClaim_8 : decode cX1_makeClaim 8 = .ok (.aload_n 0, 1) := by decide +kernel
theorem dX1_makeClaim_9 : decode cX1_makeClaim 9 = .ok (.iload_n 1, 1) := by decide +kernel
theorem dX1_makeClaim_10 : decode cX1_makeClaim 10 = .ok (.invokevirtual 114, 3) := by decide +kernel
theorem dX1_makeClaim_13 : decode cX1_makeClaim 13 = .ok (.ifCond .eq 16, 3) := by decide +kernel
theorem dX1_makeClaim_16 : decode cX1_makeClaim 16 = .ok (.aload_n 0, 1) := by decide +kernel
theorem dX1_makeClaim_17 : decode cX1_makeClaim 17 = .ok (.getfield 12, 3) := by decide +kernel
theorem dX1_makeClaim_20 : decode cX1_makeClaim 20 = .ok (.iload_n 1, 1) := by decide +kernel
theorem dX1_makeClaim_21 : decode cX1_makeClaim 21 = .ok (.iload_n 2, 1) := by decide +kernel
theorem dX1_makeClaim_22 : decode cX1_makeClaim 22 = .ok (.iload_n 3, 1) := by decide +kernel
theorem dX1_makeClaim_23 : decode cX1_makeClaim 23 = .ok (.invokevirtual 197, 3) := by decide +kernel
theorem dX1_makeClaim_26 : decode cX1_makeClaim 26 = .ok (.ifCond .ne 13, 3) := by decide +kernel
theorem dX1_makeClaim_29 : decode cX1_makeClaim 29 = .ok (.new 201, 3) := by decide +kernel
theorem dX1_makeClaim_32 : decode cX1_makeClaim 32 = .ok (.dup, 1) := by decide +kernel
theorem dX1_makeClaim_33 : decode cX1_makeClaim 33 = .ok (.ldc 203, 2) := by decide +kernel
theorem dX1_makeClaim_35 : decode cX1_makeClaim 35 = .ok (.invokespecial 205, 3) := by decide +kernel
theorem dX1_makeClaim_38 : decode cX1_makeClaim 38 = .ok (.athrow, 1) := by decide +kernel
theorem dX1_makeClaim_39 : decode cX1_makeClaim 39 = .ok (.aload_n 0, 1) := by decide +kernel
theorem dX1_makeClaim_40 : decode cX1_makeClaim 40 = .ok (.getfield 12, 3) := by decide +kernel
theorem dX1_makeClaim_43 : decode cX1_makeClaim 43 = .ok (.iload_n 1, 1) := by decide +kernel
theorem dX1_makeClaim_44 : decode cX1_makeClaim 44 = .ok (.iload_n 2, 1) := by decide +kernel
theorem dX1_makeClaim_45 : decode cX1_makeClaim 45 = .ok (.iload_n 3, 1) := by decide +kernel
theorem dX1_makeClaim_46 : decode cX1_makeClaim 46 = .ok (.invokevirtual 206, 3) := by decide +kernel
theorem dX1_makeClaim_49 : decode cX1_makeClaim 49 = .ok (.aload_n 0, 1) := by decide +kernel
theorem dX1_makeClaim_50 : decode cX1_makeClaim 50 = .ok (.getfield 12, 3) := by decide +kernel
theorem dX1_makeClaim_53 : decode cX1_makeClaim 53 = .ok (.aload_n 0, 1) := by decide +kernel
theorem dX1_makeClaim_54 : decode cX1_makeClaim 54 = .ok (.iconst (-1), 1) := by decide +kernel
theorem dX1_makeClaim_55 : decode cX1_makeClaim 55 = .ok (.invokevirtual 86, 3) := by decide +kernel
theorem dX1_makeClaim_58 : decode cX1_makeClaim 58 = .ok (.invokevirtual 89, 3) := by decide +kernel
theorem dX1_makeClaim_61 : decode cX1_makeClaim 61 = .ok (.ireturn, 1) := by decide +kernel
theorem dX1_countVotes_0 : decode cX1_countVotes 0 = .ok (.iconst 0, 1) := by decide +kernel
theorem dX1_countVotes_1 : decode cX1_countVotes 1 = .ok (.istore_n 2, 1) := by decide +kernel
theorem dX1_countVotes_2 : decode cX1_countVotes 2 = .ok (.aload_n 0, 1) := by decide +kernel
theorem dX1_countVotes_3 : decode cX1_countVotes 3 = .ok (.getfield 16, 3) := by decide +kernel
theorem dX1_countVotes_6 : decode cX1_countVotes 6 = .ok (.astore_n 3, 1) := by decide +kernel
theorem dX1_countVotes_7 : decode cX1_countVotes 7 = .ok (.aload_n 3, 1) := by decide +kernel
theorem dX1_countVotes_8 : decode cX1_countVotes 8 = .ok (.arraylength, 1) := by decide +kernel
theorem dX1_countVotes_9 : decode cX1_countVotes 9 = .ok (.istore 4, 2) := by decide +kernel
theorem dX1_countVotes_11 : decode cX1_countVotes 11 = .ok (.iconst 0, 1) := by decide +kernel
theorem dX1_countVotes_12 : decode cX1_countVotes 12 = .ok (.istore 5, 2) := by decide +kernel
theorem dX1_countVotes_14 : decode cX1_countVotes 14 = .ok (.iload 5, 2) := by decide +kernel
theorem dX1_countVotes_16 : decode cX1_countVotes 16 = .ok (.iload 4, 2) := by decide +kernel
theorem dX1_countVotes_18 : decode cX1_countVotes 18 = .ok (.if_icmp .ge 24, 3) := by decide +kernel
theorem dX1_countVotes_21 : decode cX1_countVotes 21 = .ok (.aload_n 3, 1) := by decide +kernel
theorem dX1_countVotes_22 : decode cX1_countVotes 22 = .ok (.iload 5, 2) := by decide +kernel
theorem dX1_countVotes_24 : decode cX1_countVotes 24 = .ok (.iaload, 1) := by decide +kernel
theorem dX1_countVotes_25 : decode cX1_countVotes 25 = .ok (.istore 6, 2) := by decide +kernel
theorem dX1_countVotes_27 : decode cX1_countVotes 27 = .ok (.iload 6, 2) := by decide +kernel
theorem dX1_countVotes_29 : decode cX1_countVotes 29 = .ok (.iload_n 1, 1) := by decide +kernel
theorem dX1_countVotes_30 : decode cX1_countVotes 30 = .ok (.if_icmp .ne 6, 3) := by decide +kernel
theorem dX1_countVotes_33 : decode cX1_countVotes 33 = .ok (.iinc 2 1, 3) := by decide +kernel
theorem dX1_countVotes_36 : decode cX1_countVotes 36 = .ok (.iinc 5 1, 3) := by decide +kernel
theorem dX1_countVotes_39 : decode cX1_countVotes 39 = .ok (.goto (-25), 3) := by decide +kernel
theorem dX1_countVotes_42 : decode cX1_countVotes 42 = .ok (.iload_n 2, 1) := by decide +kernel
theorem dX1_countVotes_43 : decode cX1_countVotes 43 = .ok (.ireturn, 1) := by decide +kernel
set_option maxRecDepth 20000 in
theorem ggX1_playerWithMostVotes_X1_countVotes : GoodIn wsX1_playerWithMostVotes wsX1_countVotes := goodIn_r _ [6, 7, 8, 9, 10, 11, 12, 13, 14, 15, 16, 17, 18, 19, 20, 21] (by decide +kernel) (by decide +kernel)
set_option maxRecDepth 20000 in
theorem gX1_playerWithMostVotes_X1_countVotes : GoodIn wsX1_playerWithMostVotes (wsV RX1 120 RX1 yX1_countVotes wsX1_countVotes) := goodIn_app (goodIn_of _ (by decide +kernel)) ggX1_playerWithMostVotes_X1_countVotes
theorem dX1_playerWithMostVotes_0 : decode cX1_playerWithMostVotes 0 = .ok (.iconst (-1), 1) := by decide +kernel
theorem dX1_playerWithMostVotes_1 : decode cX1_playerWithMostVotes 1 = .ok (.istore_n 1, 1) := by decide +kernel
theorem dX1_playerWithMostVotes_2 : decode cX1_playerWithMostVotes 2 = .ok (.iconst 0, 1) := by decide +kernel
theorem dX1_playerWithMostVotes_3 : decode cX1_playerWithMostVotes 3 = .ok (.istore_n 2, 1) := by decide +kernel
theorem dX1_playerWithMostVotes_4 : decode cX1_playerWithMostVotes 4 = .ok (.iconst 0, 1) := by decide +kernel
theorem dX1_playerWithMostVotes_5 : decode cX1_playerWithMostVotes 5 = .ok (.istore_n 3, 1) := by decide +kernel
theorem dX1_playerWithMostVotes_6 : decode cX1_playerWithMostVotes 6 = .ok (.iload_n 3, 1) := by decide +kernel
theorem dX1_playerWithMostVotes_7 : decode cX1_playerWithMostVotes 7 = .ok (.aload_n 0, 1) := by decide +kernel
theorem dX1_playerWithMostVotes_8 : decode cX1_playerWithMostVotes 8 = .ok (.getfield 47, 3) := by decide +kernel
theorem dX1_playerWithMostVotes_11 : decode cX1_playerWithMostVotes 11 = .ok (.if_icmp .ge 38, 3) := by decide +kernel
theorem dX1_playerWithMostVotes_14 : decode cX1_playerWithMostVotes 14 = .ok (.aload_n 0, 1) := by decide +kernel
theorem dX1_playerWithMostVotes_15 : decode cX1_playerWithMostVotes 15 = .ok (.iload_n 3, 1) := by decide +kernel
theorem dX1_playerWithMostVotes_16 : decode cX1_playerWithMostVotes 16 = .ok (.invokevirtual 120, 3) := by decide +kernel
theorem dX1_playerWithMostVotes_19 : decode cX1_playerWithMostVotes 19 = .ok (.istore 4, 2) := by decide +kernel
theorem dX1_playerWithMostVotes_21 : decode cX1_playerWithMostVotes 21 = .ok (.iload 4, 2) := by decide +kernel
theorem dX1_playerWithMostVotes_23 : decode cX1_playerWithMostVotes 23 = .ok (.iload_n 2, 1) := by decide +kernel
theorem dX1_playerWithMostVotes_24 : decode cX1_playerWithMostVotes 24 = .ok (.if_icmp .le 11, 3) := by decide +kernel
theorem dX1_playerWithMostVotes_27 : decode cX1_playerWithMostVotes 27 = .ok (.iload 4, 2) := by decide +kernel
theorem dX1_playerWithMostVotes_29 : decode cX1_playerWithMostVotes 29 = .ok (.istore_n 2, 1) := by decide +kernel
theorem dX1_playerWithMostVotes_30 : decode cX1_playerWithMostVotes 30 = .ok (.iload_n 3, 1) := by decide +kernel
theorem dX1_playerWithMostVotes_31 : decode cX1_playerWithMostVotes 31 = .ok (.istore_n 1, 1) := by decide +kernel
theorem dX1_playerWithMostVotes_32 : decode cX1_playerWithMostVotes 32 = .ok (.goto 11, 3) := by decide +kernel
theorem dX1_playerWithMostVotes_35 : decode cX1_playerWithMostVotes 35 = .ok (.iload 4, 2) := by decide +kernel
theorem dX1_playerWithMostVotes_37 : decode cX1_playerWithMostVotes 37 = .ok (.iload_n 2, 1) := by decide +kernel
theorem dX1_playerWithMostVotes_38 : decode cX1_playerWithMostVotes 38 = .ok (.if_icmp .ne 5, 3) := by decide +kernel
theorem dX1_playerWithMostVotes_41 : decode cX1_playerWithMostVotes 41 = .ok (.iconst (-1), 1) := by decide +kernel
theorem dX1_playerWithMostVotes_42 : decode cX1_playerWithMostVotes 42 = .ok (.istore_n 1, 1) := by decide +kernel
theorem dX1_playerWithMostVotes_43 : decode cX1_playerWithMostVotes 43 = .ok (.iinc 3 1, 3) := by decide +kernel
theorem dX1_playerWithMostVotes_46 : decode cX1_playerWithMostVotes 46 = .ok (.goto (-40), 3) := by decide +kernel
theorem dX1_playerWithMostVotes_49 : decode cX1_playerWithMostVotes 49 = .ok (.iload_n 1, 1) := by decide +kernel
theorem dX1_playerWithMostVotes_50 : decode cX1_playerWithMostVotes 50 = .ok (.ireturn, 1) := by decide +kernel
set_option maxRecDepth 20000 in
theorem ggX1_forgetVotes_J7_fill_53178 : GoodIn wsX1_forgetVotes wsJ7_fill_53178 := goodIn_r _ [5] (by decide +kernel) (by decide +kernel)
set_option maxRecDepth 20000 in
theorem gX1_forgetVotes_J7_fill_53178 : GoodIn wsX1_forgetVotes (va_wsS RX1 210 yJ7_fill_53178 wsJ7_fill_53178) := goodIn_app (goodIn_of _ (by decide +kernel)) ggX1_forgetVotes_J7_fill_53178
theorem dX1_forgetVotes_0 : decode cX1_forgetVotes 0 = .ok (.aload_n 0, 1) := by decide +kernel
theorem dX1_forgetVotes_1 : decode cX1_forgetVotes 1 = .ok (.getfield 16, 3) := by decide +kernel
theorem dX1_forgetVotes_4 : decode cX1_forgetVotes 4 = .ok (.iconst (-1), 1) := by decide +kernel
theorem dX1_forgetVotes_5 : decode cX1_forgetVotes 5 = .ok (.invokestatic 210, 3) := by decide +kernel
theorem dX1_forgetVotes_8 : decode cX1_forgetVotes 8 = .ok (.return_, 1) := by decide +kernel
theorem dX1_forgetChoices_0 : decode cX1_forgetChoices 0 = .ok (.aload_n 0, 1) := by decide +kernel
theorem dX1_forgetChoices_1 : decode cX1_forgetChoices 1 = .ok (.iconst (-1), 1) := by decide +kernel
theorem dX1_forgetChoices_2 : decode cX1_forgetChoices 2 = .ok (.putfield 24, 3) := by decide +kernel
theorem dX1_forgetChoices_5 : decode cX1_forgetChoices 5 = .ok (.aload_n 0, 1) := by decide +kernel
theorem dX1_forgetChoices_6 : decode cX1_forgetChoices 6 = .ok (.iconst (-1), 1) := by decide +kernel
theorem dX1_forgetChoices_7 : decode cX1_forgetChoices 7 = .ok (.putfield 27, 3) := by decide +kernel
theorem dX1_forgetChoices_10 : decode cX1_forgetChoices 10 = .ok (.aload_n 0, 1) := by decide +kernel
theorem dX1_forgetChoices_11 : decode cX1_forgetChoices 11 = .ok (.iconst (-1), 1) := by decide +kernel
theorem dX1_forgetChoices_12 : decode cX1_forgetChoices 12 = .ok (.putfield 30, 3) := by decide +kernel
theorem dX1_forgetChoices_15 : decode cX1_forgetChoices 15 = .ok (.return_, 1) := by decide +kernel
set_option maxRecDepth 20000 in
theorem ggX1_die_X1_setOf : GoodIn wsX1_die wsX1_setOf := goodIn_r _ [7] (by decide +kernel) (by decide +kernel)
set_option maxRecDepth 20000 in
theorem gX1_die_X1_setOf : GoodIn wsX1_die (va_wsS RX1 194 yX1_setOf wsX1_setOf) := goodIn_app (goodIn_of _ (by decide +kernel)) ggX1_die_X1_setOf
set_option maxRecDepth 20000 in
theorem ggX1_die_J6_bitCount_0f7a4 : GoodIn wsX1_die wsJ6_bitCount_0f7a4 := goodIn_r _ [11, 12, 13, 14] (by decide +kernel) (by decide +kernel)
set_option maxRecDepth 20000 in
theorem gX1_die_J6_bitCount_0f7a4 : GoodIn wsX1_die (va_wsS RX1 185 yJ6_bitCount_0f7a4 wsJ6_bitCount_0f7a4) := goodIn_app (goodIn_of _ (by decide +kernel)) ggX1_die_J6_bitCount_0f7a4
theorem dX1_die_0 : decode cX1_die 0 = .ok (.aload_n 0, 1) := by decide +kernel
theorem dX1_die_1 : decode cX1_die 1 = .ok (.aload_n 0, 1) := by decide +kernel
theorem dX1_die_2 : decode cX1_die 2 = .ok (.getfield 63, 3) := by decide +kernel
theorem dX1_die_5 : decode cX1_die 5 = .ok (.iload_n 1, 1) := by decide +kernel
theorem dX1_die_6 : decode cX1_die 6 = .ok (.invokestatic 194, 3) := by decide +kernel
theorem dX1_die_9 : decode cX1_die 9 = .ok (.iconst (-1), 1) := by decide +kernel
theorem dX1_die_10 : decode cX1_die 10 = .ok (.ixor, 1) := by decide +kernel
theorem dX1_die_11 : decode cX1_die 11 = .ok (.iand, 1) := by decide +kernel
theorem dX1_die_12 : decode cX1_die 12 = .ok (.putfield 63, 3) := by decide +kernel
theorem dX1_die_15 : decode cX1_die 15 = .ok (.aload_n 0, 1) := by decide +kernel
theorem dX1_die_16 : decode cX1_die 16 = .ok (.getfield 63, 3) := by decide +kernel
theorem dX1_die_19 : decode cX1_die 19 = .ok (.aload_n 0, 1) := by decide +kernel
theorem dX1_die_20 : decode cX1_die 20 = .ok (.getfield 50, 3) := by decide +kernel
theorem dX1_die_23 : decode cX1_die 23 = .ok (.iand, 1) := by decide +kernel
theorem dX1_die_24 : decode cX1_die 24 = .ok (.invokestatic 185, 3) := by decide +kernel
theorem dX1_die_27 : decode cX1_die 27 = .ok (.istore_n 2, 1) := by decide +kernel
theorem dX1_die_28 : decode cX1_die 28 = .ok (.aload_n 0, 1) := by decide +kernel
theorem dX1_die_29 : decode cX1_die 29 = .ok (.getfield 63, 3) := by decide +kernel
theorem dX1_die_32 : decode cX1_die 32 = .ok (.aload_n 0, 1) := by decide +kernel
theorem dX1_die_33 : decode cX1_die 33 = .ok (.getfield 50, 3) := by decide +kernel
theorem dX1_die_36 : decode cX1_die 36 = .ok (.iconst (-1), 1) := by decide +kernel
theorem dX1_die_37 : decode cX1_die 37 = .ok (.ixor, 1) := by decide +kernel
theorem dX1_die_38 : decode cX1_die 38 = .ok (.iand, 1) := by decide +kernel
theorem dX1_die_39 : decode cX1_die 39 = .ok (.invokestatic 185, 3) := by decide +kernel
theorem dX1_die_42 : decode cX1_die 42 = .ok (.istore_n 3, 1) := by decide +kernel
theorem dX1_die_43 : decode cX1_die 43 = .ok (.iload_n 2, 1) := by decide +kernel
theorem dX1_die_44 : decode cX1_die 44 = .ok (.ifCond .ne 11, 3) := by decide +kernel
theorem dX1_die_47 : decode cX1_die 47 = .ok (.aload_n 0, 1) := by decide +kernel
theorem dX1_die_48 : decode cX1_die 48 = .ok (.iconst 3, 1) := by decide +kernel
theorem dX1_die_49 : decode cX1_die 49 = .ok (.putfield 20, 3) := by decide +kernel
theorem dX1_die_52 : decode cX1_die 52 = .ok (.goto 13, 3) := by decide +kernel
theorem dX1_die_55 : decode cX1_die 55 = .ok (.iload_n 2, 1) := by decide +kernel
theorem dX1_die_56 : decode cX1_die 56 = .ok (.iload_n 3, 1) := by decide +kernel
theorem dX1_die_57 : decode cX1_die 57 = .ok (.if_icmp .lt 8, 3) := by decide +kernel
theorem dX1_die_60 : decode cX1_die 60 = .ok (.aload_n 0, 1) := by decide +kernel
theorem dX1_die_61 : decode cX1_die 61 = .ok (.iconst 4, 1) := by decide +kernel
theorem dX1_die_62 : decode cX1_die 62 = .ok (.putfield 20, 3) := by decide +kernel
theorem dX1_die_65 : decode cX1_die 65 = .ok (.return_, 1) := by decide +kernel
set_option maxRecDepth 20000 in
theorem ggX1_seerLooks_X1_isAlive : GoodIn wsX1_seerLooks wsX1_isAlive := goodIn_r _ [8, 9, 10, 11, 7, 12, 13, 14, 15, 16, 17, 18, 19, 20, 21, 22, 23, 24, 25, 26] (by decide +kernel) (by decide +kernel)
set_option maxRecDepth 20000 in
theorem gX1_seerLooks_X1_isAlive : GoodIn wsX1_seerLooks (wsV RX1 114 RX1 yX1_isAlive wsX1_isAlive) := goodIn_app (goodIn_of _ (by decide +kernel)) ggX1_seerLooks_X1_isAlive
set_option maxRecDepth 20000 in
theorem ggX1_seerLooks_X1_setOf : GoodIn wsX1_seerLooks wsX1_setOf := goodIn_r _ [12] (by decide +kernel) (by decide +kernel)
set_option maxRecDepth 20000 in
theorem gX1_seerLooks_X1_setOf : GoodIn wsX1_seerLooks (va_wsS RX1 194 yX1_setOf wsX1_setOf) := goodIn_app (goodIn_of _ (by decide +kernel)) ggX1_seerLooks_X1_setOf
theorem dX1_seerLooks_0 : decode cX1_seerLooks 0 = .ok (.aload_n 0, 1) := by decide +kernel
theorem dX1_seerLooks_1 : decode cX1_seerLooks 1 = .ok (.getfield 30, 3) := by decide +kernel
theorem dX1_seerLooks_4 : decode cX1_seerLooks 4 = .ok (.iconst (-1), 1) := by decide +kernel
theorem dX1_seerLooks_5 : decode cX1_seerLooks 5 = .ok (.if_icmp .eq 30, 3) := by decide +kernel
theorem dX1_seerLooks_8 : decode cX1_seerLooks 8 = .ok (.aload_n 0, 1) := by decide +kernel
theorem dX1_seerLooks_9 : decode cX1_seerLooks 9 = .ok (.aload_n 0, 1) := by decide +kernel
theorem dX1_seerLooks_10 : decode cX1_seerLooks 10 = .ok (.getfield 53, 3) := by decide +kernel
theorem dX1_seerLooks_13 : decode cX1_seerLooks 13 = .ok (.invokevirtual 114, 3) := by decide +kernel
theorem dX1_seerLooks_16 : decode cX1_seerLooks 16 = .ok (.ifCond .eq 19, 3) := by decide +kernel
theorem dX1_seerLooks_19 : decode cX1_seerLooks 19 = .ok (.aload_n 0, 1) := by decide +kernel
theorem dX1_seerLooks_20 : decode cX1_seerLooks 20 = .ok (.aload_n 0, 1) := by decide +kernel
theorem dX1_seerLooks_21 : decode cX1_seerLooks 21 = .ok (.getfield 66, 3) := by decide +kernel
theorem dX1_seerLooks_24 : decode cX1_seerLooks 24 = .ok (.aload_n 0, 1) := by decide +kernel
theorem dX1_seerLooks_25 : decode cX1_seerLooks 25 = .ok (.getfield 30, 3) := by decide +kernel
theorem dX1_seerLooks_28 : decode cX1_seerLooks 28 = .ok (.invokestatic 194, 3) := by decide +kernel
theorem dX1_seerLooks_31 : decode cX1_seerLooks 31 = .ok (.ior, 1) := by decide +kernel
theorem dX1_seerLooks_32 : decode cX1_seerLooks 32 = .ok (.putfield 66, 3) := by decide +kernel
theorem dX1_seerLooks_35 : decode cX1_seerLooks 35 = .ok (.return_, 1) := by decide +kernel
set_option maxRecDepth 20000 in
theorem ggX1_worldOf_X1_setOf : GoodIn wsX1_worldOf wsX1_setOf := goodIn_r _ [4] (by decide +kernel) (by decide +kernel)
set_option maxRecDepth 20000 in
theorem gX1_worldOf_X1_setOf : GoodIn wsX1_worldOf (va_wsS RX1 194 yX1_setOf wsX1_setOf) := goodIn_app (goodIn_of _ (by decide +kernel)) ggX1_worldOf_X1_setOf
theorem dX1_worldOf_0 : decode cX1_worldOf 0 = .ok (.iload_n 0, 1) := by decide +kernel
theorem dX1_worldOf_1 : decode cX1_worldOf 1 = .ok (.iload_n 1, 1) := by decide +kernel
theorem dX1_worldOf_2 : decode cX1_worldOf 2 = .ok (.invokestatic 194, 3) := by decide +kernel
theorem dX1_worldOf_5 : decode cX1_worldOf 5 = .ok (.bipush 8, 2) := by decide +kernel
theorem dX1_worldOf_7 : decode cX1_worldOf 7 = .ok (.ishl, 1) := by decide +kernel
theorem dX1_worldOf_8 : decode cX1_worldOf 8 = .ok (.ior, 1) := by decide +kernel
theorem dX1_worldOf_9 : decode cX1_worldOf 9 = .ok (.iload_n 2, 1) := by decide +kernel
theorem dX1_worldOf_10 : decode cX1_worldOf 10 = .ok (.invokestatic 194, 3) := by decide +kernel
theorem dX1_worldOf_13 : decode cX1_worldOf 13 = .ok (.bipush 16, 2) := by decide +kernel
theorem dX1_worldOf_15 : decode cX1_worldOf 15 = .ok (.ishl, 1) := by decide +kernel
theorem dX1_worldOf_16 : decode cX1_worldOf 16 = .ok (.ior, 1) := by decide +kernel
theorem dX1_worldOf_17 : decode cX1_worldOf 17 = .ok (.ireturn, 1) := by decide +kernel
theorem dX1_witchesOf_0 : decode cX1_witchesOf 0 = .ok (.iload_n 0, 1) := by decide +kernel
theorem dX1_witchesOf_1 : decode cX1_witchesOf 1 = .ok (.sipush 255, 3) := by decide +kernel
theorem dX1_witchesOf_4 : decode cX1_witchesOf 4 = .ok (.iand, 1) := by decide +kernel
theorem dX1_witchesOf_5 : decode cX1_witchesOf 5 = .ok (.ireturn, 1) := by decide +kernel
theorem dX1_roleBits_0 : decode cX1_roleBits 0 = .ok (.iload_n 0, 1) := by decide +kernel
theorem dX1_roleBits_1 : decode cX1_roleBits 1 = .ok (.iload_n 0, 1) := by decide +kernel
theorem dX1_roleBits_2 : decode cX1_roleBits 2 = .ok (.bipush 8, 2) := by decide +kernel
theorem dX1_roleBits_4 : decode cX1_roleBits 4 = .ok (.ishl, 1) := by decide +kernel
theorem dX1_roleBits_5 : decode cX1_roleBits 5 = .ok (.ior, 1) := by decide +kernel
theorem dX1_roleBits_6 : decode cX1_roleBits 6 = .ok (.iload_n 0, 1) := by decide +kernel
theorem dX1_roleBits_7 : decode cX1_roleBits 7 = .ok (.bipush 16, 2) := by decide +kernel
theorem dX1_roleBits_9 : decode cX1_roleBits 9 = .ok (.ishl, 1) := by decide +kernel
theorem dX1_roleBits_10 : decode cX1_roleBits 10 = .ok (.ior, 1) := by decide +kernel
theorem dX1_roleBits_11 : decode cX1_roleBits 11 = .ok (.ireturn, 1) := by decide +kernel
set_option maxRecDepth 20000 in
theorem ggX1_bitOfRole_X1_setOf : GoodIn wsX1_bitOfRole wsX1_setOf := goodIn_r _ [4] (by decide +kernel) (by decide +kernel)
set_option maxRecDepth 20000 in
theorem gX1_bitOfRole_X1_setOf : GoodIn wsX1_bitOfRole (va_wsS RX1 194 yX1_setOf wsX1_setOf) := goodIn_app (goodIn_of _ (by decide +kernel)) ggX1_bitOfRole_X1_setOf
theorem dX1_bitOfRole_0 : decode cX1_bitOfRole 0 = .ok (.iload_n 1, 1) := by decide +kernel
theorem dX1_bitOfRole_1 : decode cX1_bitOfRole 1 = .ok (.tableswitch 48 1 3 #[27, 32, 40], 27) := by decide +kernel
theorem dX1_bitOfRole_28 : decode cX1_bitOfRole 28 = .ok (.iload_n 0, 1) := by decide +kernel
theorem dX1_bitOfRole_29 : decode cX1_bitOfRole 29 = .ok (.invokestatic 194, 3) := by decide +kernel
theorem dX1_bitOfRole_32 : decode cX1_bitOfRole 32 = .ok (.ireturn, 1) := by decide +kernel
theorem dX1_bitOfRole_33 : decode cX1_bitOfRole 33 = .ok (.iload_n 0, 1) := by decide +kernel
theorem dX1_bitOfRole_34 : decode cX1_bitOfRole 34 = .ok (.invokestatic 194, 3) := by decide +kernel
theorem dX1_bitOfRole_37 : decode cX1_bitOfRole 37 = .ok (.bipush 8, 2) := by decide +kernel
theorem dX1_bitOfRole_39 : decode cX1_bitOfRole 39 = .ok (.ishl, 1) := by decide +kernel
theorem dX1_bitOfRole_40 : decode cX1_bitOfRole 40 = .ok (.ireturn, 1) := by decide +kernel
theorem dX1_bitOfRole_41 : decode cX1_bitOfRole 41 = .ok (.iload_n 0, 1) := by decide +kernel
theorem dX1_bitOfRole_42 : decode cX1_bitOfRole 42 = .ok (.invokestatic 194, 3) := by decide +kernel
theorem dX1_bitOfRole_45 : decode cX1_bitOfRole 45 = .ok (.bipush 16, 2) := by decide +kernel
theorem dX1_bitOfRole_47 : decode cX1_bitOfRole 47 = .ok (.ishl, 1) := by decide +kernel
theorem dX1_bitOfRole_48 : decode cX1_bitOfRole 48 = .ok (.ireturn, 1) := by decide +kernel
theorem dX1_bitOfRole_49 : decode cX1_bitOfRole 49 = .ok (.iconst 0, 1) := by decide +kernel
theorem dX1_bitOfRole_50 : decode cX1_bitOfRole 50 = .ok (.ireturn, 1) := by decide +kernel
set_option maxRecDepth 20000 in
theorem ggX1_claimedBits_X1_bitOfRole : GoodIn wsX1_claimedBits wsX1_bitOfRole := goodIn_r _ [4, 5, 6, 3, 7] (by decide +kernel) (by decide +kernel)
set_option maxRecDepth 20000 in
theorem gX1_claimedBits_X1_bitOfRole : GoodIn wsX1_claimedBits (va_wsS RX1 216 yX1_bitOfRole wsX1_bitOfRole) := goodIn_app (goodIn_of _ (by decide +kernel)) ggX1_claimedBits_X1_bitOfRole
theorem dX1_claimedBits_0 : decode cX1_claimedBits 0 = .ok (.iload_n 0, 1) := by decide +kernel
theorem dX1_claimedBits_1 : decode cX1_claimedBits 1 = .ok (.lookupswitch 39 #[(2, 27), (3, 33)], 27) := by decide +kernel
theorem dX1_claimedBits_28 : decode cX1_claimedBits 28 = .ok (.iload_n 1, 1) := by decide +kernel
theorem dX1_claimedBits_29 : decode cX1_claimedBits 29 = .ok (.iconst 2, 1) := by decide +kernel
theorem dX1_claimedBits_30 : decode cX1_claimedBits 30 = .ok (.invokestatic 216, 3) := by decide +kernel
theorem dX1_claimedBits_33 : decode cX1_claimedBits 33 = .ok (.ireturn, 1) := by decide +kernel
theorem dX1_claimedBits_34 : decode cX1_claimedBits 34 = .ok (.iload_n 1, 1) := by decide +kernel
theorem dX1_claimedBits_35 : decode cX1_claimedBits 35 = .ok (.iconst 3, 1) := by decide +kernel
theorem dX1_claimedBits_36 : decode cX1_claimedBits 36 = .ok (.invokestatic 216, 3) := by decide +kernel
theorem dX1_claimedBits_39 : decode cX1_claimedBits 39 = .ok (.ireturn, 1) := by decide +kernel
theorem dX1_claimedBits_40 : decode cX1_claimedBits 40 = .ok (.iload_n 1, 1) := by decide +kernel
theorem dX1_claimedBits_41 : decode cX1_claimedBits 41 = .ok (.iconst 1, 1) := by decide +kernel
theorem dX1_claimedBits_42 : decode cX1_claimedBits 42 = .ok (.invokestatic 216, 3) := by decide +kernel
theorem dX1_claimedBits_45 : decode cX1_claimedBits 45 = .ok (.ireturn, 1) := by decide +kernel
set_option maxRecDepth 20000 in
theorem ggX1_knownBits_X1_everyone : GoodIn wsX1_knownBits wsX1_everyone := goodIn_r _ [8] (by decide +kernel) (by decide +kernel)
set_option maxRecDepth 20000 in
theorem gX1_knownBits_X1_everyone : GoodIn wsX1_knownBits (va_wsS RX1 59 yX1_everyone wsX1_everyone) := goodIn_app (goodIn_of _ (by decide +kernel)) ggX1_knownBits_X1_everyone
set_option maxRecDepth 20000 in
theorem ggX1_knownBits_X1_roleBits : GoodIn wsX1_knownBits wsX1_roleBits := goodIn_r _ [11] (by decide +kernel) (by decide +kernel)
set_option maxRecDepth 20000 in
theorem gX1_knownBits_X1_roleBits : GoodIn wsX1_knownBits (va_wsS RX1 219 yX1_roleBits wsX1_roleBits) := goodIn_app (goodIn_of _ (by decide +kernel)) ggX1_knownBits_X1_roleBits
set_option maxRecDepth 20000 in
theorem ggX1_knownBits_X1_setOf : GoodIn wsX1_knownBits wsX1_setOf := goodIn_r _ [14] (by decide +kernel) (by decide +kernel)
set_option maxRecDepth 20000 in
theorem gX1_knownBits_X1_setOf : GoodIn wsX1_knownBits (va_wsS RX1 194 yX1_setOf wsX1_setOf) := goodIn_app (goodIn_of _ (by decide +kernel)) ggX1_knownBits_X1_setOf
set_option maxRecDepth 20000 in
theorem ggX1_knownBits_X1_isWitch : GoodIn wsX1_knownBits wsX1_isWitch := goodIn_r _ [18, 19, 12, 13, 7, 14, 20, 21, 22, 23, 24, 25, 26, 27, 28, 29, 30, 31, 32, 33] (by decide +kernel) (by decide +kernel)
set_option maxRecDepth 20000 in
theorem gX1_knownBits_X1_isWitch : GoodIn wsX1_knownBits (wsV RX1 135 RX1 yX1_isWitch wsX1_isWitch) := goodIn_app (goodIn_of _ (by decide +kernel)) ggX1_knownBits_X1_isWitch
theorem dX1_knownBits_0 : decode cX1_knownBits 0 = .ok (.aload_n 0, 1) := by decide +kernel
theorem dX1_knownBits_1 : decode cX1_knownBits 1 = .ok (.getfield 47, 3) := by decide +kernel
theorem dX1_knownBits_4 : decode cX1_knownBits 4 = .ok (.invokestatic 59, 3) := by decide +kernel
theorem dX1_knownBits_7 : decode cX1_knownBits 7 = .ok (.aload_n 0, 1) := by decide +kernel
theorem dX1_knownBits_8 : decode cX1_knownBits 8 = .ok (.getfield 63, 3) := by decide +kernel
theorem dX1_knownBits_11 : decode cX1_knownBits 11 = .ok (.iconst (-1), 1) := by decide +kernel
theorem dX1_knownBits_12 : decode cX1_knownBits 12 = .ok (.ixor, 1) := by decide +kernel
theorem dX1_knownBits_13 : decode cX1_knownBits 13 = .ok (.iand, 1) := by decide +kernel
theorem dX1_knownBits_14 : decode cX1_knownBits 14 = .ok (.invokestatic 219, 3) := by decide +kernel
theorem dX1_knownBits_17 : decode cX1_knownBits 17 = .ok (.istore_n 2, 1) := by decide +kernel
theorem dX1_knownBits_18 : decode cX1_knownBits 18 = .ok (.iload_n 1, 1) := by decide +kernel
theorem dX1_knownBits_19 : decode cX1_knownBits 19 = .ok (.iconst (-1), 1) := by decide +kernel
theorem dX1_knownBits_20 : decode cX1_knownBits 20 = .ok (.if_icmp .ne 5, 3) := by decide +kernel
theorem dX1_knownBits_23 : decode cX1_knownBits 23 = .ok (.iload_n 2, 1) := by decide +kernel
theorem dX1_knownBits_24 : decode cX1_knownBits 24 = .ok (.ireturn, 1) := by decide +kernel
theorem dX1_knownBits_25 : decode cX1_knownBits 25 = .ok (.iload_n 2, 1) := by decide +kernel
theorem dX1_knownBits_26 : decode cX1_knownBits 26 = .ok (.iload_n 1, 1) := by decide +kernel
theorem dX1_knownBits_27 : decode cX1_knownBits 27 = .ok (.invokestatic 194, 3) := by decide +kernel
theorem dX1_knownBits_30 : decode cX1_knownBits 30 = .ok (.invokestatic 219, 3) := by decide +kernel
theorem dX1_knownBits_33 : decode cX1_knownBits 33 = .ok (.ior, 1) := by decide +kernel
theorem dX1_knownBits_34 : decode cX1_knownBits 34 = .ok (.istore_n 2, 1) := by decide +kernel
theorem dX1_knownBits_35 : decode cX1_knownBits 35 = .ok (.aload_n 0, 1) := by decide +kernel
theorem dX1_knownBits_36 : decode cX1_knownBits 36 = .ok (.iload_n 1, 1) := by decide +kernel
theorem dX1_knownBits_37 : decode cX1_knownBits 37 = .ok (.invokevirtual 135, 3) := by decide +kernel
theorem dX1_knownBits_40 : decode cX1_knownBits 40 = .ok (.ifCond .eq 9, 3) := by decide +kernel
theorem dX1_knownBits_43 : decode cX1_knownBits 43 = .ok (.iload_n 2, 1) := by decide +kernel
theorem dX1_knownBits_44 : decode cX1_knownBits 44 = .ok (.sipush 255, 3) := by decide +kernel
theorem dX1_knownBits_47 : decode cX1_knownBits 47 = .ok (.ior, 1) := by decide +kernel
theorem dX1_knownBits_48 : decode cX1_knownBits 48 = .ok (.ireturn, 1) := by decide +kernel
theorem dX1_knownBits_49 : decode cX1_knownBits 49 = .ok (.iload_n 1, 1) := by decide +kernel
theorem dX1_knownBits_50 : decode cX1_knownBits 50 = .ok (.aload_n 0, 1) := by decide +kernel
theorem dX1_knownBits_51 : decode cX1_knownBits 51 = .ok (.getfield 53, 3) := by decide +kernel
theorem dX1_knownBits_54 : decode cX1_knownBits 54 = .ok (.if_icmp .ne 12, 3) := by decide +kernel
theorem dX1_knownBits_57 : decode cX1_knownBits 57 = .ok (.iload_n 2, 1) := by decide +kernel
theorem dX1_knownBits_58 : decode cX1_knownBits 58 = .ok (.aload_n 0, 1) := by decide +kernel
theorem dX1_knownBits_59 : decode cX1_knownBits 59 = .ok (.getfield 66, 3) := by decide +kernel
theorem dX1_knownBits_62 : decode cX1_knownBits 62 = .ok (.ior, 1) := by decide +kernel
theorem dX1_knownBits_63 : decode cX1_knownBits 63 = .ok (.goto 4, 3) := by decide +kernel
theorem dX1_knownBits_66 : decode cX1_knownBits 66 = .ok (.iload_n 2, 1) := by decide +kernel
theorem dX1_knownBits_67 : decode cX1_knownBits 67 = .ok (.ireturn, 1) := by decide +kernel
