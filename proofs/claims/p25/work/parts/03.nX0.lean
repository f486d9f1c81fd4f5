theorem dX0_init_0 : decode cX0_init 0 = .ok (.aload_n 0, 1) := by decide +kernel
theorem dX0_init_1 : decode cX0_init 1 = .ok (.invokespecial 3, 3) := by decide +kernel
theorem dX0_init_4 : decode cX0_init 4 = .ok (.aload_n 0, 1) := by decide +kernel
theorem dX0_init_5 : decode cX0_init 5 = .ok (.sipush 1120, 3) := by decide +kernel
theorem dX0_init_8 : decode cX0_init 8 = .ok (.newarray .int, 2) := by decide +kernel
theorem dX0_init_10 : decode cX0_init 10 = .ok (.putfield 11, 3) := by decide +kernel
theorem dX0_init_13 : decode cX0_init 13 = .ok (.return_, 1) := by decide +kernel
set_option maxRecDepth 20000 in
theorem ggX0_open_J7_fill_53178 : GoodIn wsX0_open wsJ7_fill_53178 := goodIn_r _ [6] (by decide +kernel) (by decide +kernel)
set_option maxRecDepth 20000 in
theorem gX0_open_J7_fill_53178 : GoodIn wsX0_open (va_wsS RX0 19 yJ7_fill_53178 wsJ7_fill_53178) := goodIn_app (goodIn_of _ (by decide +kernel)) ggX0_open_J7_fill_53178
set_option maxRecDepth 20000 in
theorem ggX0_open_X1_witchesOf : GoodIn wsX0_open wsX1_witchesOf := goodIn_r _ [9] (by decide +kernel) (by decide +kernel)
set_option maxRecDepth 20000 in
theorem gX0_open_X1_witchesOf_n25 : GoodIn wsX0_open (wsX1_witchesOf) := ggX0_open_X1_witchesOf
set_option maxRecDepth 20000 in
theorem ggX0_open_J6_bitCount_0f7a4 : GoodIn wsX0_open wsJ6_bitCount_0f7a4 := goodIn_r _ [13, 14, 15, 16] (by decide +kernel) (by decide +kernel)
set_option maxRecDepth 20000 in
theorem gX0_open_J6_bitCount_0f7a4 : GoodIn wsX0_open (va_wsS RX0 29 yJ6_bitCount_0f7a4 wsJ6_bitCount_0f7a4) := goodIn_app (goodIn_of _ (by decide +kernel)) ggX0_open_J6_bitCount_0f7a4
set_option maxRecDepth 20000 in
theorem ggX0_open_X1_everyone : GoodIn wsX0_open wsX1_everyone := goodIn_r _ [18] (by decide +kernel) (by decide +kernel)
set_option maxRecDepth 20000 in
theorem gX0_open_X1_everyone_n34 : GoodIn wsX0_open (wsX1_everyone) := ggX0_open_X1_everyone
set_option maxRecDepth 20000 in
theorem ggX0_open_X0_addWorlds : GoodIn wsX0_open wsX0_addWorlds := goodIn_r _ [23, 2, 24, 8, 25, 26, 27, 28, 29, 30, 31, 32] (by decide +kernel) (by decide +kernel)
set_option maxRecDepth 20000 in
theorem gX0_open_X0_addWorlds : GoodIn wsX0_open (wsV RX0 37 RX0 yX0_addWorlds wsX0_addWorlds) := goodIn_app (goodIn_of _ (by decide +kernel)) ggX0_open_X0_addWorlds
theorem dX0_open_0 : decode cX0_open 0 = .ok (.aload_n 0, 1) := by decide +kernel
theorem dX0_open_1 : decode cX0_open 1 = .ok (.iload_n 2, 1) := by decide +kernel
theorem dX0_open_2 : decode cX0_open 2 = .ok (.putfield 15, 3) := by decide +kernel
theorem dX0_open_5 : decode cX0_open 5 = .ok (.aload_n 0, 1) := by decide +kernel
theorem dX0_open_6 : decode cX0_open 6 = .ok (.getfield 11, 3) := by decide +kernel
theorem dX0_open_9 : decode cX0_open 9 = .ok (.iconst 0, 1) := by decide +kernel
theorem dX0_open_10 : decode cX0_open 10 = .ok (.invokestatic 19, 3) := by decide +kernel
theorem dX0_open_13 : decode cX0_open 13 = .ok (.iload_n 2, 1) := by decide +kernel
theorem dX0_open_14 : decode cX0_open 14 = .ok (.invokestatic 25, 3) := by decide +kernel
theorem dX0_open_17 : decode cX0_open 17 = .ok (.invokestatic 29, 3) := by decide +kernel
theorem dX0_open_20 : decode cX0_open 20 = .ok (.istore_n 3, 1) := by decide +kernel
theorem dX0_open_21 : decode cX0_open 21 = .ok (.iconst 0, 1) := by decide +kernel
theorem dX0_open_22 : decode cX0_open 22 = .ok (.istore 4, 2) := by decide +kernel
theorem dX0_open_24 : decode cX0_open 24 = .ok (.iconst 1, 1) := by decide +kernel
theorem dX0_open_25 : decode cX0_open 25 = .ok (.istore 5, 2) := by decide +kernel
theorem dX0_open_27 : decode cX0_open 27 = .ok (.iload 5, 2) := by decide +kernel
theorem dX0_open_29 : decode cX0_open 29 = .ok (.iload_n 1, 1) := by decide +kernel
theorem dX0_open_30 : decode cX0_open 30 = .ok (.invokestatic 34, 3) := by decide +kernel
theorem dX0_open_33 : decode cX0_open 33 = .ok (.if_icmp .gt 29, 3) := by decide +kernel
theorem dX0_open_36 : decode cX0_open 36 = .ok (.iload 5, 2) := by decide +kernel
theorem dX0_open_38 : decode cX0_open 38 = .ok (.invokestatic 29, 3) := by decide +kernel
theorem dX0_open_41 : decode cX0_open 41 = .ok (.iload_n 3, 1) := by decide +kernel
theorem dX0_open_42 : decode cX0_open 42 = .ok (.if_icmp .ne 14, 3) := by decide +kernel
theorem dX0_open_45 : decode cX0_open 45 = .ok (.aload_n 0, 1) := by decide +kernel
theorem dX0_open_46 : decode cX0_open 46 = .ok (.iload_n 1, 1) := by decide +kernel
theorem dX0_open_47 : decode cX0_open 47 = .ok (.iload 5, 2) := by decide +kernel
theorem dX0_open_49 : decode cX0_open 49 = .ok (.iload 4, 2) := by decide +kernel
theorem dX0_open_51 : decode cX0_open 51 = .ok (.invokevirtual 37, 3) := by decide +kernel
theorem dX0_open_54 : decode cX0_open 54 = .ok (.istore 4, 2) := by decide +kernel
theorem dX0_open_56 : decode cX0_open 56 = .ok (.iinc 5 1, 3) := by decide +kernel
theorem dX0_open_59 : decode cX0_open 59 = .ok (.goto (-32), 3) := by decide +kernel
theorem dX0_open_62 : decode cX0_open 62 = .ok (.return_, 1) := by decide +kernel
set_option maxRecDepth 20000 in
theorem ggX0_addWorlds_X1_isHonestIn : GoodIn wsX0_addWorlds wsX1_isHonestIn := goodIn_r _ [4, 5, 6, 3, 7] (by decide +kernel) (by decide +kernel)
set_option maxRecDepth 20000 in
theorem gX0_addWorlds_X1_isHonestIn_n41 : GoodIn wsX0_addWorlds (wsX1_isHonestIn) := ggX0_addWorlds_X1_isHonestIn
set_option maxRecDepth 20000 in
theorem ggX0_addWorlds_X1_worldOf : GoodIn wsX0_addWorlds wsX1_worldOf := goodIn_r _ [9, 5, 6, 3, 7] (by decide +kernel) (by decide +kernel)
set_option maxRecDepth 20000 in
theorem gX0_addWorlds_X1_worldOf_n45 : GoodIn wsX0_addWorlds (wsX1_worldOf) := ggX0_addWorlds_X1_worldOf
theorem dX0_addWorlds_0 : decode cX0_addWorlds 0 = .ok (.iload_n 3, 1) := by decide +kernel
theorem dX0_addWorlds_1 : decode cX0_addWorlds 1 = .ok (.istore 4, 2) := by decide +kernel
theorem dX0_addWorlds_3 : decode cX0_addWorlds 3 = .ok (.iconst 0, 1) := by decide +kernel
theorem dX0_addWorlds_4 : decode cX0_addWorlds 4 = .ok (.istore 5, 2) := by decide +kernel
theorem dX0_addWorlds_6 : decode cX0_addWorlds 6 = .ok (.iload 5, 2) := by decide +kernel
theorem dX0_addWorlds_8 : decode cX0_addWorlds 8 = .ok (.iload_n 1, 1) := by decide +kernel
theorem dX0_addWorlds_9 : decode cX0_addWorlds 9 = .ok (.if_icmp .ge 96, 3) := by decide +kernel
theorem dX0_addWorlds_12 : decode cX0_addWorlds 12 = .ok (.iconst 0, 1) := by decide +kernel
theorem dX0_addWorlds_13 : decode cX0_addWorlds 13 = .ok (.istore 6, 2) := by decide +kernel
theorem dX0_addWorlds_15 : decode cX0_addWorlds 15 = .ok (.iload 6, 2) := by decide +kernel
theorem dX0_addWorlds_17 : decode cX0_addWorlds 17 = .ok (.iload_n 1, 1) := by decide +kernel
theorem dX0_addWorlds_18 : decode cX0_addWorlds 18 = .ok (.if_icmp .ge 81, 3) := by decide +kernel
theorem dX0_addWorlds_21 : decode cX0_addWorlds 21 = .ok (.iload 5, 2) := by decide +kernel
theorem dX0_addWorlds_23 : decode cX0_addWorlds 23 = .ok (.iload 6, 2) := by decide +kernel
theorem dX0_addWorlds_25 : decode cX0_addWorlds 25 = .ok (.if_icmp .eq 27, 3) := by decide +kernel
theorem dX0_addWorlds_28 : decode cX0_addWorlds 28 = .ok (.iload_n 1, 1) := by decide +kernel
theorem dX0_addWorlds_29 : decode cX0_addWorlds 29 = .ok (.iload_n 2, 1) := by decide +kernel
theorem dX0_addWorlds_30 : decode cX0_addWorlds 30 = .ok (.iload 5, 2) := by decide +kernel
theorem dX0_addWorlds_32 : decode cX0_addWorlds 32 = .ok (.invokestatic 41, 3) := by decide +kernel
theorem dX0_addWorlds_35 : decode cX0_addWorlds 35 = .ok (.ifCond .eq 17, 3) := by decide +kernel
theorem dX0_addWorlds_38 : decode cX0_addWorlds 38 = .ok (.iload_n 1, 1) := by decide +kernel
theorem dX0_addWorlds_39 : decode cX0_addWorlds 39 = .ok (.iload_n 2, 1) := by decide +kernel
theorem dX0_addWorlds_40 : decode cX0_addWorlds 40 = .ok (.iload 6, 2) := by decide +kernel
theorem dX0_addWorlds_42 : decode cX0_addWorlds 42 = .ok (.invokestatic 41, 3) := by decide +kernel
theorem dX0_addWorlds_45 : decode cX0_addWorlds 45 = .ok (.ifCond .eq 7, 3) := by decide +kernel
theorem dX0_addWorlds_48 : decode cX0_addWorlds 48 = .ok (.iconst 1, 1) := by decide +kernel
theorem dX0_addWorlds_49 : decode cX0_addWorlds 49 = .ok (.goto 4, 3) := by decide +kernel
theorem dX0_addWorlds_52 : decode cX0_addWorlds 52 = .ok (.iconst 0, 1) := by decide +kernel
theorem dX0_addWorlds_53 : decode cX0_addWorlds 53 = .ok (.istore 7, 2) := by decide +kernel
theorem dX0_addWorlds_55 : decode cX0_addWorlds 55 = .ok (.iload 7, 2) := by decide +kernel
theorem dX0_addWorlds_57 : decode cX0_addWorlds 57 = .ok (.ifCond .eq 36, 3) := by decide +kernel
theorem dX0_addWorlds_60 : decode cX0_addWorlds 60 = .ok (.iload 4, 2) := by decide +kernel
theorem dX0_addWorlds_62 : decode cX0_addWorlds 62 = .ok (.ifCond .lt 31, 3) := by decide +kernel
theorem dX0_addWorlds_65 : decode cX0_addWorlds 65 = .ok (.iload 4, 2) := by decide +kernel
theorem dX0_addWorlds_67 : decode cX0_addWorlds 67 = .ok (.aload_n 0, 1) := by decide +kernel
theorem dX0_addWorlds_68 : decode cX0_addWorlds 68 = .ok (.getfield 11, 3) := by decide +kernel
theorem dX0_addWorlds_71 : decode cX0_addWorlds 71 = .ok (.arraylength, 1) := by decide +kernel
theorem dX0_addWorlds_72 : decode cX0_addWorlds 72 = .ok (.if_icmp .ge 21, 3) := by decide +kernel
theorem dX0_addWorlds_75 : decode cX0_addWorlds 75 = .ok (.aload_n 0, 1) := by decide +kernel
theorem dX0_addWorlds_76 : decode cX0_addWorlds 76 = .ok (.getfield 11, 3) := by decide +kernel
theorem dX0_addWorlds_79 : decode cX0_addWorlds 79 = .ok (.iload 4, 2) := by decide +kernel
theorem dX0_addWorlds_81 : decode cX0_addWorlds 81 = .ok (.iload_n 2, 1) := by decide +kernel
theorem dX0_addWorlds_82 : decode cX0_addWorlds 82 = .ok (.iload 5, 2) := by decide +kernel
theorem dX0_addWorlds_84 : decode cX0_addWorlds 84 = .ok (.iload 6, 2) := by decide +kernel
theorem dX0_addWorlds_86 : decode cX0_addWorlds 86 = .ok (.invokestatic 45, 3) := by decide +kernel
theorem dX0_addWorlds_89 : decode cX0_addWorlds 89 = .ok (.iastore, 1) := by decide +kernel
theorem dX0_addWorlds_90 : decode cX0_addWorlds 90 = .ok (.iinc 4 1, 3) := by decide +kernel
theorem dX0_addWorlds_93 : decode cX0_addWorlds 93 = .ok (.iinc 6 1, 3) := by decide +kernel
theorem dX0_addWorlds_96 : decode cX0_addWorlds 96 = .ok (.goto (-81), 3) := by decide +kernel
theorem dX0_addWorlds_99 : decode cX0_addWorlds 99 = .ok (.iinc 5 1, 3) := by decide +kernel
theorem dX0_addWorlds_102 : decode cX0_addWorlds 102 = .ok (.goto (-96), 3) := by decide +kernel
theorem dX0_addWorlds_105 : decode cX0_addWorlds 105 = .ok (.iload 4, 2) := by decide +kernel
theorem dX0_addWorlds_107 : decode cX0_addWorlds 107 = .ok (.ireturn, 1) := by decide +kernel
set_option maxRecDepth 20000 in
theorem ggX0_agreesWithClaim_X1_setOf : GoodIn wsX0_agreesWithClaim wsX1_setOf := goodIn_r _ [3] (by decide +kernel) (by decide +kernel)
set_option maxRecDepth 20000 in
theorem gX0_agreesWithClaim_X1_setOf_n48 : GoodIn wsX0_agreesWithClaim (wsX1_setOf) := ggX0_agreesWithClaim_X1_setOf
theorem dX0_agreesWithClaim_0 : decode cX0_agreesWithClaim 0 = .ok (.iload_n 0, 1) := by decide +kernel
theorem dX0_agreesWithClaim_1 : decode cX0_agreesWithClaim 1 = .ok (.iload_n 1, 1) := by decide +kernel
theorem dX0_agreesWithClaim_2 : decode cX0_agreesWithClaim 2 = .ok (.invokestatic 48, 3) := by decide +kernel
theorem dX0_agreesWithClaim_5 : decode cX0_agreesWithClaim 5 = .ok (.iand, 1) := by decide +kernel
theorem dX0_agreesWithClaim_6 : decode cX0_agreesWithClaim 6 = .ok (.ifCond .ne 18, 3) := by decide +kernel
theorem dX0_agreesWithClaim_9 : decode cX0_agreesWithClaim 9 = .ok (.iload_n 0, 1) := by decide +kernel
theorem dX0_agreesWithClaim_10 : decode cX0_agreesWithClaim 10 = .ok (.iload_n 2, 1) := by decide +kernel
theorem dX0_agreesWithClaim_11 : decode cX0_agreesWithClaim 11 = .ok (.iand, 1) := by decide +kernel
theorem dX0_agreesWithClaim_12 : decode cX0_agreesWithClaim 12 = .ok (.ifCond .eq 7, 3) := by decide +kernel
theorem dX0_agreesWithClaim_15 : decode cX0_agreesWithClaim 15 = .ok (.iconst 1, 1) := by decide +kernel
theorem dX0_agreesWithClaim_16 : decode cX0_agreesWithClaim 16 = .ok (.goto 4, 3) := by decide +kernel
theorem dX0_agreesWithClaim_19 : decode cX0_agreesWithClaim 19 = .ok (.iconst 0, 1) := by decide +kernel
theorem dX0_agreesWithClaim_20 : decode cX0_agreesWithClaim 20 = .ok (.iload_n 3, 1) := by decide +kernel
theorem dX0_agreesWithClaim_21 : decode cX0_agreesWithClaim 21 = .ok (.if_icmp .ne 7, 3) := by decide +kernel
theorem dX0_agreesWithClaim_24 : decode cX0_agreesWithClaim 24 = .ok (.iconst 1, 1) := by decide +kernel
theorem dX0_agreesWithClaim_25 : decode cX0_agreesWithClaim 25 = .ok (.goto 4, 3) := by decide +kernel
theorem dX0_agreesWithClaim_28 : decode cX0_agreesWithClaim 28 = .ok (.iconst 0, 1) := by decide +kernel
theorem dX0_agreesWithClaim_29 : decode cX0_agreesWithClaim 29 = .ok (.ireturn, 1) := by decide +kernel
set_option maxRecDepth 20000 in
theorem ggX0_allowsClaim_X0_agreesWithClaim : GoodIn wsX0_allowsClaim wsX0_agreesWithClaim := goodIn_r _ [5, 6, 7, 8] (by decide +kernel) (by decide +kernel)
set_option maxRecDepth 20000 in
theorem gX0_allowsClaim_X0_agreesWithClaim : GoodIn wsX0_allowsClaim (va_wsS RX0 51 yX0_agreesWithClaim wsX0_agreesWithClaim) := goodIn_app (goodIn_of _ (by decide +kernel)) ggX0_allowsClaim_X0_agreesWithClaim
theorem dX0_allowsClaim_0 : decode cX0_allowsClaim 0 = .ok (.aload_n 0, 1) := by decide +kernel
theorem dX0_allowsClaim_1 : decode cX0_allowsClaim 1 = .ok (.getfield 15, 3) := by decide +kernel
theorem dX0_allowsClaim_4 : decode cX0_allowsClaim 4 = .ok (.iload_n 1, 1) := by decide +kernel
theorem dX0_allowsClaim_5 : decode cX0_allowsClaim 5 = .ok (.iload_n 2, 1) := by decide +kernel
theorem dX0_allowsClaim_6 : decode cX0_allowsClaim 6 = .ok (.iload_n 3, 1) := by decide +kernel
theorem dX0_allowsClaim_7 : decode cX0_allowsClaim 7 = .ok (.invokestatic 51, 3) := by decide +kernel
theorem dX0_allowsClaim_10 : decode cX0_allowsClaim 10 = .ok (.ireturn, 1) := by decide +kernel
set_option maxRecDepth 20000 in
theorem ggX0_keepClaim_X0_agreesWithClaim : GoodIn wsX0_keepClaim wsX0_agreesWithClaim := goodIn_r _ [5, 6, 7, 8] (by decide +kernel) (by decide +kernel)
set_option maxRecDepth 20000 in
theorem gX0_keepClaim_X0_agreesWithClaim : GoodIn wsX0_keepClaim (va_wsS RX0 51 yX0_agreesWithClaim wsX0_agreesWithClaim) := goodIn_app (goodIn_of _ (by decide +kernel)) ggX0_keepClaim_X0_agreesWithClaim
theorem dX0_keepClaim_0 : decode cX0_keepClaim 0 = .ok (.iconst 0, 1) := by decide +kernel
theorem dX0_keepClaim_1 : decode cX0_keepClaim 1 = .ok (.istore 4, 2) := by decide +kernel
theorem dX0_keepClaim_3 : decode cX0_keepClaim 3 = .ok (.iconst 0, 1) := by decide +kernel
theorem dX0_keepClaim_4 : decode cX0_keepClaim 4 = .ok (.istore 5, 2) := by decide +kernel
theorem dX0_keepClaim_6 : decode cX0_keepClaim 6 = .ok (.iload 5, 2) := by decide +kernel
theorem dX0_keepClaim_8 : decode cX0_keepClaim 8 = .ok (.aload_n 0, 1) := by decide +kernel
theorem dX0_keepClaim_9 : decode cX0_keepClaim 9 = .ok (.getfield 11, 3) := by decide +kernel
theorem dX0_keepClaim_12 : decode cX0_keepClaim 12 = .ok (.arraylength, 1) := by decide +kernel
theorem dX0_keepClaim_13 : decode cX0_keepClaim 13 = .ok (.if_icmp .ge 69, 3) := by decide +kernel
theorem dX0_keepClaim_16 : decode cX0_keepClaim 16 = .ok (.aload_n 0, 1) := by decide +kernel
theorem dX0_keepClaim_17 : decode cX0_keepClaim 17 = .ok (.getfield 11, 3) := by decide +kernel
theorem dX0_keepClaim_20 : decode cX0_keepClaim 20 = .ok (.iload 5, 2) := by decide +kernel
theorem dX0_keepClaim_22 : decode cX0_keepClaim 22 = .ok (.iaload, 1) := by decide +kernel
theorem dX0_keepClaim_23 : decode cX0_keepClaim 23 = .ok (.ifCond .eq 59, 3) := by decide +kernel
theorem dX0_keepClaim_26 : decode cX0_keepClaim 26 = .ok (.aload_n 0, 1) := by decide +kernel
theorem dX0_keepClaim_27 : decode cX0_keepClaim 27 = .ok (.getfield 11, 3) := by decide +kernel
theorem dX0_keepClaim_30 : decode cX0_keepClaim 30 = .ok (.iload 5, 2) := by decide +kernel
theorem dX0_keepClaim_32 : decode cX0_keepClaim 32 = .ok (.iaload, 1) := by decide +kernel
theorem dX0_keepClaim_33 : decode cX0_keepClaim 33 = .ok (.istore 6, 2) := by decide +kernel
theorem dX0_keepClaim_35 : decode cX0_keepClaim 35 = .ok (.aload_n 0, 1) := by decide +kernel
theorem dX0_keepClaim_36 : decode cX0_keepClaim 36 = .ok (.getfield 11, 3) := by decide +kernel
theorem dX0_keepClaim_39 : decode cX0_keepClaim 39 = .ok (.iload 5, 2) := by decide +kernel
theorem dX0_keepClaim_41 : decode cX0_keepClaim 41 = .ok (.iconst 0, 1) := by decide +kernel
theorem dX0_keepClaim_42 : decode cX0_keepClaim 42 = .ok (.iastore, 1) := by decide +kernel
theorem dX0_keepClaim_43 : decode cX0_keepClaim 43 = .ok (.iload 6, 2) := by decide +kernel
theorem dX0_keepClaim_45 : decode cX0_keepClaim 45 = .ok (.iload_n 1, 1) := by decide +kernel
theorem dX0_keepClaim_46 : decode cX0_keepClaim 46 = .ok (.iload_n 2, 1) := by decide +kernel
theorem dX0_keepClaim_47 : decode cX0_keepClaim 47 = .ok (.iload_n 3, 1) := by decide +kernel
theorem dX0_keepClaim_48 : decode cX0_keepClaim 48 = .ok (.invokestatic 51, 3) := by decide +kernel
theorem dX0_keepClaim_51 : decode cX0_keepClaim 51 = .ok (.ifCond .eq 25, 3) := by decide +kernel
theorem dX0_keepClaim_54 : decode cX0_keepClaim 54 = .ok (.iload 4, 2) := by decide +kernel
theorem dX0_keepClaim_56 : decode cX0_keepClaim 56 = .ok (.aload_n 0, 1) := by decide +kernel
theorem dX0_keepClaim_57 : decode cX0_keepClaim 57 = .ok (.getfield 11, 3) := by decide +kernel
theorem dX0_keepClaim_60 : decode cX0_keepClaim 60 = .ok (.arraylength, 1) := by decide +kernel
theorem dX0_keepClaim_61 : decode cX0_keepClaim 61 = .ok (.if_icmp .ge 15, 3) := by decide +kernel
theorem dX0_keepClaim_64 : decode cX0_keepClaim 64 = .ok (.aload_n 0, 1) := by decide +kernel
theorem dX0_keepClaim_65 : decode cX0_keepClaim 65 = .ok (.getfield 11, 3) := by decide +kernel
theorem dX0_keepClaim_68 : decode cX0_keepClaim 68 = .ok (.iload 4, 2) := by decide +kernel
theorem dX0_keepClaim_70 : decode cX0_keepClaim 70 = .ok (.iload 6, 2) := by decide +kernel
theorem dX0_keepClaim_72 : decode cX0_keepClaim 72 = .ok (.iastore, 1) := by decide +kernel
theorem dX0_keepClaim_73 : decode cX0_keepClaim 73 = .ok (.iinc 4 1, 3) := by decide +kernel
theorem dX0_keepClaim_76 : decode cX0_keepClaim 76 = .ok (.iinc 5 1, 3) := by decide +kernel
theorem dX0_keepClaim_79 : decode cX0_keepClaim 79 = .ok (.goto (-73), 3) := by decide +kernel
theorem dX0_keepClaim_82 : decode cX0_keepClaim 82 = .ok (.return_, 1) := by decide +kernel
theorem dX0_agrees_0 : decode cX0_agrees 0 = .ok (.iload_n 1, 1) := by decide +kernel
theorem dX0_agrees_1 : decode cX0_agrees 1 = .ok (.aload_n 0, 1) := by decide +kernel
theorem dX0_agrees_2 : decode cX0_agrees 2 = .ok (.getfield 15, 3) := by decide +kernel
theorem dX0_agrees_5 : decode cX0_agrees 5 = .ok (.ixor, 1) := by decide +kernel
theorem dX0_agrees_6 : decode cX0_agrees 6 = .ok (.iload_n 2, 1) := by decide +kernel
theorem dX0_agrees_7 : decode cX0_agrees 7 = .ok (.iand, 1) := by decide +kernel
theorem dX0_agrees_8 : decode cX0_agrees 8 = .ok (.ifCond .ne 7, 3) := by decide +kernel
theorem dX0_agrees_11 : decode cX0_agrees 11 = .ok (.iconst 1, 1) := by decide +kernel
theorem dX0_agrees_12 : decode cX0_agrees 12 = .ok (.goto 4, 3) := by decide +kernel
theorem dX0_agrees_15 : decode cX0_agrees 15 = .ok (.iconst 0, 1) := by decide +kernel
theorem dX0_agrees_16 : decode cX0_agrees 16 = .ok (.ireturn, 1) := by decide +kernel
set_option maxRecDepth 20000 in
theorem ggX0_count_X0_agrees : GoodIn wsX0_count wsX0_agrees := goodIn_r _ [6, 7, 8, 9] (by decide +kernel) (by decide +kernel)
set_option maxRecDepth 20000 in
theorem gX0_count_X0_agrees : GoodIn wsX0_count (wsV RX0 55 RX0 yX0_agrees wsX0_agrees) := goodIn_app (goodIn_of _ (by decide +kernel)) ggX0_count_X0_agrees
theorem dX0_count_0 : decode cX0_count 0 = .ok (.iconst 0, 1) := by decide +kernel
theorem dX0_count_1 : decode cX0_count 1 = .ok (.istore_n 2, 1) := by decide +kernel
theorem dX0_count_2 : decode cX0_count 2 = .ok (.iconst 0, 1) := by decide +kernel
theorem dX0_count_3 : decode cX0_count 3 = .ok (.istore_n 3, 1) := by decide +kernel
theorem dX0_count_4 : decode cX0_count 4 = .ok (.iload_n 3, 1) := by decide +kernel
theorem dX0_count_5 : decode cX0_count 5 = .ok (.aload_n 0, 1) := by decide +kernel
theorem dX0_count_6 : decode cX0_count 6 = .ok (.getfield 11, 3) := by decide +kernel
theorem dX0_count_9 : decode cX0_count 9 = .ok (.arraylength, 1) := by decide +kernel
theorem dX0_count_10 : decode cX0_count 10 = .ok (.if_icmp .ge 35, 3) := by decide +kernel
theorem dX0_count_13 : decode cX0_count 13 = .ok (.aload_n 0, 1) := by decide +kernel
theorem dX0_count_14 : decode cX0_count 14 = .ok (.getfield 11, 3) := by decide +kernel
theorem dX0_count_17 : decode cX0_count 17 = .ok (.iload_n 3, 1) := by decide +kernel
theorem dX0_count_18 : decode cX0_count 18 = .ok (.iaload, 1) := by decide +kernel
theorem dX0_count_19 : decode cX0_count 19 = .ok (.ifCond .eq 26, 3) := by decide +kernel
theorem dX0_count_22 : decode cX0_count 22 = .ok (.aload_n 0, 1) := by decide +kernel
theorem dX0_count_23 : decode cX0_count 23 = .ok (.aload_n 0, 1) := by decide +kernel
theorem dX0_count_24 : decode cX0_count 24 = .ok (.getfield 11, 3) := by decide +kernel
theorem dX0_count_27 : decode cX0_count 27 = .ok (.iload_n 3, 1) := by decide +kernel
theorem dX0_count_28 : decode cX0_count 28 = .ok (.iaload, 1) := by decide +kernel
theorem dX0_count_29 : decode cX0_count 29 = .ok (.iload_n 1, 1) := by decide +kernel
theorem dX0_count_30 : decode cX0_count 30 = .ok (.invokevirtual 55, 3) := by decide +kernel
theorem dX0_count_33 : decode cX0_count 33 = .ok (.ifCond .eq 6, 3) := by decide +kernel
theorem dX0_count_36 : decode cX0_count 36 = .ok (.iinc 2 1, 3) := by decide +kernel
theorem dX0_count_39 : decode cX0_count 39 = .ok (.iinc 3 1, 3) := by decide +kernel
theorem dX0_count_42 : decode cX0_count 42 = .ok (.goto (-38), 3) := by decide +kernel
theorem dX0_count_45 : decode cX0_count 45 = .ok (.iload_n 2, 1) := by decide +kernel
theorem dX0_count_46 : decode cX0_count 46 = .ok (.ireturn, 1) := by decide +kernel
set_option maxRecDepth 20000 in
theorem ggX0_countWithRole_X1_setOf : GoodIn wsX0_countWithRole wsX1_setOf := goodIn_r _ [4] (by decide +kernel) (by decide +kernel)
set_option maxRecDepth 20000 in
theorem gX0_countWithRole_X1_setOf_n48 : GoodIn wsX0_countWithRole (wsX1_setOf) := ggX0_countWithRole_X1_setOf
set_option maxRecDepth 20000 in
theorem ggX0_countWithRole_X1_roleBits : GoodIn wsX0_countWithRole wsX1_roleBits := goodIn_r _ [6] (by decide +kernel) (by decide +kernel)
set_option maxRecDepth 20000 in
theorem gX0_countWithRole_X1_roleBits_n59 : GoodIn wsX0_countWithRole (wsX1_roleBits) := ggX0_countWithRole_X1_roleBits
set_option maxRecDepth 20000 in
theorem ggX0_countWithRole_X1_bitOfRole : GoodIn wsX0_countWithRole wsX1_bitOfRole := goodIn_r _ [8, 9, 2, 3, 4] (by decide +kernel) (by decide +kernel)
set_option maxRecDepth 20000 in
theorem gX0_countWithRole_X1_bitOfRole_n62 : GoodIn wsX0_countWithRole (wsX1_bitOfRole) := ggX0_countWithRole_X1_bitOfRole
set_option maxRecDepth 20000 in
theorem ggX0_countWithRole_X0_agrees : GoodIn wsX0_countWithRole wsX0_agrees := goodIn_r _ [14, 15, 16, 17] (by decide +kernel) (by decide +kernel)
set_option maxRecDepth 20000 in
theorem gX0_countWithRole_X0_agrees : GoodIn wsX0_countWithRole (wsV RX0 55 RX0 yX0_agrees wsX0_agrees) := goodIn_app (goodIn_of _ (by decide +kernel)) ggX0_countWithRole_X0_agrees
theorem dX0_countWithRole_0 : decode cX0_countWithRole 0 = .ok (.iload_n 2, 1) := by decide +kernel
theorem dX0_countWithRole_1 : decode cX0_countWithRole 1 = .ok (.invokestatic 48, 3) := by decide +kernel
theorem dX0_countWithRole_4 : decode cX0_countWithRole 4 = .ok (.invokestatic 59, 3) := by decide +kernel
theorem dX0_countWithRole_7 : decode cX0_countWithRole 7 = .ok (.istore 4, 2) := by decide +kernel
theorem dX0_countWithRole_9 : decode cX0_countWithRole 9 = .ok (.iload_n 2, 1) := by decide +kernel
theorem dX0_countWithRole_10 : decode cX0_countWithRole 10 = .ok (.iload_n 3, 1) := by decide +kernel
theorem dX0_countWithRole_11 : decode cX0_countWithRole 11 = .ok (.invokestatic 62, 3) := by decide +kernel
theorem dX0_countWithRole_14 : decode cX0_countWithRole 14 = .ok (.istore 5, 2) := by decide +kernel
theorem dX0_countWithRole_16 : decode cX0_countWithRole 16 = .ok (.iconst 0, 1) := by decide +kernel
theorem dX0_countWithRole_17 : decode cX0_countWithRole 17 = .ok (.istore 6, 2) := by decide +kernel
theorem dX0_countWithRole_19 : decode cX0_countWithRole 19 = .ok (.iconst 0, 1) := by decide +kernel
theorem dX0_countWithRole_20 : decode cX0_countWithRole 20 = .ok (.istore 7, 2) := by decide +kernel
theorem dX0_countWithRole_22 : decode cX0_countWithRole 22 = .ok (.iload 7, 2) := by decide +kernel
theorem dX0_countWithRole_24 : decode cX0_countWithRole 24 = .ok (.aload_n 0, 1) := by decide +kernel
theorem dX0_countWithRole_25 : decode cX0_countWithRole 25 = .ok (.getfield 11, 3) := by decide +kernel
theorem dX0_countWithRole_28 : decode cX0_countWithRole 28 = .ok (.arraylength, 1) := by decide +kernel
theorem dX0_countWithRole_29 : decode cX0_countWithRole 29 = .ok (.if_icmp .ge 52, 3) := by decide +kernel
theorem dX0_countWithRole_32 : decode cX0_countWithRole 32 = .ok (.aload_n 0, 1) := by decide +kernel
theorem dX0_countWithRole_33 : decode cX0_countWithRole 33 = .ok (.getfield 11, 3) := by decide +kernel
theorem dX0_countWithRole_36 : decode cX0_countWithRole 36 = .ok (.iload 7, 2) := by decide +kernel
theorem dX0_countWithRole_38 : decode cX0_countWithRole 38 = .ok (.iaload, 1) := by decide +kernel
theorem dX0_countWithRole_39 : decode cX0_countWithRole 39 = .ok (.ifCond .eq 42, 3) := by decide +kernel
theorem dX0_countWithRole_42 : decode cX0_countWithRole 42 = .ok (.aload_n 0, 1) := by decide +kernel
theorem dX0_countWithRole_43 : decode cX0_countWithRole 43 = .ok (.getfield 11, 3) := by decide +kernel
theorem dX0_countWithRole_46 : decode cX0_countWithRole 46 = .ok (.iload 7, 2) := by decide +kernel
theorem dX0_countWithRole_48 : decode cX0_countWithRole 48 = .ok (.iaload, 1) := by decide +kernel
theorem dX0_countWithRole_49 : decode cX0_countWithRole 49 = .ok (.iload 4, 2) := by decide +kernel
theorem dX0_countWithRole_51 : decode cX0_countWithRole 51 = .ok (.iand, 1) := by decide +kernel
theorem dX0_countWithRole_52 : decode cX0_countWithRole 52 = .ok (.iload 5, 2) := by decide +kernel
theorem dX0_countWithRole_54 : decode cX0_countWithRole 54 = .ok (.if_icmp .ne 21, 3) := by decide +kernel
theorem dX0_countWithRole_57 : decode cX0_countWithRole 57 = .ok (.aload_n 0, 1) := by decide +kernel
theorem dX0_countWithRole_58 : decode cX0_countWithRole 58 = .ok (.aload_n 0, 1) := by decide +kernel
theorem dX0_countWithRole_59 : decode cX0_countWithRole 59 = .ok (.getfield 11, 3) := by decide +kernel
theorem dX0_countWithRole_62 : decode cX0_countWithRole 62 = .ok (.iload 7, 2) := by decide +kernel
theorem dX0_countWithRole_64 : decode cX0_countWithRole 64 = .ok (.iaload, 1) := by decide +kernel
theorem dX0_countWithRole_65 : decode cX0_countWithRole 65 = .ok (.iload_n 1, 1) := by decide +kernel
theorem dX0_countWithRole_66 : decode cX0_countWithRole 66 = .ok (.invokevirtual 55, 3) := by decide +kernel
theorem dX0_countWithRole_69 : decode cX0_countWithRole 69 = .ok (.ifCond .eq 6, 3) := by decide +kernel
theorem dX0_countWithRole_72 : decode cX0_countWithRole 72 = .ok (.iinc 6 1, 3) := by decide +kernel
theorem dX0_countWithRole_75 : decode cX0_countWithRole 75 = .ok (.iinc 7 1, 3) := by decide +kernel
theorem dX0_countWithRole_78 : decode cX0_countWithRole 78 = .ok (.goto (-56), 3) := by decide +kernel
theorem dX0_countWithRole_81 : decode cX0_countWithRole 81 = .ok (.iload 6, 2) := by decide +kernel
theorem dX0_countWithRole_83 : decode cX0_countWithRole 83 = .ok (.ireturn, 1) := by decide +kernel
set_option maxRecDepth 20000 in
theorem ggX0_witchesInAll_X0_agrees : GoodIn wsX0_witchesInAll wsX0_agrees := goodIn_r _ [6, 7, 11, 12] (by decide +kernel) (by decide +kernel)
set_option maxRecDepth 20000 in
theorem gX0_witchesInAll_X0_agrees : GoodIn wsX0_witchesInAll (wsV RX0 55 RX0 yX0_agrees wsX0_agrees) := goodIn_app (goodIn_of _ (by decide +kernel)) ggX0_witchesInAll_X0_agrees
set_option maxRecDepth 20000 in
theorem ggX0_witchesInAll_X1_witchesOf : GoodIn wsX0_witchesInAll wsX1_witchesOf := goodIn_r _ [10] (by decide +kernel) (by decide +kernel)
set_option maxRecDepth 20000 in
theorem gX0_witchesInAll_X1_witchesOf_n25 : GoodIn wsX0_witchesInAll (wsX1_witchesOf) := ggX0_witchesInAll_X1_witchesOf
theorem dX0_witchesInAll_0 : decode cX0_witchesInAll 0 = .ok (.sipush 255, 3) := by decide +kernel
theorem dX0_witchesInAll_3 : decode cX0_witchesInAll 3 = .ok (.istore_n 2, 1) := by decide +kernel
theorem dX0_witchesInAll_4 : decode cX0_witchesInAll 4 = .ok (.iconst 0, 1) := by decide +kernel
theorem dX0_witchesInAll_5 : decode cX0_witchesInAll 5 = .ok (.istore_n 3, 1) := by decide +kernel
theorem dX0_witchesInAll_6 : decode cX0_witchesInAll 6 = .ok (.iload_n 3, 1) := by decide +kernel
theorem dX0_witchesInAll_7 : decode cX0_witchesInAll 7 = .ok (.aload_n 0, 1) := by decide +kernel
theorem dX0_witchesInAll_8 : decode cX0_witchesInAll 8 = .ok (.getfield 11, 3) := by decide +kernel
theorem dX0_witchesInAll_11 : decode cX0_witchesInAll 11 = .ok (.arraylength, 1) := by decide +kernel
theorem dX0_witchesInAll_12 : decode cX0_witchesInAll 12 = .ok (.if_icmp .ge 44, 3) := by decide +kernel
theorem dX0_witchesInAll_15 : decode cX0_witchesInAll 15 = .ok (.aload_n 0, 1) := by decide +kernel
theorem dX0_witchesInAll_16 : decode cX0_witchesInAll 16 = .ok (.getfield 11, 3) := by decide +kernel
theorem dX0_witchesInAll_19 : decode cX0_witchesInAll 19 = .ok (.iload_n 3, 1) := by decide +kernel
theorem dX0_witchesInAll_20 : decode cX0_witchesInAll 20 = .ok (.iaload, 1) := by decide +kernel
theorem dX0_witchesInAll_21 : decode cX0_witchesInAll 21 = .ok (.ifCond .eq 35, 3) := by decide +kernel
theorem dX0_witchesInAll_24 : decode cX0_witchesInAll 24 = .ok (.aload_n 0, 1) := by decide +kernel
theorem dX0_witchesInAll_25 : decode cX0_witchesInAll 25 = .ok (.aload_n 0, 1) := by decide +kernel
theorem dX0_witchesInAll_26 : decode cX0_witchesInAll 26 = .ok (.getfield 11, 3) := by decide +kernel
theorem dX0_witchesInAll_29 : decode cX0_witchesInAll 29 = .ok (.iload_n 3, 1) := by decide +kernel
theorem dX0_witchesInAll_30 : decode cX0_witchesInAll 30 = .ok (.iaload, 1) := by decide +kernel
theorem dX0_witchesInAll_31 : decode cX0_witchesInAll 31 = .ok (.iload_n 1, 1) := by decide +kernel
theorem dX0_witchesInAll_32 : decode cX0_witchesInAll 32 = .ok (.invokevirtual 55, 3) := by decide +kernel
theorem dX0_witchesInAll_35 : decode cX0_witchesInAll 35 = .ok (.ifCond .eq 15, 3) := by decide +kernel
theorem dX0_witchesInAll_38 : decode cX0_witchesInAll 38 = .ok (.iload_n 2, 1) := by decide +kernel
theorem dX0_witchesInAll_39 : decode cX0_witchesInAll 39 = .ok (.aload_n 0, 1) := by decide +kernel
theorem dX0_witchesInAll_40 : decode cX0_witchesInAll 40 = .ok (.getfield 11, 3) := by decide +kernel
theorem dX0_witchesInAll_43 : decode cX0_witchesInAll 43 = .ok (.iload_n 3, 1) := by decide +kernel
theorem dX0_witchesInAll_44 : decode cX0_witchesInAll 44 = .ok (.iaload, 1) := by decide +kernel
theorem dX0_witchesInAll_45 : decode cX0_witchesInAll 45 = .ok (.invokestatic 25, 3) := by decide +kernel
theorem dX0_witchesInAll_48 : decode cX0_witchesInAll 48 = .ok (.iand, 1) := by decide +kernel
theorem dX0_witchesInAll_49 : decode cX0_witchesInAll 49 = .ok (.istore_n 2, 1) := by decide +kernel
theorem dX0_witchesInAll_50 : decode cX0_witchesInAll 50 = .ok (.iinc 3 1, 3) := by decide +kernel
theorem dX0_witchesInAll_53 : decode cX0_witchesInAll 53 = .ok (.goto (-47), 3) := by decide +kernel
theorem dX0_witchesInAll_56 : decode cX0_witchesInAll 56 = .ok (.iload_n 2, 1) := by decide +kernel
theorem dX0_witchesInAll_57 : decode cX0_witchesInAll 57 = .ok (.ireturn, 1) := by decide +kernel
set_option maxRecDepth 20000 in
theorem ggX0_witchesInAny_X0_agrees : GoodIn wsX0_witchesInAny wsX0_agrees := goodIn_r _ [6, 7, 11, 12] (by decide +kernel) (by decide +kernel)
set_option maxRecDepth 20000 in
theorem gX0_witchesInAny_X0_agrees : GoodIn wsX0_witchesInAny (wsV RX0 55 RX0 yX0_agrees wsX0_agrees) := goodIn_app (goodIn_of _ (by decide +kernel)) ggX0_witchesInAny_X0_agrees
set_option maxRecDepth 20000 in
theorem ggX0_witchesInAny_X1_witchesOf : GoodIn wsX0_witchesInAny wsX1_witchesOf := goodIn_r _ [10] (by decide +kernel) (by decide +kernel)
set_option maxRecDepth 20000 in
theorem gX0_witchesInAny_X1_witchesOf_n25 : GoodIn wsX0_witchesInAny (wsX1_witchesOf) := ggX0_witchesInAny_X1_witchesOf
theorem dX0_witchesInAny_0 : decode cX0_witchesInAny 0 = .ok (.iconst 0, 1) := by decide +kernel
theorem dX0_witchesInAny_1 : decode cX0_witchesInAny 1 = .ok (.istore_n 2, 1) := by decide +kernel
theorem dX0_witchesInAny_2 : decode cX0_witchesInAny 2 = .ok (.iconst 0, 1) := by decide +kernel
theorem dX0_witchesInAny_3 : decode cX0_witchesInAny 3 = .ok (.istore_n 3, 1) := by decide +kernel
theorem dX0_witchesInAny_4 : decode cX0_witchesInAny 4 = .ok (.iload_n 3, 1) := by decide +kernel
theorem dX0_witchesInAny_5 : decode cX0_witchesInAny 5 = .ok (.aload_n 0, 1) := by decide +kernel
theorem dX0_witchesInAny_6 : decode cX0_witchesInAny 6 = .ok (.getfield 11, 3) := by decide +kernel
theorem dX0_witchesInAny_9 : decode cX0_witchesInAny 9 = .ok (.arraylength, 1) := by decide +kernel
theorem dX0_witchesInAny_10 : decode cX0_witchesInAny 10 = .ok (.if_icmp .ge 44, 3) := by decide +kernel
theorem dX0_witchesInAny_13 : decode cX0_witchesInAny 13 = .ok (.aload_n 0, 1) := by decide +kernel
theorem dX0_witchesInAny_14 : decode cX0_witchesInAny 14 = .ok (.getfield 11, 3) := by decide +kernel
theorem dX0_witchesInAny_17 : decode cX0_witchesInAny 17 = .ok (.iload_n 3, 1) := by decide +kernel
theorem dX0_witchesInAny_18 : decode cX0_witchesInAny 18 = .ok (.iaload, 1) := by decide +kernel
theorem dX0_witchesInAny_19 : decode cX0_witchesInAny 19 = .ok (.ifCond .eq 35, 3) := by decide +kernel
theorem dX0_witchesInAny_22 : decode cX0_witchesInAny 22 = .ok (.aload_n 0, 1) := by decide +kernel
theorem dX0_witchesInAny_23 : decode cX0_witchesInAny 23 = .ok (.aload_n 0, 1) := by decide +kernel
theorem dX0_witchesInAny_24 : decode cX0_witchesInAny 24 = .ok (.getfield 11, 3) := by decide +kernel
theorem dX0_witchesInAny_27 : decode cX0_witchesInAny 27 = .ok (.iload_n 3, 1) := by decide +kernel
theorem dX0_witchesInAny_28 : decode cX0_witchesInAny 28 = .ok (.iaload, 1) := by decide +kernel
theorem dX0_witchesInAny_29 : decode cX0_witchesInAny 29 = .ok (.iload_n 1, 1) := by decide +kernel
theorem dX0_witchesInAny_30 : decode cX0_witchesInAny 30 = .ok (.invokevirtual 55, 3) := by decide +kernel
theorem dX0_witchesInAny_33 : decode cX0_witchesInAny 33 = .ok (.ifCond .eq 15, 3) := by decide +kernel
theorem dX0_witchesInAny_36 : decode cX0_witchesInAny 36 = .ok (.iload_n 2, 1) := by decide +kernel
theorem dX0_witchesInAny_37 : decode cX0_witchesInAny 37 = .ok (.aload_n 0, 1) := by decide +kernel
theorem dX0_witchesInAny_38 : decode cX0_witchesInAny 38 = .ok (.getfield 11, 3) := by decide +kernel
theorem dX0_witchesInAny_41 : decode cX0_witchesInAny 41 = .ok (.iload_n 3, 1) := by decide +kernel
theorem dX0_witchesInAny_42 : decode cX0_witchesInAny 42 = .ok (.iaload, 1) := by decide +kernel
theorem dX0_witchesInAny_43 : decode cX0_witchesInAny 43 = .ok (.invokestatic 25, 3) := by decide +kernel
theorem dX0_witchesInAny_46 : decode cX0_witchesInAny 46 = .ok (.ior, 1) := by decide +kernel
theorem dX0_witchesInAny_47 : decode cX0_witchesInAny 47 = .ok (.istore_n 2, 1) := by decide +kernel
theorem dX0_witchesInAny_48 : decode cX0_witchesInAny 48 = .ok (.iinc 3 1, 3) := by decide +kernel
theorem dX0_witchesInAny_51 : decode cX0_witchesInAny 51 = .ok (.goto (-47), 3) := by decide +kernel
theorem dX0_witchesInAny_54 : decode cX0_witchesInAny 54 = .ok (.iload_n 2, 1) := by decide +kernel
theorem dX0_witchesInAny_55 : decode cX0_witchesInAny 55 = .ok (.ireturn, 1) := by decide +kernel
set_option maxRecDepth 20000 in
theorem ggX0_countWitchSets_X0_agrees : GoodIn wsX0_countWitchSets wsX0_agrees := goodIn_r _ [6, 7, 11, 12] (by decide +kernel) (by decide +kernel)
set_option maxRecDepth 20000 in
theorem gX0_countWitchSets_X0_agrees : GoodIn wsX0_countWitchSets (wsV RX0 55 RX0 yX0_agrees wsX0_agrees) := goodIn_app (goodIn_of _ (by decide +kernel)) ggX0_countWitchSets_X0_agrees
set_option maxRecDepth 20000 in
theorem ggX0_countWitchSets_X1_witchesOf : GoodIn wsX0_countWitchSets wsX1_witchesOf := goodIn_r _ [10] (by decide +kernel) (by decide +kernel)
set_option maxRecDepth 20000 in
theorem gX0_countWitchSets_X1_witchesOf_n25 : GoodIn wsX0_countWitchSets (wsX1_witchesOf) := ggX0_countWitchSets_X1_witchesOf
theorem dX0_countWitchSets_0 : decode cX0_countWitchSets 0 = .ok (.iconst 0, 1) := by decide +kernel
theorem dX0_countWitchSets_1 : decode cX0_countWitchSets 1 = .ok (.istore_n 2, 1) := by decide +kernel
theorem dX0_countWitchSets_2 : decode cX0_countWitchSets 2 = .ok (.iconst 0, 1) := by decide +kernel
theorem dX0_countWitchSets_3 : decode cX0_countWitchSets 3 = .ok (.istore_n 3, 1) := by decide +kernel
theorem dX0_countWitchSets_4 : decode cX0_countWitchSets 4 = .ok (.iconst 0, 1) := by decide +kernel
theorem dX0_countWitchSets_5 : decode cX0_countWitchSets 5 = .ok (.istore 4, 2) := by decide +kernel
theorem dX0_countWitchSets_7 : decode cX0_countWitchSets 7 = .ok (.iload 4, 2) := by decide +kernel
theorem dX0_countWitchSets_9 : decode cX0_countWitchSets 9 = .ok (.aload_n 0, 1) := by decide +kernel
theorem dX0_countWitchSets_10 : decode cX0_countWitchSets 10 = .ok (.getfield 11, 3) := by decide +kernel
theorem dX0_countWitchSets_13 : decode cX0_countWitchSets 13 = .ok (.arraylength, 1) := by decide +kernel
theorem dX0_countWitchSets_14 : decode cX0_countWitchSets 14 = .ok (.if_icmp .ge 62, 3) := by decide +kernel
theorem dX0_countWitchSets_17 : decode cX0_countWitchSets 17 = .ok (.aload_n 0, 1) := by decide +kernel
theorem dX0_countWitchSets_18 : decode cX0_countWitchSets 18 = .ok (.getfield 11, 3) := by decide +kernel
theorem dX0_countWitchSets_21 : decode cX0_countWitchSets 21 = .ok (.iload 4, 2) := by decide +kernel
theorem dX0_countWitchSets_23 : decode cX0_countWitchSets 23 = .ok (.iaload, 1) := by decide +kernel
theorem dX0_countWitchSets_24 : decode cX0_countWitchSets 24 = .ok (.ifCond .eq 52, 3) := by decide +kernel
theorem dX0_countWitchSets_27 : decode cX0_countWitchSets 27 = .ok (.aload_n 0, 1) := by decide +kernel
theorem dX0_countWitchSets_28 : decode cX0_countWitchSets 28 = .ok (.aload_n 0, 1) := by decide +kernel
theorem dX0_countWitchSets_29 : decode cX0_countWitchSets 29 = .ok (.getfield 11, 3) := by decide +kernel
theorem dX0_countWitchSets_32 : decode cX0_countWitchSets 32 = .ok (.iload 4, 2) := by decide +kernel
theorem dX0_countWitchSets_34 : decode cX0_countWitchSets 34 = .ok (.iaload, 1) := by decide +kernel
theorem dX0_countWitchSets_35 : decode cX0_countWitchSets 35 = .ok (.iload_n 1, 1) := by decide +kernel
theorem dX0_countWitchSets_36 : decode cX0_countWitchSets 36 = .ok (.invokevirtual 55, 3) := by decide +kernel
theorem dX0_countWitchSets_39 : decode cX0_countWitchSets 39 = .ok (.ifCond .eq 31, 3) := by decide +kernel
theorem dX0_countWitchSets_42 : decode cX0_countWitchSets 42 = .ok (.aload_n 0, 1) := by decide +kernel
theorem dX0_countWitchSets_43 : decode cX0_countWitchSets 43 = .ok (.getfield 11, 3) := by decide +kernel
theorem dX0_countWitchSets_46 : decode cX0_countWitchSets 46 = .ok (.iload 4, 2) := by decide +kernel
theorem dX0_countWitchSets_48 : decode cX0_countWitchSets 48 = .ok (.iaload, 1) := by decide +kernel
theorem dX0_countWitchSets_49 : decode cX0_countWitchSets 49 = .ok (.invokestatic 25, 3) := by decide +kernel
theorem dX0_countWitchSets_52 : decode cX0_countWitchSets 52 = .ok (.iload_n 3, 1) := by decide +kernel
theorem dX0_countWitchSets_53 : decode cX0_countWitchSets 53 = .ok (.if_icmp .eq 17, 3) := by decide +kernel
theorem dX0_countWitchSets_56 : decode cX0_countWitchSets 56 = .ok (.aload_n 0, 1) := by decide +kernel
theorem dX0_countWitchSets_57 : decode cX0_countWitchSets 57 = .ok (.getfield 11, 3) := by decide +kernel
theorem dX0_countWitchSets_60 : decode cX0_countWitchSets 60 = .ok (.iload 4, 2) := by decide +kernel
theorem dX0_countWitchSets_62 : decode cX0_countWitchSets 62 = .ok (.iaload, 1) := by decide +kernel
theorem dX0_countWitchSets_63 : decode cX0_countWitchSets 63 = .ok (.invokestatic 25, 3) := by decide +kernel
theorem dX0_countWitchSets_66 : decode cX0_countWitchSets 66 = .ok (.istore_n 3, 1) := by decide +kernel
theorem dX0_countWitchSets_67 : decode cX0_countWitchSets 67 = .ok (.iinc 2 1, 3) := by decide +kernel
theorem dX0_countWitchSets_70 : decode cX0_countWitchSets 70 = .ok (.iinc 4 1, 3) := by decide +kernel
theorem dX0_countWitchSets_73 : decode cX0_countWitchSets 73 = .ok (.goto (-66), 3) := by decide +kernel
theorem dX0_countWitchSets_76 : decode cX0_countWitchSets 76 = .ok (.iload_n 2, 1) := by decide +kernel
theorem dX0_countWitchSets_77 : decode cX0_countWitchSets 77 = .ok (.ireturn, 1) := by decide +kernel
set_option maxRecDepth 20000 in
theorem ggX0_contains_X0_agrees : GoodIn wsX0_contains wsX0_agrees := goodIn_r _ [6, 7, 8, 9] (by decide +kernel) (by decide +kernel)
set_option maxRecDepth 20000 in
theorem gX0_contains_X0_agrees : GoodIn wsX0_contains (wsV RX0 55 RX0 yX0_agrees wsX0_agrees) := goodIn_app (goodIn_of _ (by decide +kernel)) ggX0_contains_X0_agrees
theorem dX0_contains_0 : decode cX0_contains 0 = .ok (.iconst 0, 1) := by decide +kernel
theorem dX0_contains_1 : decode cX0_contains 1 = .ok (.istore_n 3, 1) := by decide +kernel
theorem dX0_contains_2 : decode cX0_contains 2 = .ok (.iload_n 3, 1) := by decide +kernel
theorem dX0_contains_3 : decode cX0_contains 3 = .ok (.aload_n 0, 1) := by decide +kernel
theorem dX0_contains_4 : decode cX0_contains 4 = .ok (.getfield 11, 3) := by decide +kernel
theorem dX0_contains_7 : decode cX0_contains 7 = .ok (.arraylength, 1) := by decide +kernel
theorem dX0_contains_8 : decode cX0_contains 8 = .ok (.if_icmp .ge 35, 3) := by decide +kernel
theorem dX0_contains_11 : decode cX0_contains 11 = .ok (.aload_n 0, 1) := by decide +kernel
theorem dX0_contains_12 : decode cX0_contains 12 = .ok (.getfield 11, 3) := by decide +kernel
theorem dX0_contains_15 : decode cX0_contains 15 = .ok (.iload_n 3, 1) := by decide +kernel
theorem dX0_contains_16 : decode cX0_contains 16 = .ok (.iaload, 1) := by decide +kernel
theorem dX0_contains_17 : decode cX0_contains 17 = .ok (.ifCond .eq 26, 3) := by decide +kernel
theorem dX0_contains_20 : decode cX0_contains 20 = .ok (.aload_n 0, 1) := by decide +kernel
theorem dX0_contains_21 : decode cX0_contains 21 = .ok (.getfield 11, 3) := by decide +kernel
theorem dX0_contains_24 : decode cX0_contains 24 = .ok (.iload_n 3, 1) := by decide +kernel
theorem dX0_contains_25 : decode cX0_contains 25 = .ok (.iaload, 1) := by decide +kernel
theorem dX0_contains_26 : decode cX0_contains 26 = .ok (.iload_n 1, 1) := by decide +kernel
theorem dX0_contains_27 : decode cX0_contains 27 = .ok (.if_icmp .ne 10, 3) := by decide +kernel
theorem dX0_contains_30 : decode cX0_contains 30 = .ok (.aload_n 0, 1) := by decide +kernel
theorem dX0_contains_31 : decode cX0_contains 31 = .ok (.iload_n 1, 1) := by decide +kernel
theorem dX0_contains_32 : decode cX0_contains 32 = .ok (.iload_n 2, 1) := by decide +kernel
theorem dX0_contains_33 : decode cX0_contains 33 = .ok (.invokevirtual 55, 3) := by decide +kernel
theorem dX0_contains_36 : decode cX0_contains 36 = .ok (.ireturn, 1) := by decide +kernel
theorem dX0_contains_37 : decode cX0_contains 37 = .ok (.iinc 3 1, 3) := by decide +kernel
theorem dX0_contains_40 : decode cX0_contains 40 = .ok (.goto (-38), 3) := by decide +kernel
theorem dX0_contains_43 : decode cX0_contains 43 = .ok (.iconst 0, 1) := by decide +kernel
theorem dX0_contains_44 : decode cX0_contains 44 = .ok (.ireturn, 1) := by decide +kernel
