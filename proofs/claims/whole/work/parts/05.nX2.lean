theorem dX2_init_0 : decode cX2_init 0 = .ok (.aload_n 0, 1) := by decide +kernel
theorem dX2_init_1 : decode cX2_init 1 = .ok (.invokespecial 1, 3) := by decide +kernel
theorem dX2_init_4 : decode cX2_init 4 = .ok (.aload_n 0, 1) := by decide +kernel
theorem dX2_init_5 : decode cX2_init 5 = .ok (.sipush 16384, 3) := by decide +kernel
theorem dX2_init_8 : decode cX2_init 8 = .ok (.newarray .boolean, 2) := by decide +kernel
theorem dX2_init_10 : decode cX2_init 10 = .ok (.putfield 7, 3) := by decide +kernel
theorem dX2_init_13 : decode cX2_init 13 = .ok (.aload_n 0, 1) := by decide +kernel
theorem dX2_init_14 : decode cX2_init 14 = .ok (.bipush 8, 2) := by decide +kernel
theorem dX2_init_16 : decode cX2_init 16 = .ok (.newarray .int, 2) := by decide +kernel
theorem dX2_init_18 : decode cX2_init 18 = .ok (.putfield 13, 3) := by decide +kernel
theorem dX2_init_21 : decode cX2_init 21 = .ok (.aload_n 0, 1) := by decide +kernel
theorem dX2_init_22 : decode cX2_init 22 = .ok (.bipush 8, 2) := by decide +kernel
theorem dX2_init_24 : decode cX2_init 24 = .ok (.newarray .int, 2) := by decide +kernel
theorem dX2_init_26 : decode cX2_init 26 = .ok (.putfield 17, 3) := by decide +kernel
theorem dX2_init_29 : decode cX2_init 29 = .ok (.return_, 1) := by decide +kernel
theorem dX2_thrown_0 : decode cX2_thrown 0 = .ok (.aload_n 0, 1) := by decide +kernel
theorem dX2_thrown_1 : decode cX2_thrown 1 = .ok (.getfield 20, 3) := by decide +kernel
theorem dX2_thrown_4 : decode cX2_thrown 4 = .ok (.ireturn, 1) := by decide +kernel
theorem dX2_in_0 : decode cX2_in 0 = .ok (.iload_n 0, 1) := by decide +kernel
theorem dX2_in_1 : decode cX2_in 1 = .ok (.iload_n 1, 1) := by decide +kernel
theorem dX2_in_2 : decode cX2_in 2 = .ok (.if_icmp .lt 12, 3) := by decide +kernel
theorem dX2_in_5 : decode cX2_in 5 = .ok (.iload_n 0, 1) := by decide +kernel
theorem dX2_in_6 : decode cX2_in 6 = .ok (.iload_n 2, 1) := by decide +kernel
theorem dX2_in_7 : decode cX2_in 7 = .ok (.if_icmp .gt 7, 3) := by decide +kernel
theorem dX2_in_10 : decode cX2_in 10 = .ok (.iconst 1, 1) := by decide +kernel
theorem dX2_in_11 : decode cX2_in 11 = .ok (.goto 4, 3) := by decide +kernel
theorem dX2_in_14 : decode cX2_in 14 = .ok (.iconst 0, 1) := by decide +kernel
theorem dX2_in_15 : decode cX2_in 15 = .ok (.ireturn, 1) := by decide +kernel
theorem dX2_bits_0 : decode cX2_bits 0 = .ok (.iconst 0, 1) := by decide +kernel
theorem dX2_bits_1 : decode cX2_bits 1 = .ok (.istore_n 1, 1) := by decide +kernel
theorem dX2_bits_2 : decode cX2_bits 2 = .ok (.iconst 0, 1) := by decide +kernel
theorem dX2_bits_3 : decode cX2_bits 3 = .ok (.istore_n 2, 1) := by decide +kernel
theorem dX2_bits_4 : decode cX2_bits 4 = .ok (.iload_n 2, 1) := by decide +kernel
theorem dX2_bits_5 : decode cX2_bits 5 = .ok (.bipush 8, 2) := by decide +kernel
theorem dX2_bits_7 : decode cX2_bits 7 = .ok (.if_icmp .ge 17, 3) := by decide +kernel
theorem dX2_bits_10 : decode cX2_bits 10 = .ok (.iload_n 1, 1) := by decide +kernel
theorem dX2_bits_11 : decode cX2_bits 11 = .ok (.iload_n 0, 1) := by decide +kernel
theorem dX2_bits_12 : decode cX2_bits 12 = .ok (.iload_n 2, 1) := by decide +kernel
theorem dX2_bits_13 : decode cX2_bits 13 = .ok (.ishr, 1) := by decide +kernel
theorem dX2_bits_14 : decode cX2_bits 14 = .ok (.iconst 1, 1) := by decide +kernel
theorem dX2_bits_15 : decode cX2_bits 15 = .ok (.iand, 1) := by decide +kernel
theorem dX2_bits_16 : decode cX2_bits 16 = .ok (.iadd, 1) := by decide +kernel
theorem dX2_bits_17 : decode cX2_bits 17 = .ok (.istore_n 1, 1) := by decide +kernel
theorem dX2_bits_18 : decode cX2_bits 18 = .ok (.iinc 2 1, 3) := by decide +kernel
theorem dX2_bits_21 : decode cX2_bits 21 = .ok (.goto (-17), 3) := by decide +kernel
theorem dX2_bits_24 : decode cX2_bits 24 = .ok (.iload_n 1, 1) := by decide +kernel
theorem dX2_bits_25 : decode cX2_bits 25 = .ok (.ireturn, 1) := by decide +kernel
theorem dX2_has_0 : decode cX2_has 0 = .ok (.iload_n 0, 1) := by decide +kernel
theorem dX2_has_1 : decode cX2_has 1 = .ok (.iload_n 1, 1) := by decide +kernel
theorem dX2_has_2 : decode cX2_has 2 = .ok (.ishr, 1) := by decide +kernel
theorem dX2_has_3 : decode cX2_has 3 = .ok (.iconst 1, 1) := by decide +kernel
theorem dX2_has_4 : decode cX2_has 4 = .ok (.iand, 1) := by decide +kernel
theorem dX2_has_5 : decode cX2_has 5 = .ok (.iconst 1, 1) := by decide +kernel
theorem dX2_has_6 : decode cX2_has 6 = .ok (.if_icmp .ne 7, 3) := by decide +kernel
theorem dX2_has_9 : decode cX2_has 9 = .ok (.iconst 1, 1) := by decide +kernel
theorem dX2_has_10 : decode cX2_has 10 = .ok (.goto 4, 3) := by decide +kernel
theorem dX2_has_13 : decode cX2_has 13 = .ok (.iconst 0, 1) := by decide +kernel
theorem dX2_has_14 : decode cX2_has 14 = .ok (.ireturn, 1) := by decide +kernel
set_option maxRecDepth 20000 in
theorem ggX2_isPlayer_X2_in : GoodIn wsX2_isPlayer wsX2_in := goodIn_r _ [5] (by decide +kernel) (by decide +kernel)
set_option maxRecDepth 20000 in
theorem gX2_isPlayer_X2_in : GoodIn wsX2_isPlayer (va_wsS RX2 27 yX2_in wsX2_in) := goodIn_app (goodIn_of _ (by decide +kernel)) ggX2_isPlayer_X2_in
theorem dX2_isPlayer_0 : decode cX2_isPlayer 0 = .ok (.iload_n 1, 1) := by decide +kernel
theorem dX2_isPlayer_1 : decode cX2_isPlayer 1 = .ok (.iconst 0, 1) := by decide +kernel
theorem dX2_isPlayer_2 : decode cX2_isPlayer 2 = .ok (.aload_n 0, 1) := by decide +kernel
theorem dX2_isPlayer_3 : decode cX2_isPlayer 3 = .ok (.getfield 24, 3) := by decide +kernel
theorem dX2_isPlayer_6 : decode cX2_isPlayer 6 = .ok (.iconst 1, 1) := by decide +kernel
theorem dX2_isPlayer_7 : decode cX2_isPlayer 7 = .ok (.isub, 1) := by decide +kernel
theorem dX2_isPlayer_8 : decode cX2_isPlayer 8 = .ok (.invokestatic 27, 3) := by decide +kernel
theorem dX2_isPlayer_11 : decode cX2_isPlayer 11 = .ok (.ireturn, 1) := by decide +kernel
set_option maxRecDepth 20000 in
theorem ggX2_isViewer_X2_isPlayer : GoodIn wsX2_isViewer wsX2_isPlayer := goodIn_r _ [5, 6, 7, 8, 4, 9, 10, 11, 12, 13, 14, 15, 16, 17, 18, 19, 20, 21, 22, 23, 24, 25] (by decide +kernel) (by decide +kernel)
set_option maxRecDepth 20000 in
theorem gX2_isViewer_X2_isPlayer : GoodIn wsX2_isViewer (wsV RX2 31 RX2 yX2_isPlayer wsX2_isPlayer) := goodIn_app (goodIn_of _ (by decide +kernel)) ggX2_isViewer_X2_isPlayer
theorem dX2_isViewer_0 : decode cX2_isViewer 0 = .ok (.iload_n 1, 1) := by decide +kernel
theorem dX2_isViewer_1 : decode cX2_isViewer 1 = .ok (.iconst (-1), 1) := by decide +kernel
theorem dX2_isViewer_2 : decode cX2_isViewer 2 = .ok (.if_icmp .eq 11, 3) := by decide +kernel
theorem dX2_isViewer_5 : decode cX2_isViewer 5 = .ok (.aload_n 0, 1) := by decide +kernel
theorem dX2_isViewer_6 : decode cX2_isViewer 6 = .ok (.iload_n 1, 1) := by decide +kernel
theorem dX2_isViewer_7 : decode cX2_isViewer 7 = .ok (.invokevirtual 31, 3) := by decide +kernel
theorem dX2_isViewer_10 : decode cX2_isViewer 10 = .ok (.ifCond .eq 7, 3) := by decide +kernel
theorem dX2_isViewer_13 : decode cX2_isViewer 13 = .ok (.iconst 1, 1) := by decide +kernel
theorem dX2_isViewer_14 : decode cX2_isViewer 14 = .ok (.goto 4, 3) := by decide +kernel
theorem dX2_isViewer_17 : decode cX2_isViewer 17 = .ok (.iconst 0, 1) := by decide +kernel
theorem dX2_isViewer_18 : decode cX2_isViewer 18 = .ok (.ireturn, 1) := by decide +kernel
set_option maxRecDepth 20000 in
theorem ggX2_isWorld_X2_in : GoodIn wsX2_isWorld wsX2_in := goodIn_r _ [4] (by decide +kernel) (by decide +kernel)
set_option maxRecDepth 20000 in
theorem gX2_isWorld_X2_in : GoodIn wsX2_isWorld (va_wsS RX2 27 yX2_in wsX2_in) := goodIn_app (goodIn_of _ (by decide +kernel)) ggX2_isWorld_X2_in
set_option maxRecDepth 20000 in
theorem ggX2_isWorld_X2_bits : GoodIn wsX2_isWorld wsX2_bits := goodIn_r _ [7] (by decide +kernel) (by decide +kernel)
set_option maxRecDepth 20000 in
theorem gX2_isWorld_X2_bits : GoodIn wsX2_isWorld (va_wsS RX2 35 yX2_bits wsX2_bits) := goodIn_app (goodIn_of _ (by decide +kernel)) ggX2_isWorld_X2_bits
set_option maxRecDepth 20000 in
theorem ggX2_isWorld_X2_has : GoodIn wsX2_isWorld wsX2_has := goodIn_r _ [10] (by decide +kernel) (by decide +kernel)
set_option maxRecDepth 20000 in
theorem gX2_isWorld_X2_has : GoodIn wsX2_isWorld (va_wsS RX2 39 yX2_has wsX2_has) := goodIn_app (goodIn_of _ (by decide +kernel)) ggX2_isWorld_X2_has
theorem dX2_isWorld_0 : decode cX2_isWorld 0 = .ok (.iload_n 2, 1) := by decide +kernel
theorem dX2_isWorld_1 : decode cX2_isWorld 1 = .ok (.iconst 0, 1) := by decide +kernel
theorem dX2_isWorld_2 : decode cX2_isWorld 2 = .ok (.iconst 1, 1) := by decide +kernel
theorem dX2_isWorld_3 : decode cX2_isWorld 3 = .ok (.iload_n 0, 1) := by decide +kernel
theorem dX2_isWorld_4 : decode cX2_isWorld 4 = .ok (.ishl, 1) := by decide +kernel
theorem dX2_isWorld_5 : decode cX2_isWorld 5 = .ok (.iconst 1, 1) := by decide +kernel
theorem dX2_isWorld_6 : decode cX2_isWorld 6 = .ok (.isub, 1) := by decide +kernel
theorem dX2_isWorld_7 : decode cX2_isWorld 7 = .ok (.invokestatic 27, 3) := by decide +kernel
theorem dX2_isWorld_10 : decode cX2_isWorld 10 = .ok (.ifCond .eq 38, 3) := by decide +kernel
theorem dX2_isWorld_13 : decode cX2_isWorld 13 = .ok (.iload_n 2, 1) := by decide +kernel
theorem dX2_isWorld_14 : decode cX2_isWorld 14 = .ok (.invokestatic 35, 3) := by decide +kernel
theorem dX2_isWorld_17 : decode cX2_isWorld 17 = .ok (.iload_n 1, 1) := by decide +kernel
theorem dX2_isWorld_18 : decode cX2_isWorld 18 = .ok (.if_icmp .ne 30, 3) := by decide +kernel
theorem dX2_isWorld_21 : decode cX2_isWorld 21 = .ok (.iload_n 3, 1) := by decide +kernel
theorem dX2_isWorld_22 : decode cX2_isWorld 22 = .ok (.iconst 0, 1) := by decide +kernel
theorem dX2_isWorld_23 : decode cX2_isWorld 23 = .ok (.iload_n 0, 1) := by decide +kernel
theorem dX2_isWorld_24 : decode cX2_isWorld 24 = .ok (.iconst 1, 1) := by decide +kernel
theorem dX2_isWorld_25 : decode cX2_isWorld 25 = .ok (.isub, 1) := by decide +kernel
theorem dX2_isWorld_26 : decode cX2_isWorld 26 = .ok (.invokestatic 27, 3) := by decide +kernel
theorem dX2_isWorld_29 : decode cX2_isWorld 29 = .ok (.ifCond .eq 19, 3) := by decide +kernel
theorem dX2_isWorld_32 : decode cX2_isWorld 32 = .ok (.iload 4, 2) := by decide +kernel
theorem dX2_isWorld_34 : decode cX2_isWorld 34 = .ok (.iconst 0, 1) := by decide +kernel
theorem dX2_isWorld_35 : decode cX2_isWorld 35 = .ok (.iload_n 0, 1) := by decide +kernel
theorem dX2_isWorld_36 : decode cX2_isWorld 36 = .ok (.iconst 1, 1) := by decide +kernel
theorem dX2_isWorld_37 : decode cX2_isWorld 37 = .ok (.isub, 1) := by decide +kernel
theorem dX2_isWorld_38 : decode cX2_isWorld 38 = .ok (.invokestatic 27, 3) := by decide +kernel
theorem dX2_isWorld_41 : decode cX2_isWorld 41 = .ok (.ifCond .eq 7, 3) := by decide +kernel
theorem dX2_isWorld_44 : decode cX2_isWorld 44 = .ok (.iconst 1, 1) := by decide +kernel
theorem dX2_isWorld_45 : decode cX2_isWorld 45 = .ok (.goto 4, 3) := by decide +kernel
theorem dX2_isWorld_48 : decode cX2_isWorld 48 = .ok (.iconst 0, 1) := by decide +kernel
theorem dX2_isWorld_49 : decode cX2_isWorld 49 = .ok (.istore 5, 2) := by decide +kernel
theorem dX2_isWorld_51 : decode cX2_isWorld 51 = .ok (.iload 5, 2) := by decide +kernel
theorem dX2_isWorld_53 : decode cX2_isWorld 53 = .ok (.ifCond .eq 30, 3) := by decide +kernel
theorem dX2_isWorld_56 : decode cX2_isWorld 56 = .ok (.iload_n 3, 1) := by decide +kernel
theorem dX2_isWorld_57 : decode cX2_isWorld 57 = .ok (.iload 4, 2) := by decide +kernel
theorem dX2_isWorld_59 : decode cX2_isWorld 59 = .ok (.if_icmp .eq 24, 3) := by decide +kernel
theorem dX2_isWorld_62 : decode cX2_isWorld 62 = .ok (.iload_n 2, 1) := by decide +kernel
theorem dX2_isWorld_63 : decode cX2_isWorld 63 = .ok (.iload_n 3, 1) := by decide +kernel
theorem dX2_isWorld_64 : decode cX2_isWorld 64 = .ok (.invokestatic 39, 3) := by decide +kernel
theorem dX2_isWorld_67 : decode cX2_isWorld 67 = .ok (.ifCond .ne 16, 3) := by decide +kernel
theorem dX2_isWorld_70 : decode cX2_isWorld 70 = .ok (.iload_n 2, 1) := by decide +kernel
theorem dX2_isWorld_71 : decode cX2_isWorld 71 = .ok (.iload 4, 2) := by decide +kernel
theorem dX2_isWorld_73 : decode cX2_isWorld 73 = .ok (.invokestatic 39, 3) := by decide +kernel
theorem dX2_isWorld_76 : decode cX2_isWorld 76 = .ok (.ifCond .ne 7, 3) := by decide +kernel
theorem dX2_isWorld_79 : decode cX2_isWorld 79 = .ok (.iconst 1, 1) := by decide +kernel
theorem dX2_isWorld_80 : decode cX2_isWorld 80 = .ok (.goto 4, 3) := by decide +kernel
theorem dX2_isWorld_83 : decode cX2_isWorld 83 = .ok (.iconst 0, 1) := by decide +kernel
theorem dX2_isWorld_84 : decode cX2_isWorld 84 = .ok (.ireturn, 1) := by decide +kernel
set_option maxRecDepth 20000 in
theorem ggX2_roleIn_X2_has : GoodIn wsX2_roleIn wsX2_has := goodIn_r _ [4] (by decide +kernel) (by decide +kernel)
set_option maxRecDepth 20000 in
theorem gX2_roleIn_X2_has : GoodIn wsX2_roleIn (va_wsS RX2 39 yX2_has wsX2_has) := goodIn_app (goodIn_of _ (by decide +kernel)) ggX2_roleIn_X2_has
theorem dX2_roleIn_0 : decode cX2_roleIn 0 = .ok (.iload_n 0, 1) := by decide +kernel
theorem dX2_roleIn_1 : decode cX2_roleIn 1 = .ok (.bipush 64, 2) := by decide +kernel
theorem dX2_roleIn_3 : decode cX2_roleIn 3 = .ok (.idiv, 1) := by decide +kernel
theorem dX2_roleIn_4 : decode cX2_roleIn 4 = .ok (.iload_n 1, 1) := by decide +kernel
theorem dX2_roleIn_5 : decode cX2_roleIn 5 = .ok (.invokestatic 39, 3) := by decide +kernel
theorem dX2_roleIn_8 : decode cX2_roleIn 8 = .ok (.ifCond .eq 7, 3) := by decide +kernel
theorem dX2_roleIn_11 : decode cX2_roleIn 11 = .ok (.iconst 1, 1) := by decide +kernel
theorem dX2_roleIn_12 : decode cX2_roleIn 12 = .ok (.goto 31, 3) := by decide +kernel
theorem dX2_roleIn_15 : decode cX2_roleIn 15 = .ok (.iload_n 0, 1) := by decide +kernel
theorem dX2_roleIn_16 : decode cX2_roleIn 16 = .ok (.bipush 8, 2) := by decide +kernel
theorem dX2_roleIn_18 : decode cX2_roleIn 18 = .ok (.idiv, 1) := by decide +kernel
theorem dX2_roleIn_19 : decode cX2_roleIn 19 = .ok (.bipush 8, 2) := by decide +kernel
theorem dX2_roleIn_21 : decode cX2_roleIn 21 = .ok (.irem, 1) := by decide +kernel
theorem dX2_roleIn_22 : decode cX2_roleIn 22 = .ok (.iload_n 1, 1) := by decide +kernel
theorem dX2_roleIn_23 : decode cX2_roleIn 23 = .ok (.if_icmp .ne 7, 3) := by decide +kernel
theorem dX2_roleIn_26 : decode cX2_roleIn 26 = .ok (.iconst 2, 1) := by decide +kernel
theorem dX2_roleIn_27 : decode cX2_roleIn 27 = .ok (.goto 16, 3) := by decide +kernel
theorem dX2_roleIn_30 : decode cX2_roleIn 30 = .ok (.iload_n 0, 1) := by decide +kernel
theorem dX2_roleIn_31 : decode cX2_roleIn 31 = .ok (.bipush 8, 2) := by decide +kernel
theorem dX2_roleIn_33 : decode cX2_roleIn 33 = .ok (.irem, 1) := by decide +kernel
theorem dX2_roleIn_34 : decode cX2_roleIn 34 = .ok (.iload_n 1, 1) := by decide +kernel
theorem dX2_roleIn_35 : decode cX2_roleIn 35 = .ok (.if_icmp .ne 7, 3) := by decide +kernel
theorem dX2_roleIn_38 : decode cX2_roleIn 38 = .ok (.iconst 3, 1) := by decide +kernel
theorem dX2_roleIn_39 : decode cX2_roleIn 39 = .ok (.goto 4, 3) := by decide +kernel
theorem dX2_roleIn_42 : decode cX2_roleIn 42 = .ok (.iconst 0, 1) := by decide +kernel
theorem dX2_roleIn_43 : decode cX2_roleIn 43 = .ok (.ireturn, 1) := by decide +kernel
theorem dX2_truth_0 : decode cX2_truth 0 = .ok (.bipush 64, 2) := by decide +kernel
theorem dX2_truth_2 : decode cX2_truth 2 = .ok (.aload_n 0, 1) := by decide +kernel
theorem dX2_truth_3 : decode cX2_truth 3 = .ok (.getfield 43, 3) := by decide +kernel
theorem dX2_truth_6 : decode cX2_truth 6 = .ok (.imul, 1) := by decide +kernel
theorem dX2_truth_7 : decode cX2_truth 7 = .ok (.bipush 8, 2) := by decide +kernel
theorem dX2_truth_9 : decode cX2_truth 9 = .ok (.aload_n 0, 1) := by decide +kernel
theorem dX2_truth_10 : decode cX2_truth 10 = .ok (.getfield 46, 3) := by decide +kernel
theorem dX2_truth_13 : decode cX2_truth 13 = .ok (.imul, 1) := by decide +kernel
theorem dX2_truth_14 : decode cX2_truth 14 = .ok (.iadd, 1) := by decide +kernel
theorem dX2_truth_15 : decode cX2_truth 15 = .ok (.aload_n 0, 1) := by decide +kernel
theorem dX2_truth_16 : decode cX2_truth 16 = .ok (.getfield 49, 3) := by decide +kernel
theorem dX2_truth_19 : decode cX2_truth 19 = .ok (.iadd, 1) := by decide +kernel
theorem dX2_truth_20 : decode cX2_truth 20 = .ok (.ireturn, 1) := by decide +kernel
theorem dX2_manyOpen_0 : decode cX2_manyOpen 0 = .ok (.iconst 0, 1) := by decide +kernel
theorem dX2_manyOpen_1 : decode cX2_manyOpen 1 = .ok (.istore_n 1, 1) := by decide +kernel
theorem dX2_manyOpen_2 : decode cX2_manyOpen 2 = .ok (.iconst 0, 1) := by decide +kernel
theorem dX2_manyOpen_3 : decode cX2_manyOpen 3 = .ok (.istore_n 2, 1) := by decide +kernel
theorem dX2_manyOpen_4 : decode cX2_manyOpen 4 = .ok (.iload_n 2, 1) := by decide +kernel
theorem dX2_manyOpen_5 : decode cX2_manyOpen 5 = .ok (.sipush 16384, 3) := by decide +kernel
theorem dX2_manyOpen_8 : decode cX2_manyOpen 8 = .ok (.if_icmp .ge 26, 3) := by decide +kernel
theorem dX2_manyOpen_11 : decode cX2_manyOpen 11 = .ok (.iload_n 1, 1) := by decide +kernel
theorem dX2_manyOpen_12 : decode cX2_manyOpen 12 = .ok (.aload_n 0, 1) := by decide +kernel
theorem dX2_manyOpen_13 : decode cX2_manyOpen 13 = .ok (.getfield 7, 3) := by decide +kernel
theorem dX2_manyOpen_16 : decode cX2_manyOpen 16 = .ok (.iload_n 2, 1) := by decide +kernel
theorem dX2_manyOpen_17 : decode cX2_manyOpen 17 = .ok (.baload, 1) := by decide +kernel
theorem dX2_manyOpen_18 : decode cX2_manyOpen 18 = .ok (.ifCond .eq 7, 3) := by decide +kernel
theorem dX2_manyOpen_21 : decode cX2_manyOpen 21 = .ok (.iconst 1, 1) := by decide +kernel
theorem dX2_manyOpen_22 : decode cX2_manyOpen 22 = .ok (.goto 4, 3) := by decide +kernel
theorem dX2_manyOpen_25 : decode cX2_manyOpen 25 = .ok (.iconst 0, 1) := by decide +kernel
theorem dX2_manyOpen_26 : decode cX2_manyOpen 26 = .ok (.iadd, 1) := by decide +kernel
theorem dX2_manyOpen_27 : decode cX2_manyOpen 27 = .ok (.istore_n 1, 1) := by decide +kernel
theorem dX2_manyOpen_28 : decode cX2_manyOpen 28 = .ok (.iinc 2 1, 3) := by decide +kernel
theorem dX2_manyOpen_31 : decode cX2_manyOpen 31 = .ok (.goto (-27), 3) := by decide +kernel
theorem dX2_manyOpen_34 : decode cX2_manyOpen 34 = .ok (.iload_n 1, 1) := by decide +kernel
theorem dX2_manyOpen_35 : decode cX2_manyOpen 35 = .ok (.ireturn, 1) := by decide +kernel
set_option maxRecDepth 20000 in
theorem ggX2_isFor_X2_truth : GoodIn wsX2_isFor wsX2_truth := goodIn_r _ [8, 2, 9, 10, 17, 18, 19, 20, 21, 22, 23, 24, 25, 26, 27, 28, 29, 30, 31, 32] (by decide +kernel) (by decide +kernel)
set_option maxRecDepth 20000 in
theorem gX2_isFor_X2_truth : GoodIn wsX2_isFor (wsV RX2 52 RX2 yX2_truth wsX2_truth) := goodIn_app (goodIn_of _ (by decide +kernel)) ggX2_isFor_X2_truth
set_option maxRecDepth 20000 in
theorem ggX2_isFor_X2_roleIn : GoodIn wsX2_isFor wsX2_roleIn := goodIn_r _ [13, 14, 15, 7, 16] (by decide +kernel) (by decide +kernel)
set_option maxRecDepth 20000 in
theorem gX2_isFor_X2_roleIn : GoodIn wsX2_isFor (va_wsS RX2 56 yX2_roleIn wsX2_roleIn) := goodIn_app (goodIn_of _ (by decide +kernel)) ggX2_isFor_X2_roleIn
theorem dX2_isFor_0 : decode cX2_isFor 0 = .ok (.aload_n 0, 1) := by decide +kernel
theorem dX2_isFor_1 : decode cX2_isFor 1 = .ok (.getfield 7, 3) := by decide +kernel
theorem dX2_isFor_4 : decode cX2_isFor 4 = .ok (.iload_n 2, 1) := by decide +kernel
theorem dX2_isFor_5 : decode cX2_isFor 5 = .ok (.baload, 1) := by decide +kernel
theorem dX2_isFor_6 : decode cX2_isFor 6 = .ok (.ifCond .eq 8, 3) := by decide +kernel
theorem dX2_isFor_9 : decode cX2_isFor 9 = .ok (.iload_n 1, 1) := by decide +kernel
theorem dX2_isFor_10 : decode cX2_isFor 10 = .ok (.iconst (-1), 1) := by decide +kernel
theorem dX2_isFor_11 : decode cX2_isFor 11 = .ok (.if_icmp .ne 10, 3) := by decide +kernel
theorem dX2_isFor_14 : decode cX2_isFor 14 = .ok (.aload_n 0, 1) := by decide +kernel
theorem dX2_isFor_15 : decode cX2_isFor 15 = .ok (.getfield 7, 3) := by decide +kernel
theorem dX2_isFor_18 : decode cX2_isFor 18 = .ok (.iload_n 2, 1) := by decide +kernel
theorem dX2_isFor_19 : decode cX2_isFor 19 = .ok (.baload, 1) := by decide +kernel
theorem dX2_isFor_20 : decode cX2_isFor 20 = .ok (.ireturn, 1) := by decide +kernel
theorem dX2_isFor_21 : decode cX2_isFor 21 = .ok (.aload_n 0, 1) := by decide +kernel
theorem dX2_isFor_22 : decode cX2_isFor 22 = .ok (.invokevirtual 52, 3) := by decide +kernel
theorem dX2_isFor_25 : decode cX2_isFor 25 = .ok (.iload_n 1, 1) := by decide +kernel
theorem dX2_isFor_26 : decode cX2_isFor 26 = .ok (.invokestatic 56, 3) := by decide +kernel
theorem dX2_isFor_29 : decode cX2_isFor 29 = .ok (.istore_n 3, 1) := by decide +kernel
theorem dX2_isFor_30 : decode cX2_isFor 30 = .ok (.iload_n 2, 1) := by decide +kernel
theorem dX2_isFor_31 : decode cX2_isFor 31 = .ok (.iload_n 1, 1) := by decide +kernel
theorem dX2_isFor_32 : decode cX2_isFor 32 = .ok (.invokestatic 56, 3) := by decide +kernel
theorem dX2_isFor_35 : decode cX2_isFor 35 = .ok (.iload_n 3, 1) := by decide +kernel
theorem dX2_isFor_36 : decode cX2_isFor 36 = .ok (.if_icmp .ne 23, 3) := by decide +kernel
theorem dX2_isFor_39 : decode cX2_isFor 39 = .ok (.iload_n 3, 1) := by decide +kernel
theorem dX2_isFor_40 : decode cX2_isFor 40 = .ok (.iconst 1, 1) := by decide +kernel
theorem dX2_isFor_41 : decode cX2_isFor 41 = .ok (.if_icmp .ne 14, 3) := by decide +kernel
theorem dX2_isFor_44 : decode cX2_isFor 44 = .ok (.iload_n 2, 1) := by decide +kernel
theorem dX2_isFor_45 : decode cX2_isFor 45 = .ok (.bipush 64, 2) := by decide +kernel
theorem dX2_isFor_47 : decode cX2_isFor 47 = .ok (.idiv, 1) := by decide +kernel
theorem dX2_isFor_48 : decode cX2_isFor 48 = .ok (.aload_n 0, 1) := by decide +kernel
theorem dX2_isFor_49 : decode cX2_isFor 49 = .ok (.getfield 43, 3) := by decide +kernel
theorem dX2_isFor_52 : decode cX2_isFor 52 = .ok (.if_icmp .ne 7, 3) := by decide +kernel
theorem dX2_isFor_55 : decode cX2_isFor 55 = .ok (.iconst 1, 1) := by decide +kernel
theorem dX2_isFor_56 : decode cX2_isFor 56 = .ok (.goto 4, 3) := by decide +kernel
theorem dX2_isFor_59 : decode cX2_isFor 59 = .ok (.iconst 0, 1) := by decide +kernel
theorem dX2_isFor_60 : decode cX2_isFor 60 = .ok (.istore 4, 2) := by decide +kernel
theorem dX2_isFor_62 : decode cX2_isFor 62 = .ok (.iload 4, 2) := by decide +kernel
theorem dX2_isFor_64 : decode cX2_isFor 64 = .ok (.ifCond .eq 33, 3) := by decide +kernel
theorem dX2_isFor_67 : decode cX2_isFor 67 = .ok (.iload_n 3, 1) := by decide +kernel
theorem dX2_isFor_68 : decode cX2_isFor 68 = .ok (.iconst 2, 1) := by decide +kernel
theorem dX2_isFor_69 : decode cX2_isFor 69 = .ok (.if_icmp .ne 24, 3) := by decide +kernel
theorem dX2_isFor_72 : decode cX2_isFor 72 = .ok (.iload_n 2, 1) := by decide +kernel
theorem dX2_isFor_73 : decode cX2_isFor 73 = .ok (.bipush 64, 2) := by decide +kernel
theorem dX2_isFor_75 : decode cX2_isFor 75 = .ok (.idiv, 1) := by decide +kernel
theorem dX2_isFor_76 : decode cX2_isFor 76 = .ok (.aload_n 0, 1) := by decide +kernel
theorem dX2_isFor_77 : decode cX2_isFor 77 = .ok (.getfield 60, 3) := by decide +kernel
theorem dX2_isFor_80 : decode cX2_isFor 80 = .ok (.iand, 1) := by decide +kernel
theorem dX2_isFor_81 : decode cX2_isFor 81 = .ok (.aload_n 0, 1) := by decide +kernel
theorem dX2_isFor_82 : decode cX2_isFor 82 = .ok (.getfield 43, 3) := by decide +kernel
theorem dX2_isFor_85 : decode cX2_isFor 85 = .ok (.aload_n 0, 1) := by decide +kernel
theorem dX2_isFor_86 : decode cX2_isFor 86 = .ok (.getfield 60, 3) := by decide +kernel
theorem dX2_isFor_89 : decode cX2_isFor 89 = .ok (.iand, 1) := by decide +kernel
theorem dX2_isFor_90 : decode cX2_isFor 90 = .ok (.if_icmp .ne 7, 3) := by decide +kernel
theorem dX2_isFor_93 : decode cX2_isFor 93 = .ok (.iconst 1, 1) := by decide +kernel
theorem dX2_isFor_94 : decode cX2_isFor 94 = .ok (.goto 4, 3) := by decide +kernel
theorem dX2_isFor_97 : decode cX2_isFor 97 = .ok (.iconst 0, 1) := by decide +kernel
theorem dX2_isFor_98 : decode cX2_isFor 98 = .ok (.ireturn, 1) := by decide +kernel
set_option maxRecDepth 20000 in
theorem ggX2_start_X2_bits : GoodIn wsX2_start wsX2_bits := goodIn_r _ [15] (by decide +kernel) (by decide +kernel)
set_option maxRecDepth 20000 in
theorem gX2_start_X2_bits : GoodIn wsX2_start (va_wsS RX2 35 yX2_bits wsX2_bits) := goodIn_app (goodIn_of _ (by decide +kernel)) ggX2_start_X2_bits
set_option maxRecDepth 20000 in
theorem ggX2_start_X2_in : GoodIn wsX2_start wsX2_in := goodIn_r _ [18] (by decide +kernel) (by decide +kernel)
set_option maxRecDepth 20000 in
theorem gX2_start_X2_in : GoodIn wsX2_start (va_wsS RX2 27 yX2_in wsX2_in) := goodIn_app (goodIn_of _ (by decide +kernel)) ggX2_start_X2_in
set_option maxRecDepth 20000 in
theorem ggX2_start_X2_isWorld : GoodIn wsX2_start wsX2_isWorld := goodIn_r _ [21, 16, 17, 14, 18, 12, 13, 15, 22, 23, 24] (by decide +kernel) (by decide +kernel)
set_option maxRecDepth 20000 in
theorem gX2_start_X2_isWorld : GoodIn wsX2_start (va_wsS RX2 63 yX2_isWorld wsX2_isWorld) := goodIn_app (goodIn_of _ (by decide +kernel)) ggX2_start_X2_isWorld
set_option maxRecDepth 20000 in
theorem ggX2_start_X2_forgets : GoodIn wsX2_start wsX2_forgets := goodIn_r _ [28, 29, 30, 31, 32, 37, 38, 39, 40, 41, 42, 43, 44, 45, 46, 47, 48, 49, 50, 51, 52] (by decide +kernel) (by decide +kernel)
set_option maxRecDepth 20000 in
theorem gX2_start_X2_forgets : GoodIn wsX2_start (wsV RX2 79 RX2 yX2_forgets wsX2_forgets) := goodIn_app (goodIn_of _ (by decide +kernel)) ggX2_start_X2_forgets
set_option maxRecDepth 20000 in
theorem ggX2_start_X2_manyOpen : GoodIn wsX2_start wsX2_manyOpen := goodIn_r _ [36, 6, 37, 38, 39, 40, 41, 42, 43, 44, 45, 46, 47, 48, 49, 50, 51, 52] (by decide +kernel) (by decide +kernel)
set_option maxRecDepth 20000 in
theorem gX2_start_X2_manyOpen : GoodIn wsX2_start (wsV RX2 82 RX2 yX2_manyOpen wsX2_manyOpen) := goodIn_app (goodIn_of _ (by decide +kernel)) ggX2_start_X2_manyOpen
theorem dX2_start_0 : decode cX2_start 0 = .ok (.iload_n 2, 1) := by decide +kernel
theorem dX2_start_1 : decode cX2_start 1 = .ok (.ifCond .ge 7, 3) := by decide +kernel
theorem dX2_start_4 : decode cX2_start 4 = .ok (.iconst 0, 1) := by decide +kernel
theorem dX2_start_5 : decode cX2_start 5 = .ok (.goto 7, 3) := by decide +kernel
theorem dX2_start_8 : decode cX2_start 8 = .ok (.iload_n 2, 1) := by decide +kernel
theorem dX2_start_9 : decode cX2_start 9 = .ok (.invokestatic 35, 3) := by decide +kernel
theorem dX2_start_12 : decode cX2_start 12 = .ok (.istore 5, 2) := by decide +kernel
theorem dX2_start_14 : decode cX2_start 14 = .ok (.iload_n 1, 1) := by decide +kernel
theorem dX2_start_15 : decode cX2_start 15 = .ok (.iconst 4, 1) := by decide +kernel
theorem dX2_start_16 : decode cX2_start 16 = .ok (.bipush 8, 2) := by decide +kernel
theorem dX2_start_18 : decode cX2_start 18 = .ok (.invokestatic 27, 3) := by decide +kernel
theorem dX2_start_21 : decode cX2_start 21 = .ok (.ifCond .eq 33, 3) := by decide +kernel
theorem dX2_start_24 : decode cX2_start 24 = .ok (.iload 5, 2) := by decide +kernel
theorem dX2_start_26 : decode cX2_start 26 = .ok (.ifCond .le 28, 3) := by decide +kernel
theorem dX2_start_29 : decode cX2_start 29 = .ok (.iconst 2, 1) := by decide +kernel
theorem dX2_start_30 : decode cX2_start 30 = .ok (.iload 5, 2) := by decide +kernel
theorem dX2_start_32 : decode cX2_start 32 = .ok (.imul, 1) := by decide +kernel
theorem dX2_start_33 : decode cX2_start 33 = .ok (.iload_n 1, 1) := by decide +kernel
theorem dX2_start_34 : decode cX2_start 34 = .ok (.if_icmp .ge 20, 3) := by decide +kernel
theorem dX2_start_37 : decode cX2_start 37 = .ok (.iload_n 1, 1) := by decide +kernel
theorem dX2_start_38 : decode cX2_start 38 = .ok (.iload 5, 2) := by decide +kernel
theorem dX2_start_40 : decode cX2_start 40 = .ok (.iload_n 2, 1) := by decide +kernel
theorem dX2_start_41 : decode cX2_start 41 = .ok (.iload_n 3, 1) := by decide +kernel
theorem dX2_start_42 : decode cX2_start 42 = .ok (.iload 4, 2) := by decide +kernel
theorem dX2_start_44 : decode cX2_start 44 = .ok (.invokestatic 63, 3) := by decide +kernel
theorem dX2_start_47 : decode cX2_start 47 = .ok (.ifCond .eq 7, 3) := by decide +kernel
theorem dX2_start_50 : decode cX2_start 50 = .ok (.iconst 1, 1) := by decide +kernel
theorem dX2_start_51 : decode cX2_start 51 = .ok (.goto 4, 3) := by decide +kernel
theorem dX2_start_54 : decode cX2_start 54 = .ok (.iconst 0, 1) := by decide +kernel
theorem dX2_start_55 : decode cX2_start 55 = .ok (.istore 6, 2) := by decide +kernel
theorem dX2_start_57 : decode cX2_start 57 = .ok (.aload_n 0, 1) := by decide +kernel
theorem dX2_start_58 : decode cX2_start 58 = .ok (.iload 6, 2) := by decide +kernel
theorem dX2_start_60 : decode cX2_start 60 = .ok (.ifCond .eq 7, 3) := by decide +kernel
theorem dX2_start_63 : decode cX2_start 63 = .ok (.iconst 0, 1) := by decide +kernel
theorem dX2_start_64 : decode cX2_start 64 = .ok (.goto 4, 3) := by decide +kernel
theorem dX2_start_67 : decode cX2_start 67 = .ok (.iconst 1, 1) := by decide +kernel
theorem dX2_start_68 : decode cX2_start 68 = .ok (.putfield 20, 3) := by decide +kernel
theorem dX2_start_71 : decode cX2_start 71 = .ok (.aload_n 0, 1) := by decide +kernel
theorem dX2_start_72 : decode cX2_start 72 = .ok (.getfield 20, 3) := by decide +kernel
theorem dX2_start_75 : decode cX2_start 75 = .ok (.ifCond .le 5, 3) := by decide +kernel
theorem dX2_start_78 : decode cX2_start 78 = .ok (.iconst 0, 1) := by decide +kernel
theorem dX2_start_79 : decode cX2_start 79 = .ok (.ireturn, 1) := by decide +kernel
theorem dX2_start_80 : decode cX2_start 80 = .ok (.aload_n 0, 1) := by decide +kernel
theorem dX2_start_81 : decode cX2_start 81 = .ok (.iload_n 1, 1) := by decide +kernel
theorem dX2_start_82 : decode cX2_start 82 = .ok (.putfield 24, 3) := by decide +kernel
theorem dX2_start_85 : decode cX2_start 85 = .ok (.aload_n 0, 1) := by decide +kernel
theorem dX2_start_86 : decode cX2_start 86 = .ok (.iload_n 2, 1) := by decide +kernel
theorem dX2_start_87 : decode cX2_start 87 = .ok (.putfield 43, 3) := by decide +kernel
theorem dX2_start_90 : decode cX2_start 90 = .ok (.aload_n 0, 1) := by decide +kernel
theorem dX2_start_91 : decode cX2_start 91 = .ok (.iload_n 3, 1) := by decide +kernel
theorem dX2_start_92 : decode cX2_start 92 = .ok (.putfield 46, 3) := by decide +kernel
theorem dX2_start_95 : decode cX2_start 95 = .ok (.aload_n 0, 1) := by decide +kernel
theorem dX2_start_96 : decode cX2_start 96 = .ok (.iload 4, 2) := by decide +kernel
theorem dX2_start_98 : decode cX2_start 98 = .ok (.putfield 49, 3) := by decide +kernel
theorem dX2_start_101 : decode cX2_start 101 = .ok (.iconst 0, 1) := by decide +kernel
theorem dX2_start_102 : decode cX2_start 102 = .ok (.istore 7, 2) := by decide +kernel
theorem dX2_start_104 : decode cX2_start 104 = .ok (.iload 7, 2) := by decide +kernel
theorem dX2_start_106 : decode cX2_start 106 = .ok (.sipush 16384, 3) := by decide +kernel
theorem dX2_start_109 : decode cX2_start 109 = .ok (.if_icmp .ge 40, 3) := by decide +kernel
theorem dX2_start_112 : decode cX2_start 112 = .ok (.aload_n 0, 1) := by decide +kernel
theorem dX2_start_113 : decode cX2_start 113 = .ok (.getfield 7, 3) := by decide +kernel
theorem dX2_start_116 : decode cX2_start 116 = .ok (.iload 7, 2) := by decide +kernel
theorem dX2_start_118 : decode cX2_start 118 = .ok (.iload_n 1, 1) := by decide +kernel
theorem dX2_start_119 : decode cX2_start 119 = .ok (.iload 5, 2) := by decide +kernel
theorem dX2_start_121 : decode cX2_start 121 = .ok (.iload 7, 2) := by decide +kernel
theorem dX2_start_123 : decode cX2_start 123 = .ok (.bipush 64, 2) := by decide +kernel
theorem dX2_start_125 : decode cX2_start 125 = .ok (.idiv, 1) := by decide +kernel
theorem dX2_start_126 : decode cX2_start 126 = .ok (.iload 7, 2) := by decide +kernel
theorem dX2_start_128 : decode cX2_start 128 = .ok (.bipush 8, 2) := by decide +kernel
theorem dX2_start_130 : decode cX2_start 130 = .ok (.idiv, 1) := by decide +kernel
theorem dX2_start_131 : decode cX2_start 131 = .ok (.bipush 8, 2) := by decide +kernel
theorem dX2_start_133 : decode cX2_start 133 = .ok (.irem, 1) := by decide +kernel
theorem dX2_start_134 : decode cX2_start 134 = .ok (.iload 7, 2) := by decide +kernel
theorem dX2_start_136 : decode cX2_start 136 = .ok (.bipush 8, 2) := by decide +kernel
theorem dX2_start_138 : decode cX2_start 138 = .ok (.irem, 1) := by decide +kernel
theorem dX2_start_139 : decode cX2_start 139 = .ok (.invokestatic 63, 3) := by decide +kernel
theorem dX2_start_142 : decode cX2_start 142 = .ok (.bastore, 1) := by decide +kernel
theorem dX2_start_143 : decode cX2_start 143 = .ok (.iinc 7 1, 3) := by decide +kernel
theorem dX2_start_146 : decode cX2_start 146 = .ok (.goto (-42), 3) := by decide +kernel
theorem dX2_start_149 : decode cX2_start 149 = .ok (.aload_n 0, 1) := by decide +kernel
theorem dX2_start_150 : decode cX2_start 150 = .ok (.iconst 1, 1) := by decide +kernel
theorem dX2_start_151 : decode cX2_start 151 = .ok (.iload_n 1, 1) := by decide +kernel
theorem dX2_start_152 : decode cX2_start 152 = .ok (.ishl, 1) := by decide +kernel
theorem dX2_start_153 : decode cX2_start 153 = .ok (.iconst 1, 1) := by decide +kernel
theorem dX2_start_154 : decode cX2_start 154 = .ok (.isub, 1) := by decide +kernel
theorem dX2_start_155 : decode cX2_start 155 = .ok (.putfield 67, 3) := by decide +kernel
theorem dX2_start_158 : decode cX2_start 158 = .ok (.aload_n 0, 1) := by decide +kernel
theorem dX2_start_159 : decode cX2_start 159 = .ok (.iconst 1, 1) := by decide +kernel
theorem dX2_start_160 : decode cX2_start 160 = .ok (.putfield 70, 3) := by decide +kernel
theorem dX2_start_163 : decode cX2_start 163 = .ok (.aload_n 0, 1) := by decide +kernel
theorem dX2_start_164 : decode cX2_start 164 = .ok (.iconst 1, 1) := by decide +kernel
theorem dX2_start_165 : decode cX2_start 165 = .ok (.putfield 73, 3) := by decide +kernel
theorem dX2_start_168 : decode cX2_start 168 = .ok (.aload_n 0, 1) := by decide +kernel
theorem dX2_start_169 : decode cX2_start 169 = .ok (.iconst 0, 1) := by decide +kernel
theorem dX2_start_170 : decode cX2_start 170 = .ok (.putfield 60, 3) := by decide +kernel
theorem dX2_start_173 : decode cX2_start 173 = .ok (.aload_n 0, 1) := by decide +kernel
theorem dX2_start_174 : decode cX2_start 174 = .ok (.iconst (-1), 1) := by decide +kernel
theorem dX2_start_175 : decode cX2_start 175 = .ok (.putfield 76, 3) := by decide +kernel
theorem dX2_start_178 : decode cX2_start 178 = .ok (.aload_n 0, 1) := by decide +kernel
theorem dX2_start_179 : decode cX2_start 179 = .ok (.invokevirtual 79, 3) := by decide +kernel
theorem dX2_start_182 : decode cX2_start 182 = .ok (.aload_n 0, 1) := by decide +kernel
theorem dX2_start_183 : decode cX2_start 183 = .ok (.invokevirtual 82, 3) := by decide +kernel
theorem dX2_start_186 : decode cX2_start 186 = .ok (.ireturn, 1) := by decide +kernel
theorem dX2_forgets_0 : decode cX2_forgets 0 = .ok (.iconst 0, 1) := by decide +kernel
theorem dX2_forgets_1 : decode cX2_forgets 1 = .ok (.istore_n 1, 1) := by decide +kernel
theorem dX2_forgets_2 : decode cX2_forgets 2 = .ok (.iload_n 1, 1) := by decide +kernel
theorem dX2_forgets_3 : decode cX2_forgets 3 = .ok (.bipush 8, 2) := by decide +kernel
theorem dX2_forgets_5 : decode cX2_forgets 5 = .ok (.if_icmp .ge 16, 3) := by decide +kernel
theorem dX2_forgets_8 : decode cX2_forgets 8 = .ok (.aload_n 0, 1) := by decide +kernel
theorem dX2_forgets_9 : decode cX2_forgets 9 = .ok (.getfield 13, 3) := by decide +kernel
theorem dX2_forgets_12 : decode cX2_forgets 12 = .ok (.iload_n 1, 1) := by decide +kernel
theorem dX2_forgets_13 : decode cX2_forgets 13 = .ok (.iconst (-1), 1) := by decide +kernel
theorem dX2_forgets_14 : decode cX2_forgets 14 = .ok (.iastore, 1) := by decide +kernel
theorem dX2_forgets_15 : decode cX2_forgets 15 = .ok (.iinc 1 1, 3) := by decide +kernel
theorem dX2_forgets_18 : decode cX2_forgets 18 = .ok (.goto (-16), 3) := by decide +kernel
theorem dX2_forgets_21 : decode cX2_forgets 21 = .ok (.aload_n 0, 1) := by decide +kernel
theorem dX2_forgets_22 : decode cX2_forgets 22 = .ok (.iconst (-1), 1) := by decide +kernel
theorem dX2_forgets_23 : decode cX2_forgets 23 = .ok (.putfield 85, 3) := by decide +kernel
theorem dX2_forgets_26 : decode cX2_forgets 26 = .ok (.aload_n 0, 1) := by decide +kernel
theorem dX2_forgets_27 : decode cX2_forgets 27 = .ok (.iconst (-1), 1) := by decide +kernel
theorem dX2_forgets_28 : decode cX2_forgets 28 = .ok (.putfield 88, 3) := by decide +kernel
theorem dX2_forgets_31 : decode cX2_forgets 31 = .ok (.aload_n 0, 1) := by decide +kernel
theorem dX2_forgets_32 : decode cX2_forgets 32 = .ok (.iconst (-1), 1) := by decide +kernel
theorem dX2_forgets_33 : decode cX2_forgets 33 = .ok (.putfield 91, 3) := by decide +kernel
theorem dX2_forgets_36 : decode cX2_forgets 36 = .ok (.return_, 1) := by decide +kernel
theorem dX2_phase_0 : decode cX2_phase 0 = .ok (.aload_n 0, 1) := by decide +kernel
theorem dX2_phase_1 : decode cX2_phase 1 = .ok (.iconst 0, 1) := by decide +kernel
theorem dX2_phase_2 : decode cX2_phase 2 = .ok (.putfield 20, 3) := by decide +kernel
theorem dX2_phase_5 : decode cX2_phase 5 = .ok (.aload_n 0, 1) := by decide +kernel
theorem dX2_phase_6 : decode cX2_phase 6 = .ok (.getfield 70, 3) := by decide +kernel
theorem dX2_phase_9 : decode cX2_phase 9 = .ok (.ireturn, 1) := by decide +kernel
set_option maxRecDepth 20000 in
theorem ggX2_isTrue_X2_roleIn : GoodIn wsX2_isTrue wsX2_roleIn := goodIn_r _ [4, 5, 6, 3, 7] (by decide +kernel) (by decide +kernel)
set_option maxRecDepth 20000 in
theorem gX2_isTrue_X2_roleIn : GoodIn wsX2_isTrue (va_wsS RX2 56 yX2_roleIn wsX2_roleIn) := goodIn_app (goodIn_of _ (by decide +kernel)) ggX2_isTrue_X2_roleIn
theorem dX2_isTrue_0 : decode cX2_isTrue 0 = .ok (.iload_n 0, 1) := by decide +kernel
theorem dX2_isTrue_1 : decode cX2_isTrue 1 = .ok (.iload_n 2, 1) := by decide +kernel
theorem dX2_isTrue_2 : decode cX2_isTrue 2 = .ok (.invokestatic 56, 3) := by decide +kernel
theorem dX2_isTrue_5 : decode cX2_isTrue 5 = .ok (.istore_n 3, 1) := by decide +kernel
theorem dX2_isTrue_6 : decode cX2_isTrue 6 = .ok (.iload_n 1, 1) := by decide +kernel
theorem dX2_isTrue_7 : decode cX2_isTrue 7 = .ok (.ifCond .ne 16, 3) := by decide +kernel
theorem dX2_isTrue_10 : decode cX2_isTrue 10 = .ok (.iload_n 3, 1) := by decide +kernel
theorem dX2_isTrue_11 : decode cX2_isTrue 11 = .ok (.iconst 1, 1) := by decide +kernel
theorem dX2_isTrue_12 : decode cX2_isTrue 12 = .ok (.if_icmp .ne 7, 3) := by decide +kernel
theorem dX2_isTrue_15 : decode cX2_isTrue 15 = .ok (.iconst 1, 1) := by decide +kernel
theorem dX2_isTrue_16 : decode cX2_isTrue 16 = .ok (.goto 53, 3) := by decide +kernel
theorem dX2_isTrue_19 : decode cX2_isTrue 19 = .ok (.iconst 0, 1) := by decide +kernel
theorem dX2_isTrue_20 : decode cX2_isTrue 20 = .ok (.goto 49, 3) := by decide +kernel
theorem dX2_isTrue_23 : decode cX2_isTrue 23 = .ok (.iload_n 1, 1) := by decide +kernel
theorem dX2_isTrue_24 : decode cX2_isTrue 24 = .ok (.iconst 1, 1) := by decide +kernel
theorem dX2_isTrue_25 : decode cX2_isTrue 25 = .ok (.if_icmp .ne 16, 3) := by decide +kernel
theorem dX2_isTrue_28 : decode cX2_isTrue 28 = .ok (.iload_n 3, 1) := by decide +kernel
theorem dX2_isTrue_29 : decode cX2_isTrue 29 = .ok (.iconst 1, 1) := by decide +kernel
theorem dX2_isTrue_30 : decode cX2_isTrue 30 = .ok (.if_icmp .eq 7, 3) := by decide +kernel
theorem dX2_isTrue_33 : decode cX2_isTrue 33 = .ok (.iconst 1, 1) := by decide +kernel
theorem dX2_isTrue_34 : decode cX2_isTrue 34 = .ok (.goto 35, 3) := by decide +kernel
theorem dX2_isTrue_37 : decode cX2_isTrue 37 = .ok (.iconst 0, 1) := by decide +kernel
theorem dX2_isTrue_38 : decode cX2_isTrue 38 = .ok (.goto 31, 3) := by decide +kernel
theorem dX2_isTrue_41 : decode cX2_isTrue 41 = .ok (.iload_n 1, 1) := by decide +kernel
theorem dX2_isTrue_42 : decode cX2_isTrue 42 = .ok (.iconst 2, 1) := by decide +kernel
theorem dX2_isTrue_43 : decode cX2_isTrue 43 = .ok (.if_icmp .ne 16, 3) := by decide +kernel
theorem dX2_isTrue_46 : decode cX2_isTrue 46 = .ok (.iload_n 3, 1) := by decide +kernel
theorem dX2_isTrue_47 : decode cX2_isTrue 47 = .ok (.iconst 2, 1) := by decide +kernel
theorem dX2_isTrue_48 : decode cX2_isTrue 48 = .ok (.if_icmp .ne 7, 3) := by decide +kernel
theorem dX2_isTrue_51 : decode cX2_isTrue 51 = .ok (.iconst 1, 1) := by decide +kernel
theorem dX2_isTrue_52 : decode cX2_isTrue 52 = .ok (.goto 17, 3) := by decide +kernel
theorem dX2_isTrue_55 : decode cX2_isTrue 55 = .ok (.iconst 0, 1) := by decide +kernel
theorem dX2_isTrue_56 : decode cX2_isTrue 56 = .ok (.goto 13, 3) := by decide +kernel
theorem dX2_isTrue_59 : decode cX2_isTrue 59 = .ok (.iload_n 3, 1) := by decide +kernel
theorem dX2_isTrue_60 : decode cX2_isTrue 60 = .ok (.iconst 3, 1) := by decide +kernel
theorem dX2_isTrue_61 : decode cX2_isTrue 61 = .ok (.if_icmp .ne 7, 3) := by decide +kernel
theorem dX2_isTrue_64 : decode cX2_isTrue 64 = .ok (.iconst 1, 1) := by decide +kernel
theorem dX2_isTrue_65 : decode cX2_isTrue 65 = .ok (.goto 4, 3) := by decide +kernel
theorem dX2_isTrue_68 : decode cX2_isTrue 68 = .ok (.iconst 0, 1) := by decide +kernel
theorem dX2_isTrue_69 : decode cX2_isTrue 69 = .ok (.ireturn, 1) := by decide +kernel
set_option maxRecDepth 20000 in
theorem ggX2_may_X2_has : GoodIn wsX2_may wsX2_has := goodIn_r _ [7] (by decide +kernel) (by decide +kernel)
set_option maxRecDepth 20000 in
theorem gX2_may_X2_has : GoodIn wsX2_may (va_wsS RX2 39 yX2_has wsX2_has) := goodIn_app (goodIn_of _ (by decide +kernel)) ggX2_may_X2_has
theorem dX2_may_0 : decode cX2_may 0 = .ok (.aload_n 0, 1) := by decide +kernel
theorem dX2_may_1 : decode cX2_may 1 = .ok (.getfield 70, 3) := by decide +kernel
theorem dX2_may_4 : decode cX2_may 4 = .ok (.iconst 1, 1) := by decide +kernel
theorem dX2_may_5 : decode cX2_may 5 = .ok (.if_icmp .ne 33, 3) := by decide +kernel
theorem dX2_may_8 : decode cX2_may 8 = .ok (.aload_n 0, 1) := by decide +kernel
theorem dX2_may_9 : decode cX2_may 9 = .ok (.getfield 67, 3) := by decide +kernel
theorem dX2_may_12 : decode cX2_may 12 = .ok (.iload_n 1, 1) := by decide +kernel
theorem dX2_may_13 : decode cX2_may 13 = .ok (.invokestatic 39, 3) := by decide +kernel
theorem dX2_may_16 : decode cX2_may 16 = .ok (.ifCond .eq 22, 3) := by decide +kernel
theorem dX2_may_19 : decode cX2_may 19 = .ok (.iload_n 2, 1) := by decide +kernel
theorem dX2_may_20 : decode cX2_may 20 = .ok (.ifCond .ne 14, 3) := by decide +kernel
theorem dX2_may_23 : decode cX2_may 23 = .ok (.aload_n 0, 1) := by decide +kernel
theorem dX2_may_24 : decode cX2_may 24 = .ok (.getfield 43, 3) := by decide +kernel
theorem dX2_may_27 : decode cX2_may 27 = .ok (.iload_n 1, 1) := by decide +kernel
theorem dX2_may_28 : decode cX2_may 28 = .ok (.invokestatic 39, 3) := by decide +kernel
theorem dX2_may_31 : decode cX2_may 31 = .ok (.ifCond .eq 7, 3) := by decide +kernel
theorem dX2_may_34 : decode cX2_may 34 = .ok (.iconst 1, 1) := by decide +kernel
theorem dX2_may_35 : decode cX2_may 35 = .ok (.goto 4, 3) := by decide +kernel
theorem dX2_may_38 : decode cX2_may 38 = .ok (.iconst 0, 1) := by decide +kernel
theorem dX2_may_39 : decode cX2_may 39 = .ok (.ireturn, 1) := by decide +kernel
set_option maxRecDepth 20000 in
theorem ggX2_claim_X2_isPlayer : GoodIn wsX2_claim wsX2_isPlayer := goodIn_r _ [8, 9, 10, 11, 7, 12, 38, 39, 40, 41, 42, 43, 44, 45, 46, 47, 48, 49, 50, 51, 52, 53] (by decide +kernel) (by decide +kernel)
set_option maxRecDepth 20000 in
theorem gX2_claim_X2_isPlayer : GoodIn wsX2_claim (wsV RX2 31 RX2 yX2_isPlayer wsX2_isPlayer) := goodIn_app (goodIn_of _ (by decide +kernel)) ggX2_claim_X2_isPlayer
set_option maxRecDepth 20000 in
theorem ggX2_claim_X2_in : GoodIn wsX2_claim wsX2_in := goodIn_r _ [12] (by decide +kernel) (by decide +kernel)
set_option maxRecDepth 20000 in
theorem gX2_claim_X2_in : GoodIn wsX2_claim (va_wsS RX2 27 yX2_in wsX2_in) := goodIn_app (goodIn_of _ (by decide +kernel)) ggX2_claim_X2_in
set_option maxRecDepth 20000 in
theorem ggX2_claim_X2_truth : GoodIn wsX2_claim wsX2_truth := goodIn_r _ [16, 17, 18, 19, 38, 39, 40, 41, 42, 43, 44, 45, 46, 47, 48, 49, 50, 51, 52, 53] (by decide +kernel) (by decide +kernel)
set_option maxRecDepth 20000 in
theorem gX2_claim_X2_truth : GoodIn wsX2_claim (wsV RX2 52 RX2 yX2_truth wsX2_truth) := goodIn_app (goodIn_of _ (by decide +kernel)) ggX2_claim_X2_truth
set_option maxRecDepth 20000 in
theorem ggX2_claim_X2_isTrue : GoodIn wsX2_claim wsX2_isTrue := goodIn_r _ [22, 23, 24, 7, 25, 26, 27, 28] (by decide +kernel) (by decide +kernel)
set_option maxRecDepth 20000 in
theorem gX2_claim_X2_isTrue : GoodIn wsX2_claim (va_wsS RX2 94 yX2_isTrue wsX2_isTrue) := goodIn_app (goodIn_of _ (by decide +kernel)) ggX2_claim_X2_isTrue
set_option maxRecDepth 20000 in
theorem ggX2_claim_X2_may : GoodIn wsX2_claim wsX2_may := goodIn_r _ [32, 1, 33, 17, 26, 27, 7, 28, 38, 39, 40, 41, 42, 43, 44, 45, 46, 47, 48, 49, 50, 51, 52, 53] (by decide +kernel) (by decide +kernel)
set_option maxRecDepth 20000 in
theorem gX2_claim_X2_may : GoodIn wsX2_claim (wsV RX2 97 RX2 yX2_may wsX2_may) := goodIn_app (goodIn_of _ (by decide +kernel)) ggX2_claim_X2_may
set_option maxRecDepth 20000 in
theorem ggX2_claim_X2_has : GoodIn wsX2_claim wsX2_has := goodIn_r _ [28] (by decide +kernel) (by decide +kernel)
set_option maxRecDepth 20000 in
theorem gX2_claim_X2_has : GoodIn wsX2_claim (va_wsS RX2 39 yX2_has wsX2_has) := goodIn_app (goodIn_of _ (by decide +kernel)) ggX2_claim_X2_has
set_option maxRecDepth 20000 in
theorem ggX2_claim_X2_manyOpen : GoodIn wsX2_claim wsX2_manyOpen := goodIn_r _ [37, 3, 38, 39, 40, 41, 42, 43, 44, 45, 46, 47, 48, 49, 50, 51, 52, 53] (by decide +kernel) (by decide +kernel)
set_option maxRecDepth 20000 in
theorem gX2_claim_X2_manyOpen : GoodIn wsX2_claim (wsV RX2 82 RX2 yX2_manyOpen wsX2_manyOpen) := goodIn_app (goodIn_of _ (by decide +kernel)) ggX2_claim_X2_manyOpen
theorem dX2_claim_0 : decode cX2_claim 0 = .ok (.aload_n 0, 1) := by decide +kernel
theorem dX2_claim_1 : decode cX2_claim 1 = .ok (.aload_n 0, 1) := by decide +kernel
theorem dX2_claim_2 : decode cX2_claim 2 = .ok (.getfield 70, 3) := by decide +kernel
theorem dX2_claim_5 : decode cX2_claim 5 = .ok (.ifCond .ne 7, 3) := by decide +kernel
theorem dX2_claim_8 : decode cX2_claim 8 = .ok (.iconst 1, 1) := by decide +kernel
theorem dX2_claim_9 : decode cX2_claim 9 = .ok (.goto 58, 3) := by decide +kernel
theorem dX2_claim_12 : decode cX2_claim 12 = .ok (.aload_n 0, 1) := by decide +kernel
theorem dX2_claim_13 : decode cX2_claim 13 = .ok (.iload_n 1, 1) := by decide +kernel
theorem dX2_claim_14 : decode cX2_claim 14 = .ok (.invokevirtual 31, 3) := by decide +kernel
theorem dX2_claim_17 : decode cX2_claim 17 = .ok (.ifCond .eq 11, 3) := by decide +kernel
theorem dX2_claim_20 : decode cX2_claim 20 = .ok (.aload_n 0, 1) := by decide +kernel
theorem dX2_claim_21 : decode cX2_claim 21 = .ok (.iload_n 3, 1) := by decide +kernel
theorem dX2_claim_22 : decode cX2_claim 22 = .ok (.invokevirtual 31, 3) := by decide +kernel
theorem dX2_claim_25 : decode cX2_claim 25 = .ok (.ifCond .ne 7, 3) := by decide +kernel
theorem dX2_claim_28 : decode cX2_claim 28 = .ok (.iconst 2, 1) := by decide +kernel
theorem dX2_claim_29 : decode cX2_claim 29 = .ok (.goto 38, 3) := by decide +kernel
theorem dX2_claim_32 : decode cX2_claim 32 = .ok (.iload_n 2, 1) := by decide +kernel
theorem dX2_claim_33 : decode cX2_claim 33 = .ok (.iconst 0, 1) := by decide +kernel
theorem dX2_claim_34 : decode cX2_claim 34 = .ok (.iconst 3, 1) := by decide +kernel
theorem dX2_claim_35 : decode cX2_claim 35 = .ok (.invokestatic 27, 3) := by decide +kernel
theorem dX2_claim_38 : decode cX2_claim 38 = .ok (.ifCond .ne 7, 3) := by decide +kernel
theorem dX2_claim_41 : decode cX2_claim 41 = .ok (.iconst 3, 1) := by decide +kernel
theorem dX2_claim_42 : decode cX2_claim 42 = .ok (.goto 25, 3) := by decide +kernel
theorem dX2_claim_45 : decode cX2_claim 45 = .ok (.aload_n 0, 1) := by decide +kernel
theorem dX2_claim_46 : decode cX2_claim 46 = .ok (.iload_n 1, 1) := by decide +kernel
theorem dX2_claim_47 : decode cX2_claim 47 = .ok (.aload_n 0, 1) := by decide +kernel
theorem dX2_claim_48 : decode cX2_claim 48 = .ok (.invokevirtual 52, 3) := by decide +kernel
theorem dX2_claim_51 : decode cX2_claim 51 = .ok (.iload_n 2, 1) := by decide +kernel
theorem dX2_claim_52 : decode cX2_claim 52 = .ok (.iload_n 3, 1) := by decide +kernel
theorem dX2_claim_53 : decode cX2_claim 53 = .ok (.invokestatic 94, 3) := by decide +kernel
theorem dX2_claim_56 : decode cX2_claim 56 = .ok (.invokevirtual 97, 3) := by decide +kernel
theorem dX2_claim_59 : decode cX2_claim 59 = .ok (.ifCond .eq 7, 3) := by decide +kernel
theorem dX2_claim_62 : decode cX2_claim 62 = .ok (.iconst 0, 1) := by decide +kernel
theorem dX2_claim_63 : decode cX2_claim 63 = .ok (.goto 4, 3) := by decide +kernel
theorem dX2_claim_66 : decode cX2_claim 66 = .ok (.iconst 4, 1) := by decide +kernel
theorem dX2_claim_67 : decode cX2_claim 67 = .ok (.putfield 20, 3) := by decide +kernel
theorem dX2_claim_70 : decode cX2_claim 70 = .ok (.aload_n 0, 1) := by decide +kernel
theorem dX2_claim_71 : decode cX2_claim 71 = .ok (.getfield 20, 3) := by decide +kernel
theorem dX2_claim_74 : decode cX2_claim 74 = .ok (.ifCond .le 5, 3) := by decide +kernel
theorem dX2_claim_77 : decode cX2_claim 77 = .ok (.iconst 0, 1) := by decide +kernel
theorem dX2_claim_78 : decode cX2_claim 78 = .ok (.ireturn, 1) := by decide +kernel
theorem dX2_claim_79 : decode cX2_claim 79 = .ok (.iconst 0, 1) := by decide +kernel
theorem dX2_claim_80 : decode cX2_claim 80 = .ok (.istore 4, 2) := by decide +kernel
theorem dX2_claim_82 : decode cX2_claim 82 = .ok (.iload 4, 2) := by decide +kernel
theorem dX2_claim_84 : decode cX2_claim 84 = .ok (.sipush 16384, 3) := by decide +kernel
theorem dX2_claim_87 : decode cX2_claim 87 = .ok (.if_icmp .ge 53, 3) := by decide +kernel
theorem dX2_claim_90 : decode cX2_claim 90 = .ok (.aload_n 0, 1) := by decide +kernel
theorem dX2_claim_91 : decode cX2_claim 91 = .ok (.getfield 7, 3) := by decide +kernel
theorem dX2_claim_94 : decode cX2_claim 94 = .ok (.iload 4, 2) := by decide +kernel
theorem dX2_claim_96 : decode cX2_claim 96 = .ok (.aload_n 0, 1) := by decide +kernel
theorem dX2_claim_97 : decode cX2_claim 97 = .ok (.getfield 7, 3) := by decide +kernel
theorem dX2_claim_100 : decode cX2_claim 100 = .ok (.iload 4, 2) := by decide +kernel
theorem dX2_claim_102 : decode cX2_claim 102 = .ok (.baload, 1) := by decide +kernel
theorem dX2_claim_103 : decode cX2_claim 103 = .ok (.ifCond .eq 29, 3) := by decide +kernel
theorem dX2_claim_106 : decode cX2_claim 106 = .ok (.iload 4, 2) := by decide +kernel
theorem dX2_claim_108 : decode cX2_claim 108 = .ok (.bipush 64, 2) := by decide +kernel
theorem dX2_claim_110 : decode cX2_claim 110 = .ok (.idiv, 1) := by decide +kernel
theorem dX2_claim_111 : decode cX2_claim 111 = .ok (.iload_n 1, 1) := by decide +kernel
theorem dX2_claim_112 : decode cX2_claim 112 = .ok (.invokestatic 39, 3) := by decide +kernel
theorem dX2_claim_115 : decode cX2_claim 115 = .ok (.ifCond .ne 13, 3) := by decide +kernel
theorem dX2_claim_118 : decode cX2_claim 118 = .ok (.iload 4, 2) := by decide +kernel
theorem dX2_claim_120 : decode cX2_claim 120 = .ok (.iload_n 2, 1) := by decide +kernel
theorem dX2_claim_121 : decode cX2_claim 121 = .ok (.iload_n 3, 1) := by decide +kernel
theorem dX2_claim_122 : decode cX2_claim 122 = .ok (.invokestatic 94, 3) := by decide +kernel
theorem dX2_claim_125 : decode cX2_claim 125 = .ok (.ifCond .eq 7, 3) := by decide +kernel
theorem dX2_claim_128 : decode cX2_claim 128 = .ok (.iconst 1, 1) := by decide +kernel
theorem dX2_claim_129 : decode cX2_claim 129 = .ok (.goto 4, 3) := by decide +kernel
theorem dX2_claim_132 : decode cX2_claim 132 = .ok (.iconst 0, 1) := by decide +kernel
theorem dX2_claim_133 : decode cX2_claim 133 = .ok (.bastore, 1) := by decide +kernel
theorem dX2_claim_134 : decode cX2_claim 134 = .ok (.iinc 4 1, 3) := by decide +kernel
theorem dX2_claim_137 : decode cX2_claim 137 = .ok (.goto (-55), 3) := by decide +kernel
theorem dX2_claim_140 : decode cX2_claim 140 = .ok (.aload_n 0, 1) := by decide +kernel
theorem dX2_claim_141 : decode cX2_claim 141 = .ok (.invokevirtual 82, 3) := by decide +kernel
theorem dX2_claim_144 : decode cX2_claim 144 = .ok (.ireturn, 1) := by decide +kernel
set_option maxRecDepth 20000 in
theorem ggX2_claimAmong_X2_isPlayer : GoodIn wsX2_claimAmong wsX2_isPlayer := goodIn_r _ [10, 2, 11, 12, 9, 13, 26, 27, 28, 29, 30, 31, 32, 33, 34, 35, 36, 37, 38, 39, 40, 41] (by decide +kernel) (by decide +kernel)
set_option maxRecDepth 20000 in
theorem gX2_claimAmong_X2_isPlayer : GoodIn wsX2_claimAmong (wsV RX2 31 RX2 yX2_isPlayer wsX2_isPlayer) := goodIn_app (goodIn_of _ (by decide +kernel)) ggX2_claimAmong_X2_isPlayer
set_option maxRecDepth 20000 in
theorem ggX2_claimAmong_X2_in : GoodIn wsX2_claimAmong wsX2_in := goodIn_r _ [13] (by decide +kernel) (by decide +kernel)
set_option maxRecDepth 20000 in
theorem gX2_claimAmong_X2_in : GoodIn wsX2_claimAmong (va_wsS RX2 27 yX2_in wsX2_in) := goodIn_app (goodIn_of _ (by decide +kernel)) ggX2_claimAmong_X2_in
set_option maxRecDepth 20000 in
theorem ggX2_claimAmong_X2_may : GoodIn wsX2_claimAmong wsX2_may := goodIn_r _ [17, 1, 18, 3, 19, 20, 9, 21, 26, 27, 28, 29, 30, 31, 32, 33, 34, 35, 36, 37, 38, 39, 40, 41] (by decide +kernel) (by decide +kernel)
set_option maxRecDepth 20000 in
theorem gX2_claimAmong_X2_may : GoodIn wsX2_claimAmong (wsV RX2 97 RX2 yX2_may wsX2_may) := goodIn_app (goodIn_of _ (by decide +kernel)) ggX2_claimAmong_X2_may
set_option maxRecDepth 20000 in
theorem ggX2_claimAmong_X2_has : GoodIn wsX2_claimAmong wsX2_has := goodIn_r _ [21] (by decide +kernel) (by decide +kernel)
set_option maxRecDepth 20000 in
theorem gX2_claimAmong_X2_has : GoodIn wsX2_claimAmong (va_wsS RX2 39 yX2_has wsX2_has) := goodIn_app (goodIn_of _ (by decide +kernel)) ggX2_claimAmong_X2_has
set_option maxRecDepth 20000 in
theorem ggX2_claimAmong_X2_manyOpen : GoodIn wsX2_claimAmong wsX2_manyOpen := goodIn_r _ [25, 5, 26, 27, 28, 29, 30, 31, 32, 33, 34, 35, 36, 37, 38, 39, 40, 41] (by decide +kernel) (by decide +kernel)
set_option maxRecDepth 20000 in
theorem gX2_claimAmong_X2_manyOpen : GoodIn wsX2_claimAmong (wsV RX2 82 RX2 yX2_manyOpen wsX2_manyOpen) := goodIn_app (goodIn_of _ (by decide +kernel)) ggX2_claimAmong_X2_manyOpen
theorem dX2_claimAmong_0 : decode cX2_claimAmong 0 = .ok (.aload_n 0, 1) := by decide +kernel
theorem dX2_claimAmong_1 : decode cX2_claimAmong 1 = .ok (.aload_n 0, 1) := by decide +kernel
theorem dX2_claimAmong_2 : decode cX2_claimAmong 2 = .ok (.getfield 70, 3) := by decide +kernel
theorem dX2_claimAmong_5 : decode cX2_claimAmong 5 = .ok (.ifCond .ne 7, 3) := by decide +kernel
theorem dX2_claimAmong_8 : decode cX2_claimAmong 8 = .ok (.iconst 1, 1) := by decide +kernel
theorem dX2_claimAmong_9 : decode cX2_claimAmong 9 = .ok (.goto 62, 3) := by decide +kernel
theorem dX2_claimAmong_12 : decode cX2_claimAmong 12 = .ok (.aload_n 0, 1) := by decide +kernel
theorem dX2_claimAmong_13 : decode cX2_claimAmong 13 = .ok (.iload_n 1, 1) := by decide +kernel
theorem dX2_claimAmong_14 : decode cX2_claimAmong 14 = .ok (.invokevirtual 31, 3) := by decide +kernel
theorem dX2_claimAmong_17 : decode cX2_claimAmong 17 = .ok (.ifCond .ne 7, 3) := by decide +kernel
theorem dX2_claimAmong_20 : decode cX2_claimAmong 20 = .ok (.iconst 2, 1) := by decide +kernel
theorem dX2_claimAmong_21 : decode cX2_claimAmong 21 = .ok (.goto 50, 3) := by decide +kernel
theorem dX2_claimAmong_24 : decode cX2_claimAmong 24 = .ok (.iload_n 2, 1) := by decide +kernel
theorem dX2_claimAmong_25 : decode cX2_claimAmong 25 = .ok (.iconst 0, 1) := by decide +kernel
theorem dX2_claimAmong_26 : decode cX2_claimAmong 26 = .ok (.iconst 1, 1) := by decide +kernel
theorem dX2_claimAmong_27 : decode cX2_claimAmong 27 = .ok (.aload_n 0, 1) := by decide +kernel
theorem dX2_claimAmong_28 : decode cX2_claimAmong 28 = .ok (.getfield 24, 3) := by decide +kernel
theorem dX2_claimAmong_31 : decode cX2_claimAmong 31 = .ok (.ishl, 1) := by decide +kernel
theorem dX2_claimAmong_32 : decode cX2_claimAmong 32 = .ok (.iconst 1, 1) := by decide +kernel
theorem dX2_claimAmong_33 : decode cX2_claimAmong 33 = .ok (.isub, 1) := by decide +kernel
theorem dX2_claimAmong_34 : decode cX2_claimAmong 34 = .ok (.invokestatic 27, 3) := by decide +kernel
theorem dX2_claimAmong_37 : decode cX2_claimAmong 37 = .ok (.ifCond .ne 7, 3) := by decide +kernel
theorem dX2_claimAmong_40 : decode cX2_claimAmong 40 = .ok (.iconst 3, 1) := by decide +kernel
theorem dX2_claimAmong_41 : decode cX2_claimAmong 41 = .ok (.goto 30, 3) := by decide +kernel
theorem dX2_claimAmong_44 : decode cX2_claimAmong 44 = .ok (.aload_n 0, 1) := by decide +kernel
theorem dX2_claimAmong_45 : decode cX2_claimAmong 45 = .ok (.iload_n 1, 1) := by decide +kernel
theorem dX2_claimAmong_46 : decode cX2_claimAmong 46 = .ok (.aload_n 0, 1) := by decide +kernel
theorem dX2_claimAmong_47 : decode cX2_claimAmong 47 = .ok (.getfield 43, 3) := by decide +kernel
theorem dX2_claimAmong_50 : decode cX2_claimAmong 50 = .ok (.iload_n 2, 1) := by decide +kernel
theorem dX2_claimAmong_51 : decode cX2_claimAmong 51 = .ok (.iand, 1) := by decide +kernel
theorem dX2_claimAmong_52 : decode cX2_claimAmong 52 = .ok (.ifCond .eq 7, 3) := by decide +kernel
theorem dX2_claimAmong_55 : decode cX2_claimAmong 55 = .ok (.iconst 1, 1) := by decide +kernel
theorem dX2_claimAmong_56 : decode cX2_claimAmong 56 = .ok (.goto 4, 3) := by decide +kernel
theorem dX2_claimAmong_59 : decode cX2_claimAmong 59 = .ok (.iconst 0, 1) := by decide +kernel
theorem dX2_claimAmong_60 : decode cX2_claimAmong 60 = .ok (.invokevirtual 97, 3) := by decide +kernel
theorem dX2_claimAmong_63 : decode cX2_claimAmong 63 = .ok (.ifCond .eq 7, 3) := by decide +kernel
theorem dX2_claimAmong_66 : decode cX2_claimAmong 66 = .ok (.iconst 0, 1) := by decide +kernel
theorem dX2_claimAmong_67 : decode cX2_claimAmong 67 = .ok (.goto 4, 3) := by decide +kernel
theorem dX2_claimAmong_70 : decode cX2_claimAmong 70 = .ok (.iconst 4, 1) := by decide +kernel
theorem dX2_claimAmong_71 : decode cX2_claimAmong 71 = .ok (.putfield 20, 3) := by decide +kernel
theorem dX2_claimAmong_74 : decode cX2_claimAmong 74 = .ok (.aload_n 0, 1) := by decide +kernel
theorem dX2_claimAmong_75 : decode cX2_claimAmong 75 = .ok (.getfield 20, 3) := by decide +kernel
theorem dX2_claimAmong_78 : decode cX2_claimAmong 78 = .ok (.ifCond .le 5, 3) := by decide +kernel
theorem dX2_claimAmong_81 : decode cX2_claimAmong 81 = .ok (.iconst 0, 1) := by decide +kernel
theorem dX2_claimAmong_82 : decode cX2_claimAmong 82 = .ok (.ireturn, 1) := by decide +kernel
theorem dX2_claimAmong_83 : decode cX2_claimAmong 83 = .ok (.iconst 0, 1) := by decide +kernel
theorem dX2_claimAmong_84 : decode cX2_claimAmong 84 = .ok (.istore_n 3, 1) := by decide +kernel
theorem dX2_claimAmong_85 : decode cX2_claimAmong 85 = .ok (.iload_n 3, 1) := by decide +kernel
theorem dX2_claimAmong_86 : decode cX2_claimAmong 86 = .ok (.sipush 16384, 3) := by decide +kernel
theorem dX2_claimAmong_89 : decode cX2_claimAmong 89 = .ok (.if_icmp .ge 49, 3) := by decide +kernel
theorem dX2_claimAmong_92 : decode cX2_claimAmong 92 = .ok (.aload_n 0, 1) := by decide +kernel
theorem dX2_claimAmong_93 : decode cX2_claimAmong 93 = .ok (.getfield 7, 3) := by decide +kernel
theorem dX2_claimAmong_96 : decode cX2_claimAmong 96 = .ok (.iload_n 3, 1) := by decide +kernel
theorem dX2_claimAmong_97 : decode cX2_claimAmong 97 = .ok (.aload_n 0, 1) := by decide +kernel
theorem dX2_claimAmong_98 : decode cX2_claimAmong 98 = .ok (.getfield 7, 3) := by decide +kernel
theorem dX2_claimAmong_101 : decode cX2_claimAmong 101 = .ok (.iload_n 3, 1) := by decide +kernel
theorem dX2_claimAmong_102 : decode cX2_claimAmong 102 = .ok (.baload, 1) := by decide +kernel
theorem dX2_claimAmong_103 : decode cX2_claimAmong 103 = .ok (.ifCond .eq 27, 3) := by decide +kernel
theorem dX2_claimAmong_106 : decode cX2_claimAmong 106 = .ok (.iload_n 3, 1) := by decide +kernel
theorem dX2_claimAmong_107 : decode cX2_claimAmong 107 = .ok (.bipush 64, 2) := by decide +kernel
theorem dX2_claimAmong_109 : decode cX2_claimAmong 109 = .ok (.idiv, 1) := by decide +kernel
theorem dX2_claimAmong_110 : decode cX2_claimAmong 110 = .ok (.iload_n 1, 1) := by decide +kernel
theorem dX2_claimAmong_111 : decode cX2_claimAmong 111 = .ok (.invokestatic 39, 3) := by decide +kernel
theorem dX2_claimAmong_114 : decode cX2_claimAmong 114 = .ok (.ifCond .ne 12, 3) := by decide +kernel
theorem dX2_claimAmong_117 : decode cX2_claimAmong 117 = .ok (.iload_n 3, 1) := by decide +kernel
theorem dX2_claimAmong_118 : decode cX2_claimAmong 118 = .ok (.bipush 64, 2) := by decide +kernel
theorem dX2_claimAmong_120 : decode cX2_claimAmong 120 = .ok (.idiv, 1) := by decide +kernel
theorem dX2_claimAmong_121 : decode cX2_claimAmong 121 = .ok (.iload_n 2, 1) := by decide +kernel
theorem dX2_claimAmong_122 : decode cX2_claimAmong 122 = .ok (.iand, 1) := by decide +kernel
theorem dX2_claimAmong_123 : decode cX2_claimAmong 123 = .ok (.ifCond .eq 7, 3) := by decide +kernel
theorem dX2_claimAmong_126 : decode cX2_claimAmong 126 = .ok (.iconst 1, 1) := by decide +kernel
theorem dX2_claimAmong_127 : decode cX2_claimAmong 127 = .ok (.goto 4, 3) := by decide +kernel
theorem dX2_claimAmong_130 : decode cX2_claimAmong 130 = .ok (.iconst 0, 1) := by decide +kernel
theorem dX2_claimAmong_131 : decode cX2_claimAmong 131 = .ok (.bastore, 1) := by decide +kernel
theorem dX2_claimAmong_132 : decode cX2_claimAmong 132 = .ok (.iinc 3 1, 3) := by decide +kernel
theorem dX2_claimAmong_135 : decode cX2_claimAmong 135 = .ok (.goto (-50), 3) := by decide +kernel
theorem dX2_claimAmong_138 : decode cX2_claimAmong 138 = .ok (.aload_n 0, 1) := by decide +kernel
theorem dX2_claimAmong_139 : decode cX2_claimAmong 139 = .ok (.invokevirtual 82, 3) := by decide +kernel
theorem dX2_claimAmong_142 : decode cX2_claimAmong 142 = .ok (.ireturn, 1) := by decide +kernel
theorem dX2_manyVotes_0 : decode cX2_manyVotes 0 = .ok (.iconst 0, 1) := by decide +kernel
theorem dX2_manyVotes_1 : decode cX2_manyVotes 1 = .ok (.istore_n 2, 1) := by decide +kernel
theorem dX2_manyVotes_2 : decode cX2_manyVotes 2 = .ok (.iconst 0, 1) := by decide +kernel
theorem dX2_manyVotes_3 : decode cX2_manyVotes 3 = .ok (.istore_n 3, 1) := by decide +kernel
theorem dX2_manyVotes_4 : decode cX2_manyVotes 4 = .ok (.iload_n 3, 1) := by decide +kernel
theorem dX2_manyVotes_5 : decode cX2_manyVotes 5 = .ok (.bipush 8, 2) := by decide +kernel
theorem dX2_manyVotes_7 : decode cX2_manyVotes 7 = .ok (.if_icmp .ge 27, 3) := by decide +kernel
theorem dX2_manyVotes_10 : decode cX2_manyVotes 10 = .ok (.iload_n 2, 1) := by decide +kernel
theorem dX2_manyVotes_11 : decode cX2_manyVotes 11 = .ok (.aload_n 0, 1) := by decide +kernel
theorem dX2_manyVotes_12 : decode cX2_manyVotes 12 = .ok (.getfield 13, 3) := by decide +kernel
theorem dX2_manyVotes_15 : decode cX2_manyVotes 15 = .ok (.iload_n 3, 1) := by decide +kernel
theorem dX2_manyVotes_16 : decode cX2_manyVotes 16 = .ok (.iaload, 1) := by decide +kernel
theorem dX2_manyVotes_17 : decode cX2_manyVotes 17 = .ok (.iload_n 1, 1) := by decide +kernel
theorem dX2_manyVotes_18 : decode cX2_manyVotes 18 = .ok (.if_icmp .ne 7, 3) := by decide +kernel
theorem dX2_manyVotes_21 : decode cX2_manyVotes 21 = .ok (.iconst 1, 1) := by decide +kernel
theorem dX2_manyVotes_22 : decode cX2_manyVotes 22 = .ok (.goto 4, 3) := by decide +kernel
theorem dX2_manyVotes_25 : decode cX2_manyVotes 25 = .ok (.iconst 0, 1) := by decide +kernel
theorem dX2_manyVotes_26 : decode cX2_manyVotes 26 = .ok (.iadd, 1) := by decide +kernel
theorem dX2_manyVotes_27 : decode cX2_manyVotes 27 = .ok (.istore_n 2, 1) := by decide +kernel
theorem dX2_manyVotes_28 : decode cX2_manyVotes 28 = .ok (.iinc 3 1, 3) := by decide +kernel
theorem dX2_manyVotes_31 : decode cX2_manyVotes 31 = .ok (.goto (-27), 3) := by decide +kernel
theorem dX2_manyVotes_34 : decode cX2_manyVotes 34 = .ok (.iload_n 2, 1) := by decide +kernel
theorem dX2_manyVotes_35 : decode cX2_manyVotes 35 = .ok (.ireturn, 1) := by decide +kernel
set_option maxRecDepth 20000 in
theorem ggX2_vote_X2_isPlayer : GoodIn wsX2_vote wsX2_isPlayer := goodIn_r _ [9, 10, 11, 12, 8, 13, 21, 22, 23, 24, 25, 26, 27, 28, 29, 30, 31, 32, 33, 34, 35, 36] (by decide +kernel) (by decide +kernel)
set_option maxRecDepth 20000 in
theorem gX2_vote_X2_isPlayer : GoodIn wsX2_vote (wsV RX2 31 RX2 yX2_isPlayer wsX2_isPlayer) := goodIn_app (goodIn_of _ (by decide +kernel)) ggX2_vote_X2_isPlayer
set_option maxRecDepth 20000 in
theorem ggX2_vote_X2_has : GoodIn wsX2_vote wsX2_has := goodIn_r _ [16] (by decide +kernel) (by decide +kernel)
set_option maxRecDepth 20000 in
theorem gX2_vote_X2_has : GoodIn wsX2_vote (va_wsS RX2 39 yX2_has wsX2_has) := goodIn_app (goodIn_of _ (by decide +kernel)) ggX2_vote_X2_has
set_option maxRecDepth 20000 in
theorem ggX2_vote_X2_manyVotes : GoodIn wsX2_vote wsX2_manyVotes := goodIn_r _ [20, 4, 21, 22, 23, 24, 25, 26, 27, 28, 29, 30, 31, 32, 33, 34, 35, 36] (by decide +kernel) (by decide +kernel)
set_option maxRecDepth 20000 in
theorem gX2_vote_X2_manyVotes : GoodIn wsX2_vote (wsV RX2 101 RX2 yX2_manyVotes wsX2_manyVotes) := goodIn_app (goodIn_of _ (by decide +kernel)) ggX2_vote_X2_manyVotes
theorem dX2_vote_0 : decode cX2_vote 0 = .ok (.aload_n 0, 1) := by decide +kernel
theorem dX2_vote_1 : decode cX2_vote 1 = .ok (.aload_n 0, 1) := by decide +kernel
theorem dX2_vote_2 : decode cX2_vote 2 = .ok (.getfield 70, 3) := by decide +kernel
theorem dX2_vote_5 : decode cX2_vote 5 = .ok (.iconst 1, 1) := by decide +kernel
theorem dX2_vote_6 : decode cX2_vote 6 = .ok (.if_icmp .eq 7, 3) := by decide +kernel
theorem dX2_vote_9 : decode cX2_vote 9 = .ok (.iconst 1, 1) := by decide +kernel
theorem dX2_vote_10 : decode cX2_vote 10 = .ok (.goto 50, 3) := by decide +kernel
theorem dX2_vote_13 : decode cX2_vote 13 = .ok (.aload_n 0, 1) := by decide +kernel
theorem dX2_vote_14 : decode cX2_vote 14 = .ok (.iload_n 1, 1) := by decide +kernel
theorem dX2_vote_15 : decode cX2_vote 15 = .ok (.invokevirtual 31, 3) := by decide +kernel
theorem dX2_vote_18 : decode cX2_vote 18 = .ok (.ifCond .eq 11, 3) := by decide +kernel
theorem dX2_vote_21 : decode cX2_vote 21 = .ok (.aload_n 0, 1) := by decide +kernel
theorem dX2_vote_22 : decode cX2_vote 22 = .ok (.iload_n 2, 1) := by decide +kernel
theorem dX2_vote_23 : decode cX2_vote 23 = .ok (.invokevirtual 31, 3) := by decide +kernel
theorem dX2_vote_26 : decode cX2_vote 26 = .ok (.ifCond .ne 7, 3) := by decide +kernel
theorem dX2_vote_29 : decode cX2_vote 29 = .ok (.iconst 2, 1) := by decide +kernel
theorem dX2_vote_30 : decode cX2_vote 30 = .ok (.goto 30, 3) := by decide +kernel
theorem dX2_vote_33 : decode cX2_vote 33 = .ok (.aload_n 0, 1) := by decide +kernel
theorem dX2_vote_34 : decode cX2_vote 34 = .ok (.getfield 67, 3) := by decide +kernel
theorem dX2_vote_37 : decode cX2_vote 37 = .ok (.iload_n 1, 1) := by decide +kernel
theorem dX2_vote_38 : decode cX2_vote 38 = .ok (.invokestatic 39, 3) := by decide +kernel
theorem dX2_vote_41 : decode cX2_vote 41 = .ok (.ifCond .eq 18, 3) := by decide +kernel
theorem dX2_vote_44 : decode cX2_vote 44 = .ok (.aload_n 0, 1) := by decide +kernel
theorem dX2_vote_45 : decode cX2_vote 45 = .ok (.getfield 67, 3) := by decide +kernel
theorem dX2_vote_48 : decode cX2_vote 48 = .ok (.iload_n 2, 1) := by decide +kernel
theorem dX2_vote_49 : decode cX2_vote 49 = .ok (.invokestatic 39, 3) := by decide +kernel
theorem dX2_vote_52 : decode cX2_vote 52 = .ok (.ifCond .eq 7, 3) := by decide +kernel
theorem dX2_vote_55 : decode cX2_vote 55 = .ok (.iconst 0, 1) := by decide +kernel
theorem dX2_vote_56 : decode cX2_vote 56 = .ok (.goto 4, 3) := by decide +kernel
theorem dX2_vote_59 : decode cX2_vote 59 = .ok (.iconst 3, 1) := by decide +kernel
theorem dX2_vote_60 : decode cX2_vote 60 = .ok (.putfield 20, 3) := by decide +kernel
theorem dX2_vote_63 : decode cX2_vote 63 = .ok (.aload_n 0, 1) := by decide +kernel
theorem dX2_vote_64 : decode cX2_vote 64 = .ok (.getfield 20, 3) := by decide +kernel
theorem dX2_vote_67 : decode cX2_vote 67 = .ok (.ifCond .le 5, 3) := by decide +kernel
theorem dX2_vote_70 : decode cX2_vote 70 = .ok (.iconst 0, 1) := by decide +kernel
theorem dX2_vote_71 : decode cX2_vote 71 = .ok (.ireturn, 1) := by decide +kernel
theorem dX2_vote_72 : decode cX2_vote 72 = .ok (.aload_n 0, 1) := by decide +kernel
theorem dX2_vote_73 : decode cX2_vote 73 = .ok (.getfield 13, 3) := by decide +kernel
theorem dX2_vote_76 : decode cX2_vote 76 = .ok (.iload_n 1, 1) := by decide +kernel
theorem dX2_vote_77 : decode cX2_vote 77 = .ok (.iload_n 2, 1) := by decide +kernel
theorem dX2_vote_78 : decode cX2_vote 78 = .ok (.iastore, 1) := by decide +kernel
theorem dX2_vote_79 : decode cX2_vote 79 = .ok (.aload_n 0, 1) := by decide +kernel
theorem dX2_vote_80 : decode cX2_vote 80 = .ok (.iload_n 2, 1) := by decide +kernel
theorem dX2_vote_81 : decode cX2_vote 81 = .ok (.invokevirtual 101, 3) := by decide +kernel
theorem dX2_vote_84 : decode cX2_vote 84 = .ok (.ireturn, 1) := by decide +kernel
set_option maxRecDepth 20000 in
theorem ggX2_dies_X2_truth : GoodIn wsX2_dies wsX2_truth := goodIn_r _ [9, 3, 10, 11, 21, 22, 23, 24, 25, 26, 27, 28, 29, 30, 31, 32, 33, 34, 35, 36] (by decide +kernel) (by decide +kernel)
set_option maxRecDepth 20000 in
theorem gX2_dies_X2_truth : GoodIn wsX2_dies (wsV RX2 52 RX2 yX2_truth wsX2_truth) := goodIn_app (goodIn_of _ (by decide +kernel)) ggX2_dies_X2_truth
set_option maxRecDepth 20000 in
theorem ggX2_dies_X2_roleIn : GoodIn wsX2_dies wsX2_roleIn := goodIn_r _ [14, 15, 16, 8, 17] (by decide +kernel) (by decide +kernel)
set_option maxRecDepth 20000 in
theorem gX2_dies_X2_roleIn : GoodIn wsX2_dies (va_wsS RX2 56 yX2_roleIn wsX2_roleIn) := goodIn_app (goodIn_of _ (by decide +kernel)) ggX2_dies_X2_roleIn
set_option maxRecDepth 20000 in
theorem ggX2_dies_X2_bits : GoodIn wsX2_dies wsX2_bits := goodIn_r _ [20] (by decide +kernel) (by decide +kernel)
set_option maxRecDepth 20000 in
theorem gX2_dies_X2_bits : GoodIn wsX2_dies (va_wsS RX2 35 yX2_bits wsX2_bits) := goodIn_app (goodIn_of _ (by decide +kernel)) ggX2_dies_X2_bits
theorem dX2_dies_0 : decode cX2_dies 0 = .ok (.aload_n 0, 1) := by decide +kernel
theorem dX2_dies_1 : decode cX2_dies 1 = .ok (.dup, 1) := by decide +kernel
theorem dX2_dies_2 : decode cX2_dies 2 = .ok (.getfield 67, 3) := by decide +kernel
theorem dX2_dies_5 : decode cX2_dies 5 = .ok (.iconst 1, 1) := by decide +kernel
theorem dX2_dies_6 : decode cX2_dies 6 = .ok (.iload_n 1, 1) := by decide +kernel
theorem dX2_dies_7 : decode cX2_dies 7 = .ok (.ishl, 1) := by decide +kernel
theorem dX2_dies_8 : decode cX2_dies 8 = .ok (.iconst (-1), 1) := by decide +kernel
theorem dX2_dies_9 : decode cX2_dies 9 = .ok (.ixor, 1) := by decide +kernel
theorem dX2_dies_10 : decode cX2_dies 10 = .ok (.iand, 1) := by decide +kernel
theorem dX2_dies_11 : decode cX2_dies 11 = .ok (.putfield 67, 3) := by decide +kernel
theorem dX2_dies_14 : decode cX2_dies 14 = .ok (.aload_n 0, 1) := by decide +kernel
theorem dX2_dies_15 : decode cX2_dies 15 = .ok (.invokevirtual 52, 3) := by decide +kernel
theorem dX2_dies_18 : decode cX2_dies 18 = .ok (.iload_n 1, 1) := by decide +kernel
theorem dX2_dies_19 : decode cX2_dies 19 = .ok (.invokestatic 56, 3) := by decide +kernel
theorem dX2_dies_22 : decode cX2_dies 22 = .ok (.istore_n 2, 1) := by decide +kernel
theorem dX2_dies_23 : decode cX2_dies 23 = .ok (.iconst 0, 1) := by decide +kernel
theorem dX2_dies_24 : decode cX2_dies 24 = .ok (.istore_n 3, 1) := by decide +kernel
theorem dX2_dies_25 : decode cX2_dies 25 = .ok (.iload_n 3, 1) := by decide +kernel
theorem dX2_dies_26 : decode cX2_dies 26 = .ok (.sipush 16384, 3) := by decide +kernel
theorem dX2_dies_29 : decode cX2_dies 29 = .ok (.if_icmp .ge 38, 3) := by decide +kernel
theorem dX2_dies_32 : decode cX2_dies 32 = .ok (.aload_n 0, 1) := by decide +kernel
theorem dX2_dies_33 : decode cX2_dies 33 = .ok (.getfield 7, 3) := by decide +kernel
theorem dX2_dies_36 : decode cX2_dies 36 = .ok (.iload_n 3, 1) := by decide +kernel
theorem dX2_dies_37 : decode cX2_dies 37 = .ok (.aload_n 0, 1) := by decide +kernel
theorem dX2_dies_38 : decode cX2_dies 38 = .ok (.getfield 7, 3) := by decide +kernel
theorem dX2_dies_41 : decode cX2_dies 41 = .ok (.iload_n 3, 1) := by decide +kernel
theorem dX2_dies_42 : decode cX2_dies 42 = .ok (.baload, 1) := by decide +kernel
theorem dX2_dies_43 : decode cX2_dies 43 = .ok (.ifCond .eq 16, 3) := by decide +kernel
theorem dX2_dies_46 : decode cX2_dies 46 = .ok (.iload_n 3, 1) := by decide +kernel
theorem dX2_dies_47 : decode cX2_dies 47 = .ok (.iload_n 1, 1) := by decide +kernel
theorem dX2_dies_48 : decode cX2_dies 48 = .ok (.invokestatic 56, 3) := by decide +kernel
theorem dX2_dies_51 : decode cX2_dies 51 = .ok (.iload_n 2, 1) := by decide +kernel
theorem dX2_dies_52 : decode cX2_dies 52 = .ok (.if_icmp .ne 7, 3) := by decide +kernel
theorem dX2_dies_55 : decode cX2_dies 55 = .ok (.iconst 1, 1) := by decide +kernel
theorem dX2_dies_56 : decode cX2_dies 56 = .ok (.goto 4, 3) := by decide +kernel
theorem dX2_dies_59 : decode cX2_dies 59 = .ok (.iconst 0, 1) := by decide +kernel
theorem dX2_dies_60 : decode cX2_dies 60 = .ok (.bastore, 1) := by decide +kernel
theorem dX2_dies_61 : decode cX2_dies 61 = .ok (.iinc 3 1, 3) := by decide +kernel
theorem dX2_dies_64 : decode cX2_dies 64 = .ok (.goto (-39), 3) := by decide +kernel
theorem dX2_dies_67 : decode cX2_dies 67 = .ok (.aload_n 0, 1) := by decide +kernel
theorem dX2_dies_68 : decode cX2_dies 68 = .ok (.getfield 67, 3) := by decide +kernel
theorem dX2_dies_71 : decode cX2_dies 71 = .ok (.aload_n 0, 1) := by decide +kernel
theorem dX2_dies_72 : decode cX2_dies 72 = .ok (.getfield 43, 3) := by decide +kernel
theorem dX2_dies_75 : decode cX2_dies 75 = .ok (.iand, 1) := by decide +kernel
theorem dX2_dies_76 : decode cX2_dies 76 = .ok (.invokestatic 35, 3) := by decide +kernel
theorem dX2_dies_79 : decode cX2_dies 79 = .ok (.istore_n 3, 1) := by decide +kernel
theorem dX2_dies_80 : decode cX2_dies 80 = .ok (.aload_n 0, 1) := by decide +kernel
theorem dX2_dies_81 : decode cX2_dies 81 = .ok (.iload_n 3, 1) := by decide +kernel
theorem dX2_dies_82 : decode cX2_dies 82 = .ok (.ifCond .ne 7, 3) := by decide +kernel
theorem dX2_dies_85 : decode cX2_dies 85 = .ok (.iconst 3, 1) := by decide +kernel
theorem dX2_dies_86 : decode cX2_dies 86 = .ok (.goto 24, 3) := by decide +kernel
theorem dX2_dies_89 : decode cX2_dies 89 = .ok (.iconst 2, 1) := by decide +kernel
theorem dX2_dies_90 : decode cX2_dies 90 = .ok (.iload_n 3, 1) := by decide +kernel
theorem dX2_dies_91 : decode cX2_dies 91 = .ok (.imul, 1) := by decide +kernel
theorem dX2_dies_92 : decode cX2_dies 92 = .ok (.aload_n 0, 1) := by decide +kernel
theorem dX2_dies_93 : decode cX2_dies 93 = .ok (.getfield 67, 3) := by decide +kernel
theorem dX2_dies_96 : decode cX2_dies 96 = .ok (.invokestatic 35, 3) := by decide +kernel
theorem dX2_dies_99 : decode cX2_dies 99 = .ok (.if_icmp .lt 7, 3) := by decide +kernel
theorem dX2_dies_102 : decode cX2_dies 102 = .ok (.iconst 4, 1) := by decide +kernel
theorem dX2_dies_103 : decode cX2_dies 103 = .ok (.goto 7, 3) := by decide +kernel
theorem dX2_dies_106 : decode cX2_dies 106 = .ok (.aload_n 0, 1) := by decide +kernel
theorem dX2_dies_107 : decode cX2_dies 107 = .ok (.getfield 70, 3) := by decide +kernel
theorem dX2_dies_110 : decode cX2_dies 110 = .ok (.putfield 70, 3) := by decide +kernel
theorem dX2_dies_113 : decode cX2_dies 113 = .ok (.return_, 1) := by decide +kernel
set_option maxRecDepth 20000 in
theorem ggX2_closeVote_X2_manyVotes : GoodIn wsX2_closeVote wsX2_manyVotes := goodIn_r _ [8, 9, 39, 40, 41, 42, 43, 44, 45, 46, 47, 48, 49, 50, 51, 52, 53, 54] (by decide +kernel) (by decide +kernel)
set_option maxRecDepth 20000 in
theorem gX2_closeVote_X2_manyVotes : GoodIn wsX2_closeVote (wsV RX2 101 RX2 yX2_manyVotes wsX2_manyVotes) := goodIn_app (goodIn_of _ (by decide +kernel)) ggX2_closeVote_X2_manyVotes
set_option maxRecDepth 20000 in
theorem ggX2_closeVote_X2_forgets : GoodIn wsX2_closeVote wsX2_forgets := goodIn_r _ [13, 9, 14, 15, 16, 39, 40, 41, 42, 43, 44, 45, 46, 47, 48, 49, 50, 51, 52, 53, 54] (by decide +kernel) (by decide +kernel)
set_option maxRecDepth 20000 in
theorem gX2_closeVote_X2_forgets : GoodIn wsX2_closeVote (wsV RX2 79 RX2 yX2_forgets wsX2_forgets) := goodIn_app (goodIn_of _ (by decide +kernel)) ggX2_closeVote_X2_forgets
set_option maxRecDepth 20000 in
theorem ggX2_closeVote_X2_dies : GoodIn wsX2_closeVote wsX2_dies := goodIn_r _ [20, 21, 22, 23, 1, 24, 25, 26, 7, 27, 28, 29, 30, 31, 32, 33, 34, 35, 36, 37, 38, 39, 40, 41, 42, 43, 44, 45, 46, 47, 48, 49, 50, 51, 52, 53, 54] (by decide +kernel) (by decide +kernel)
set_option maxRecDepth 20000 in
theorem gX2_closeVote_X2_dies : GoodIn wsX2_closeVote (wsV RX2 104 RX2 yX2_dies wsX2_dies) := goodIn_app (goodIn_of _ (by decide +kernel)) ggX2_closeVote_X2_dies
theorem dX2_closeVote_0 : decode cX2_closeVote 0 = .ok (.aload_n 0, 1) := by decide +kernel
theorem dX2_closeVote_1 : decode cX2_closeVote 1 = .ok (.aload_n 0, 1) := by decide +kernel
theorem dX2_closeVote_2 : decode cX2_closeVote 2 = .ok (.getfield 70, 3) := by decide +kernel
theorem dX2_closeVote_5 : decode cX2_closeVote 5 = .ok (.iconst 1, 1) := by decide +kernel
theorem dX2_closeVote_6 : decode cX2_closeVote 6 = .ok (.if_icmp .ne 7, 3) := by decide +kernel
theorem dX2_closeVote_9 : decode cX2_closeVote 9 = .ok (.iconst 0, 1) := by decide +kernel
theorem dX2_closeVote_10 : decode cX2_closeVote 10 = .ok (.goto 4, 3) := by decide +kernel
theorem dX2_closeVote_13 : decode cX2_closeVote 13 = .ok (.iconst 1, 1) := by decide +kernel
theorem dX2_closeVote_14 : decode cX2_closeVote 14 = .ok (.putfield 20, 3) := by decide +kernel
theorem dX2_closeVote_17 : decode cX2_closeVote 17 = .ok (.aload_n 0, 1) := by decide +kernel
theorem dX2_closeVote_18 : decode cX2_closeVote 18 = .ok (.getfield 20, 3) := by decide +kernel
theorem dX2_closeVote_21 : decode cX2_closeVote 21 = .ok (.ifCond .le 5, 3) := by decide +kernel
theorem dX2_closeVote_24 : decode cX2_closeVote 24 = .ok (.iconst 0, 1) := by decide +kernel
theorem dX2_closeVote_25 : decode cX2_closeVote 25 = .ok (.ireturn, 1) := by decide +kernel
theorem dX2_closeVote_26 : decode cX2_closeVote 26 = .ok (.iconst (-1), 1) := by decide +kernel
theorem dX2_closeVote_27 : decode cX2_closeVote 27 = .ok (.istore_n 1, 1) := by decide +kernel
theorem dX2_closeVote_28 : decode cX2_closeVote 28 = .ok (.iconst 0, 1) := by decide +kernel
theorem dX2_closeVote_29 : decode cX2_closeVote 29 = .ok (.istore_n 2, 1) := by decide +kernel
theorem dX2_closeVote_30 : decode cX2_closeVote 30 = .ok (.iconst 0, 1) := by decide +kernel
theorem dX2_closeVote_31 : decode cX2_closeVote 31 = .ok (.istore_n 3, 1) := by decide +kernel
theorem dX2_closeVote_32 : decode cX2_closeVote 32 = .ok (.iload_n 3, 1) := by decide +kernel
theorem dX2_closeVote_33 : decode cX2_closeVote 33 = .ok (.aload_n 0, 1) := by decide +kernel
theorem dX2_closeVote_34 : decode cX2_closeVote 34 = .ok (.getfield 24, 3) := by decide +kernel
theorem dX2_closeVote_37 : decode cX2_closeVote 37 = .ok (.if_icmp .ge 51, 3) := by decide +kernel
theorem dX2_closeVote_40 : decode cX2_closeVote 40 = .ok (.aload_n 0, 1) := by decide +kernel
theorem dX2_closeVote_41 : decode cX2_closeVote 41 = .ok (.iload_n 3, 1) := by decide +kernel
theorem dX2_closeVote_42 : decode cX2_closeVote 42 = .ok (.invokevirtual 101, 3) := by decide +kernel
theorem dX2_closeVote_45 : decode cX2_closeVote 45 = .ok (.istore 4, 2) := by decide +kernel
theorem dX2_closeVote_47 : decode cX2_closeVote 47 = .ok (.iload 4, 2) := by decide +kernel
theorem dX2_closeVote_49 : decode cX2_closeVote 49 = .ok (.iload_n 2, 1) := by decide +kernel
theorem dX2_closeVote_50 : decode cX2_closeVote 50 = .ok (.if_icmp .le 7, 3) := by decide +kernel
theorem dX2_closeVote_53 : decode cX2_closeVote 53 = .ok (.iload_n 3, 1) := by decide +kernel
theorem dX2_closeVote_54 : decode cX2_closeVote 54 = .ok (.goto 14, 3) := by decide +kernel
theorem dX2_closeVote_57 : decode cX2_closeVote 57 = .ok (.iload 4, 2) := by decide +kernel
theorem dX2_closeVote_59 : decode cX2_closeVote 59 = .ok (.iload_n 2, 1) := by decide +kernel
theorem dX2_closeVote_60 : decode cX2_closeVote 60 = .ok (.if_icmp .ne 7, 3) := by decide +kernel
theorem dX2_closeVote_63 : decode cX2_closeVote 63 = .ok (.iconst (-1), 1) := by decide +kernel
theorem dX2_closeVote_64 : decode cX2_closeVote 64 = .ok (.goto 4, 3) := by decide +kernel
theorem dX2_closeVote_67 : decode cX2_closeVote 67 = .ok (.iload_n 1, 1) := by decide +kernel
theorem dX2_closeVote_68 : decode cX2_closeVote 68 = .ok (.istore_n 1, 1) := by decide +kernel
theorem dX2_closeVote_69 : decode cX2_closeVote 69 = .ok (.iload 4, 2) := by decide +kernel
theorem dX2_closeVote_71 : decode cX2_closeVote 71 = .ok (.iload_n 2, 1) := by decide +kernel
theorem dX2_closeVote_72 : decode cX2_closeVote 72 = .ok (.if_icmp .le 8, 3) := by decide +kernel
theorem dX2_closeVote_75 : decode cX2_closeVote 75 = .ok (.iload 4, 2) := by decide +kernel
theorem dX2_closeVote_77 : decode cX2_closeVote 77 = .ok (.goto 4, 3) := by decide +kernel
theorem dX2_closeVote_80 : decode cX2_closeVote 80 = .ok (.iload_n 2, 1) := by decide +kernel
theorem dX2_closeVote_81 : decode cX2_closeVote 81 = .ok (.istore_n 2, 1) := by decide +kernel
theorem dX2_closeVote_82 : decode cX2_closeVote 82 = .ok (.iinc 3 1, 3) := by decide +kernel
theorem dX2_closeVote_85 : decode cX2_closeVote 85 = .ok (.goto (-53), 3) := by decide +kernel
theorem dX2_closeVote_88 : decode cX2_closeVote 88 = .ok (.aload_n 0, 1) := by decide +kernel
theorem dX2_closeVote_89 : decode cX2_closeVote 89 = .ok (.invokevirtual 79, 3) := by decide +kernel
theorem dX2_closeVote_92 : decode cX2_closeVote 92 = .ok (.iload_n 1, 1) := by decide +kernel
theorem dX2_closeVote_93 : decode cX2_closeVote 93 = .ok (.iconst (-1), 1) := by decide +kernel
theorem dX2_closeVote_94 : decode cX2_closeVote 94 = .ok (.if_icmp .eq 8, 3) := by decide +kernel
theorem dX2_closeVote_97 : decode cX2_closeVote 97 = .ok (.aload_n 0, 1) := by decide +kernel
theorem dX2_closeVote_98 : decode cX2_closeVote 98 = .ok (.iload_n 1, 1) := by decide +kernel
theorem dX2_closeVote_99 : decode cX2_closeVote 99 = .ok (.invokevirtual 104, 3) := by decide +kernel
theorem dX2_closeVote_102 : decode cX2_closeVote 102 = .ok (.aload_n 0, 1) := by decide +kernel
theorem dX2_closeVote_103 : decode cX2_closeVote 103 = .ok (.aload_n 0, 1) := by decide +kernel
theorem dX2_closeVote_104 : decode cX2_closeVote 104 = .ok (.getfield 70, 3) := by decide +kernel
theorem dX2_closeVote_107 : decode cX2_closeVote 107 = .ok (.iconst 1, 1) := by decide +kernel
theorem dX2_closeVote_108 : decode cX2_closeVote 108 = .ok (.if_icmp .ne 7, 3) := by decide +kernel
theorem dX2_closeVote_111 : decode cX2_closeVote 111 = .ok (.iconst 2, 1) := by decide +kernel
theorem dX2_closeVote_112 : decode cX2_closeVote 112 = .ok (.goto 7, 3) := by decide +kernel
theorem dX2_closeVote_115 : decode cX2_closeVote 115 = .ok (.aload_n 0, 1) := by decide +kernel
theorem dX2_closeVote_116 : decode cX2_closeVote 116 = .ok (.getfield 70, 3) := by decide +kernel
theorem dX2_closeVote_119 : decode cX2_closeVote 119 = .ok (.putfield 70, 3) := by decide +kernel
theorem dX2_closeVote_122 : decode cX2_closeVote 122 = .ok (.iload_n 1, 1) := by decide +kernel
theorem dX2_closeVote_123 : decode cX2_closeVote 123 = .ok (.ireturn, 1) := by decide +kernel
set_option maxRecDepth 20000 in
theorem ggX2_protect_X2_has : GoodIn wsX2_protect wsX2_has := goodIn_r _ [10] (by decide +kernel) (by decide +kernel)
set_option maxRecDepth 20000 in
theorem gX2_protect_X2_has : GoodIn wsX2_protect (va_wsS RX2 39 yX2_has wsX2_has) := goodIn_app (goodIn_of _ (by decide +kernel)) ggX2_protect_X2_has
set_option maxRecDepth 20000 in
theorem ggX2_protect_X2_isPlayer : GoodIn wsX2_protect wsX2_isPlayer := goodIn_r _ [14, 15, 16, 17, 9, 18, 19, 20, 21, 22, 23, 24, 25, 26, 27, 28, 29, 30, 31, 32, 33, 34] (by decide +kernel) (by decide +kernel)
set_option maxRecDepth 20000 in
theorem gX2_protect_X2_isPlayer : GoodIn wsX2_protect (wsV RX2 31 RX2 yX2_isPlayer wsX2_isPlayer) := goodIn_app (goodIn_of _ (by decide +kernel)) ggX2_protect_X2_isPlayer
theorem dX2_protect_0 : decode cX2_protect 0 = .ok (.aload_n 0, 1) := by decide +kernel
theorem dX2_protect_1 : decode cX2_protect 1 = .ok (.aload_n 0, 1) := by decide +kernel
theorem dX2_protect_2 : decode cX2_protect 2 = .ok (.getfield 70, 3) := by decide +kernel
theorem dX2_protect_5 : decode cX2_protect 5 = .ok (.iconst 2, 1) := by decide +kernel
theorem dX2_protect_6 : decode cX2_protect 6 = .ok (.if_icmp .ne 17, 3) := by decide +kernel
theorem dX2_protect_9 : decode cX2_protect 9 = .ok (.aload_n 0, 1) := by decide +kernel
theorem dX2_protect_10 : decode cX2_protect 10 = .ok (.getfield 67, 3) := by decide +kernel
theorem dX2_protect_13 : decode cX2_protect 13 = .ok (.aload_n 0, 1) := by decide +kernel
theorem dX2_protect_14 : decode cX2_protect 14 = .ok (.getfield 49, 3) := by decide +kernel
theorem dX2_protect_17 : decode cX2_protect 17 = .ok (.invokestatic 39, 3) := by decide +kernel
theorem dX2_protect_20 : decode cX2_protect 20 = .ok (.ifCond .ne 7, 3) := by decide +kernel
theorem dX2_protect_23 : decode cX2_protect 23 = .ok (.iconst 1, 1) := by decide +kernel
theorem dX2_protect_24 : decode cX2_protect 24 = .ok (.goto 39, 3) := by decide +kernel
theorem dX2_protect_27 : decode cX2_protect 27 = .ok (.aload_n 0, 1) := by decide +kernel
theorem dX2_protect_28 : decode cX2_protect 28 = .ok (.iload_n 1, 1) := by decide +kernel
theorem dX2_protect_29 : decode cX2_protect 29 = .ok (.invokevirtual 31, 3) := by decide +kernel
theorem dX2_protect_32 : decode cX2_protect 32 = .ok (.ifCond .ne 7, 3) := by decide +kernel
theorem dX2_protect_35 : decode cX2_protect 35 = .ok (.iconst 2, 1) := by decide +kernel
theorem dX2_protect_36 : decode cX2_protect 36 = .ok (.goto 27, 3) := by decide +kernel
theorem dX2_protect_39 : decode cX2_protect 39 = .ok (.aload_n 0, 1) := by decide +kernel
theorem dX2_protect_40 : decode cX2_protect 40 = .ok (.getfield 67, 3) := by decide +kernel
theorem dX2_protect_43 : decode cX2_protect 43 = .ok (.iload_n 1, 1) := by decide +kernel
theorem dX2_protect_44 : decode cX2_protect 44 = .ok (.invokestatic 39, 3) := by decide +kernel
theorem dX2_protect_47 : decode cX2_protect 47 = .ok (.ifCond .eq 11, 3) := by decide +kernel
theorem dX2_protect_50 : decode cX2_protect 50 = .ok (.iload_n 1, 1) := by decide +kernel
theorem dX2_protect_51 : decode cX2_protect 51 = .ok (.aload_n 0, 1) := by decide +kernel
theorem dX2_protect_52 : decode cX2_protect 52 = .ok (.getfield 76, 3) := by decide +kernel
theorem dX2_protect_55 : decode cX2_protect 55 = .ok (.if_icmp .ne 7, 3) := by decide +kernel
theorem dX2_protect_58 : decode cX2_protect 58 = .ok (.iconst 3, 1) := by decide +kernel
theorem dX2_protect_59 : decode cX2_protect 59 = .ok (.goto 4, 3) := by decide +kernel
theorem dX2_protect_62 : decode cX2_protect 62 = .ok (.iconst 0, 1) := by decide +kernel
theorem dX2_protect_63 : decode cX2_protect 63 = .ok (.putfield 20, 3) := by decide +kernel
theorem dX2_protect_66 : decode cX2_protect 66 = .ok (.aload_n 0, 1) := by decide +kernel
theorem dX2_protect_67 : decode cX2_protect 67 = .ok (.getfield 20, 3) := by decide +kernel
theorem dX2_protect_70 : decode cX2_protect 70 = .ok (.ifCond .le 5, 3) := by decide +kernel
theorem dX2_protect_73 : decode cX2_protect 73 = .ok (.iconst 0, 1) := by decide +kernel
theorem dX2_protect_74 : decode cX2_protect 74 = .ok (.ireturn, 1) := by decide +kernel
theorem dX2_protect_75 : decode cX2_protect 75 = .ok (.aload_n 0, 1) := by decide +kernel
theorem dX2_protect_76 : decode cX2_protect 76 = .ok (.getfield 85, 3) := by decide +kernel
theorem dX2_protect_79 : decode cX2_protect 79 = .ok (.istore_n 2, 1) := by decide +kernel
theorem dX2_protect_80 : decode cX2_protect 80 = .ok (.aload_n 0, 1) := by decide +kernel
theorem dX2_protect_81 : decode cX2_protect 81 = .ok (.iload_n 1, 1) := by decide +kernel
theorem dX2_protect_82 : decode cX2_protect 82 = .ok (.putfield 85, 3) := by decide +kernel
theorem dX2_protect_85 : decode cX2_protect 85 = .ok (.iload_n 2, 1) := by decide +kernel
theorem dX2_protect_86 : decode cX2_protect 86 = .ok (.ireturn, 1) := by decide +kernel
set_option maxRecDepth 20000 in
theorem ggX2_attack_X2_isPlayer : GoodIn wsX2_attack wsX2_isPlayer := goodIn_r _ [10, 11, 12, 13, 9, 14, 18, 19, 20, 21, 22, 23, 24, 25, 26, 27, 28, 29, 30, 31, 32, 33] (by decide +kernel) (by decide +kernel)
set_option maxRecDepth 20000 in
theorem gX2_attack_X2_isPlayer : GoodIn wsX2_attack (wsV RX2 31 RX2 yX2_isPlayer wsX2_isPlayer) := goodIn_app (goodIn_of _ (by decide +kernel)) ggX2_attack_X2_isPlayer
set_option maxRecDepth 20000 in
theorem ggX2_attack_X2_has : GoodIn wsX2_attack wsX2_has := goodIn_r _ [17] (by decide +kernel) (by decide +kernel)
set_option maxRecDepth 20000 in
theorem gX2_attack_X2_has : GoodIn wsX2_attack (va_wsS RX2 39 yX2_has wsX2_has) := goodIn_app (goodIn_of _ (by decide +kernel)) ggX2_attack_X2_has
theorem dX2_attack_0 : decode cX2_attack 0 = .ok (.aload_n 0, 1) := by decide +kernel
theorem dX2_attack_1 : decode cX2_attack 1 = .ok (.aload_n 0, 1) := by decide +kernel
theorem dX2_attack_2 : decode cX2_attack 2 = .ok (.getfield 70, 3) := by decide +kernel
theorem dX2_attack_5 : decode cX2_attack 5 = .ok (.iconst 2, 1) := by decide +kernel
theorem dX2_attack_6 : decode cX2_attack 6 = .ok (.if_icmp .eq 7, 3) := by decide +kernel
theorem dX2_attack_9 : decode cX2_attack 9 = .ok (.iconst 1, 1) := by decide +kernel
theorem dX2_attack_10 : decode cX2_attack 10 = .ok (.goto 42, 3) := by decide +kernel
theorem dX2_attack_13 : decode cX2_attack 13 = .ok (.aload_n 0, 1) := by decide +kernel
theorem dX2_attack_14 : decode cX2_attack 14 = .ok (.iload_n 1, 1) := by decide +kernel
theorem dX2_attack_15 : decode cX2_attack 15 = .ok (.invokevirtual 31, 3) := by decide +kernel
theorem dX2_attack_18 : decode cX2_attack 18 = .ok (.ifCond .ne 7, 3) := by decide +kernel
theorem dX2_attack_21 : decode cX2_attack 21 = .ok (.iconst 2, 1) := by decide +kernel
theorem dX2_attack_22 : decode cX2_attack 22 = .ok (.goto 30, 3) := by decide +kernel
theorem dX2_attack_25 : decode cX2_attack 25 = .ok (.aload_n 0, 1) := by decide +kernel
theorem dX2_attack_26 : decode cX2_attack 26 = .ok (.getfield 67, 3) := by decide +kernel
theorem dX2_attack_29 : decode cX2_attack 29 = .ok (.iload_n 1, 1) := by decide +kernel
theorem dX2_attack_30 : decode cX2_attack 30 = .ok (.invokestatic 39, 3) := by decide +kernel
theorem dX2_attack_33 : decode cX2_attack 33 = .ok (.ifCond .eq 14, 3) := by decide +kernel
theorem dX2_attack_36 : decode cX2_attack 36 = .ok (.aload_n 0, 1) := by decide +kernel
theorem dX2_attack_37 : decode cX2_attack 37 = .ok (.getfield 43, 3) := by decide +kernel
theorem dX2_attack_40 : decode cX2_attack 40 = .ok (.iload_n 1, 1) := by decide +kernel
theorem dX2_attack_41 : decode cX2_attack 41 = .ok (.invokestatic 39, 3) := by decide +kernel
theorem dX2_attack_44 : decode cX2_attack 44 = .ok (.ifCond .eq 7, 3) := by decide +kernel
theorem dX2_attack_47 : decode cX2_attack 47 = .ok (.iconst 3, 1) := by decide +kernel
theorem dX2_attack_48 : decode cX2_attack 48 = .ok (.goto 4, 3) := by decide +kernel
theorem dX2_attack_51 : decode cX2_attack 51 = .ok (.iconst 0, 1) := by decide +kernel
theorem dX2_attack_52 : decode cX2_attack 52 = .ok (.putfield 20, 3) := by decide +kernel
theorem dX2_attack_55 : decode cX2_attack 55 = .ok (.aload_n 0, 1) := by decide +kernel
theorem dX2_attack_56 : decode cX2_attack 56 = .ok (.getfield 20, 3) := by decide +kernel
theorem dX2_attack_59 : decode cX2_attack 59 = .ok (.ifCond .le 5, 3) := by decide +kernel
theorem dX2_attack_62 : decode cX2_attack 62 = .ok (.iconst 0, 1) := by decide +kernel
theorem dX2_attack_63 : decode cX2_attack 63 = .ok (.ireturn, 1) := by decide +kernel
theorem dX2_attack_64 : decode cX2_attack 64 = .ok (.aload_n 0, 1) := by decide +kernel
theorem dX2_attack_65 : decode cX2_attack 65 = .ok (.getfield 88, 3) := by decide +kernel
theorem dX2_attack_68 : decode cX2_attack 68 = .ok (.istore_n 2, 1) := by decide +kernel
theorem dX2_attack_69 : decode cX2_attack 69 = .ok (.aload_n 0, 1) := by decide +kernel
theorem dX2_attack_70 : decode cX2_attack 70 = .ok (.iload_n 1, 1) := by decide +kernel
theorem dX2_attack_71 : decode cX2_attack 71 = .ok (.putfield 88, 3) := by decide +kernel
theorem dX2_attack_74 : decode cX2_attack 74 = .ok (.iload_n 2, 1) := by decide +kernel
theorem dX2_attack_75 : decode cX2_attack 75 = .ok (.ireturn, 1) := by decide +kernel
set_option maxRecDepth 20000 in
theorem ggX2_look_X2_has : GoodIn wsX2_look wsX2_has := goodIn_r _ [9] (by decide +kernel) (by decide +kernel)
set_option maxRecDepth 20000 in
theorem gX2_look_X2_has : GoodIn wsX2_look (va_wsS RX2 39 yX2_has wsX2_has) := goodIn_app (goodIn_of _ (by decide +kernel)) ggX2_look_X2_has
set_option maxRecDepth 20000 in
theorem ggX2_look_X2_isPlayer : GoodIn wsX2_look wsX2_isPlayer := goodIn_r _ [13, 14, 15, 16, 8, 17, 18, 19, 20, 21, 22, 23, 24, 25, 26, 27, 28, 29, 30, 31, 32, 33] (by decide +kernel) (by decide +kernel)
set_option maxRecDepth 20000 in
theorem gX2_look_X2_isPlayer : GoodIn wsX2_look (wsV RX2 31 RX2 yX2_isPlayer wsX2_isPlayer) := goodIn_app (goodIn_of _ (by decide +kernel)) ggX2_look_X2_isPlayer
theorem dX2_look_0 : decode cX2_look 0 = .ok (.aload_n 0, 1) := by decide +kernel
theorem dX2_look_1 : decode cX2_look 1 = .ok (.aload_n 0, 1) := by decide +kernel
theorem dX2_look_2 : decode cX2_look 2 = .ok (.getfield 70, 3) := by decide +kernel
theorem dX2_look_5 : decode cX2_look 5 = .ok (.iconst 2, 1) := by decide +kernel
theorem dX2_look_6 : decode cX2_look 6 = .ok (.if_icmp .ne 17, 3) := by decide +kernel
theorem dX2_look_9 : decode cX2_look 9 = .ok (.aload_n 0, 1) := by decide +kernel
theorem dX2_look_10 : decode cX2_look 10 = .ok (.getfield 67, 3) := by decide +kernel
theorem dX2_look_13 : decode cX2_look 13 = .ok (.aload_n 0, 1) := by decide +kernel
theorem dX2_look_14 : decode cX2_look 14 = .ok (.getfield 46, 3) := by decide +kernel
theorem dX2_look_17 : decode cX2_look 17 = .ok (.invokestatic 39, 3) := by decide +kernel
theorem dX2_look_20 : decode cX2_look 20 = .ok (.ifCond .ne 7, 3) := by decide +kernel
theorem dX2_look_23 : decode cX2_look 23 = .ok (.iconst 1, 1) := by decide +kernel
theorem dX2_look_24 : decode cX2_look 24 = .ok (.goto 39, 3) := by decide +kernel
theorem dX2_look_27 : decode cX2_look 27 = .ok (.aload_n 0, 1) := by decide +kernel
theorem dX2_look_28 : decode cX2_look 28 = .ok (.iload_n 1, 1) := by decide +kernel
theorem dX2_look_29 : decode cX2_look 29 = .ok (.invokevirtual 31, 3) := by decide +kernel
theorem dX2_look_32 : decode cX2_look 32 = .ok (.ifCond .ne 7, 3) := by decide +kernel
theorem dX2_look_35 : decode cX2_look 35 = .ok (.iconst 2, 1) := by decide +kernel
theorem dX2_look_36 : decode cX2_look 36 = .ok (.goto 27, 3) := by decide +kernel
theorem dX2_look_39 : decode cX2_look 39 = .ok (.aload_n 0, 1) := by decide +kernel
theorem dX2_look_40 : decode cX2_look 40 = .ok (.getfield 67, 3) := by decide +kernel
theorem dX2_look_43 : decode cX2_look 43 = .ok (.iload_n 1, 1) := by decide +kernel
theorem dX2_look_44 : decode cX2_look 44 = .ok (.invokestatic 39, 3) := by decide +kernel
theorem dX2_look_47 : decode cX2_look 47 = .ok (.ifCond .eq 11, 3) := by decide +kernel
theorem dX2_look_50 : decode cX2_look 50 = .ok (.iload_n 1, 1) := by decide +kernel
theorem dX2_look_51 : decode cX2_look 51 = .ok (.aload_n 0, 1) := by decide +kernel
theorem dX2_look_52 : decode cX2_look 52 = .ok (.getfield 46, 3) := by decide +kernel
theorem dX2_look_55 : decode cX2_look 55 = .ok (.if_icmp .ne 7, 3) := by decide +kernel
theorem dX2_look_58 : decode cX2_look 58 = .ok (.iconst 3, 1) := by decide +kernel
theorem dX2_look_59 : decode cX2_look 59 = .ok (.goto 4, 3) := by decide +kernel
theorem dX2_look_62 : decode cX2_look 62 = .ok (.iconst 0, 1) := by decide +kernel
theorem dX2_look_63 : decode cX2_look 63 = .ok (.putfield 20, 3) := by decide +kernel
theorem dX2_look_66 : decode cX2_look 66 = .ok (.aload_n 0, 1) := by decide +kernel
theorem dX2_look_67 : decode cX2_look 67 = .ok (.getfield 20, 3) := by decide +kernel
theorem dX2_look_70 : decode cX2_look 70 = .ok (.ifCond .le 5, 3) := by decide +kernel
theorem dX2_look_73 : decode cX2_look 73 = .ok (.iconst 0, 1) := by decide +kernel
theorem dX2_look_74 : decode cX2_look 74 = .ok (.ireturn, 1) := by decide +kernel
theorem dX2_look_75 : decode cX2_look 75 = .ok (.aload_n 0, 1) := by decide +kernel
theorem dX2_look_76 : decode cX2_look 76 = .ok (.getfield 91, 3) := by decide +kernel
theorem dX2_look_79 : decode cX2_look 79 = .ok (.istore_n 2, 1) := by decide +kernel
theorem dX2_look_80 : decode cX2_look 80 = .ok (.aload_n 0, 1) := by decide +kernel
theorem dX2_look_81 : decode cX2_look 81 = .ok (.iload_n 1, 1) := by decide +kernel
theorem dX2_look_82 : decode cX2_look 82 = .ok (.putfield 91, 3) := by decide +kernel
theorem dX2_look_85 : decode cX2_look 85 = .ok (.iload_n 2, 1) := by decide +kernel
theorem dX2_look_86 : decode cX2_look 86 = .ok (.ireturn, 1) := by decide +kernel
set_option maxRecDepth 20000 in
theorem ggX2_endNight_X2_dies : GoodIn wsX2_endNight wsX2_dies := goodIn_r _ [15, 6, 16, 17, 1, 18, 19, 20, 14, 21, 7, 22, 23, 24, 25, 26, 27, 28, 29, 30, 31, 37, 38, 39, 40, 41, 42, 43, 44, 45, 46, 47, 48, 49, 50, 51, 52] (by decide +kernel) (by decide +kernel)
set_option maxRecDepth 20000 in
theorem gX2_endNight_X2_dies : GoodIn wsX2_endNight (wsV RX2 104 RX2 yX2_dies wsX2_dies) := goodIn_app (goodIn_of _ (by decide +kernel)) ggX2_endNight_X2_dies
set_option maxRecDepth 20000 in
theorem ggX2_endNight_X2_has : GoodIn wsX2_endNight wsX2_has := goodIn_r _ [28] (by decide +kernel) (by decide +kernel)
set_option maxRecDepth 20000 in
theorem gX2_endNight_X2_has : GoodIn wsX2_endNight (va_wsS RX2 39 yX2_has wsX2_has) := goodIn_app (goodIn_of _ (by decide +kernel)) ggX2_endNight_X2_has
set_option maxRecDepth 20000 in
theorem ggX2_endNight_X2_forgets : GoodIn wsX2_endNight wsX2_forgets := goodIn_r _ [35, 36, 4, 3, 8, 37, 38, 39, 40, 41, 42, 43, 44, 45, 46, 47, 48, 49, 50, 51, 52] (by decide +kernel) (by decide +kernel)
set_option maxRecDepth 20000 in
theorem gX2_endNight_X2_forgets : GoodIn wsX2_endNight (wsV RX2 79 RX2 yX2_forgets wsX2_forgets) := goodIn_app (goodIn_of _ (by decide +kernel)) ggX2_endNight_X2_forgets
theorem dX2_endNight_0 : decode cX2_endNight 0 = .ok (.aload_n 0, 1) := by decide +kernel
theorem dX2_endNight_1 : decode cX2_endNight 1 = .ok (.aload_n 0, 1) := by decide +kernel
theorem dX2_endNight_2 : decode cX2_endNight 2 = .ok (.getfield 70, 3) := by decide +kernel
theorem dX2_endNight_5 : decode cX2_endNight 5 = .ok (.iconst 2, 1) := by decide +kernel
theorem dX2_endNight_6 : decode cX2_endNight 6 = .ok (.if_icmp .ne 7, 3) := by decide +kernel
theorem dX2_endNight_9 : decode cX2_endNight 9 = .ok (.iconst 0, 1) := by decide +kernel
theorem dX2_endNight_10 : decode cX2_endNight 10 = .ok (.goto 4, 3) := by decide +kernel
theorem dX2_endNight_13 : decode cX2_endNight 13 = .ok (.iconst 1, 1) := by decide +kernel
theorem dX2_endNight_14 : decode cX2_endNight 14 = .ok (.putfield 20, 3) := by decide +kernel
theorem dX2_endNight_17 : decode cX2_endNight 17 = .ok (.aload_n 0, 1) := by decide +kernel
theorem dX2_endNight_18 : decode cX2_endNight 18 = .ok (.getfield 20, 3) := by decide +kernel
theorem dX2_endNight_21 : decode cX2_endNight 21 = .ok (.ifCond .le 5, 3) := by decide +kernel
theorem dX2_endNight_24 : decode cX2_endNight 24 = .ok (.iconst 0, 1) := by decide +kernel
theorem dX2_endNight_25 : decode cX2_endNight 25 = .ok (.ireturn, 1) := by decide +kernel
theorem dX2_endNight_26 : decode cX2_endNight 26 = .ok (.aload_n 0, 1) := by decide +kernel
theorem dX2_endNight_27 : decode cX2_endNight 27 = .ok (.getfield 88, 3) := by decide +kernel
theorem dX2_endNight_30 : decode cX2_endNight 30 = .ok (.aload_n 0, 1) := by decide +kernel
theorem dX2_endNight_31 : decode cX2_endNight 31 = .ok (.getfield 85, 3) := by decide +kernel
theorem dX2_endNight_34 : decode cX2_endNight 34 = .ok (.if_icmp .ne 7, 3) := by decide +kernel
theorem dX2_endNight_37 : decode cX2_endNight 37 = .ok (.iconst (-1), 1) := by decide +kernel
theorem dX2_endNight_38 : decode cX2_endNight 38 = .ok (.goto 7, 3) := by decide +kernel
theorem dX2_endNight_41 : decode cX2_endNight 41 = .ok (.aload_n 0, 1) := by decide +kernel
theorem dX2_endNight_42 : decode cX2_endNight 42 = .ok (.getfield 88, 3) := by decide +kernel
theorem dX2_endNight_45 : decode cX2_endNight 45 = .ok (.istore_n 1, 1) := by decide +kernel
theorem dX2_endNight_46 : decode cX2_endNight 46 = .ok (.iload_n 1, 1) := by decide +kernel
theorem dX2_endNight_47 : decode cX2_endNight 47 = .ok (.iconst (-1), 1) := by decide +kernel
theorem dX2_endNight_48 : decode cX2_endNight 48 = .ok (.if_icmp .eq 8, 3) := by decide +kernel
theorem dX2_endNight_51 : decode cX2_endNight 51 = .ok (.aload_n 0, 1) := by decide +kernel
theorem dX2_endNight_52 : decode cX2_endNight 52 = .ok (.iload_n 1, 1) := by decide +kernel
theorem dX2_endNight_53 : decode cX2_endNight 53 = .ok (.invokevirtual 104, 3) := by decide +kernel
theorem dX2_endNight_56 : decode cX2_endNight 56 = .ok (.aload_n 0, 1) := by decide +kernel
theorem dX2_endNight_57 : decode cX2_endNight 57 = .ok (.getfield 70, 3) := by decide +kernel
theorem dX2_endNight_60 : decode cX2_endNight 60 = .ok (.iconst 2, 1) := by decide +kernel
theorem dX2_endNight_61 : decode cX2_endNight 61 = .ok (.if_icmp .ne 59, 3) := by decide +kernel
theorem dX2_endNight_64 : decode cX2_endNight 64 = .ok (.aload_n 0, 1) := by decide +kernel
theorem dX2_endNight_65 : decode cX2_endNight 65 = .ok (.dup, 1) := by decide +kernel
theorem dX2_endNight_66 : decode cX2_endNight 66 = .ok (.getfield 60, 3) := by decide +kernel
theorem dX2_endNight_69 : decode cX2_endNight 69 = .ok (.aload_n 0, 1) := by decide +kernel
theorem dX2_endNight_70 : decode cX2_endNight 70 = .ok (.getfield 67, 3) := by decide +kernel
theorem dX2_endNight_73 : decode cX2_endNight 73 = .ok (.aload_n 0, 1) := by decide +kernel
theorem dX2_endNight_74 : decode cX2_endNight 74 = .ok (.getfield 46, 3) := by decide +kernel
theorem dX2_endNight_77 : decode cX2_endNight 77 = .ok (.invokestatic 39, 3) := by decide +kernel
theorem dX2_endNight_80 : decode cX2_endNight 80 = .ok (.ifCond .eq 20, 3) := by decide +kernel
theorem dX2_endNight_83 : decode cX2_endNight 83 = .ok (.aload_n 0, 1) := by decide +kernel
theorem dX2_endNight_84 : decode cX2_endNight 84 = .ok (.getfield 91, 3) := by decide +kernel
theorem dX2_endNight_87 : decode cX2_endNight 87 = .ok (.iconst (-1), 1) := by decide +kernel
theorem dX2_endNight_88 : decode cX2_endNight 88 = .ok (.if_icmp .eq 12, 3) := by decide +kernel
theorem dX2_endNight_91 : decode cX2_endNight 91 = .ok (.iconst 1, 1) := by decide +kernel
theorem dX2_endNight_92 : decode cX2_endNight 92 = .ok (.aload_n 0, 1) := by decide +kernel
theorem dX2_endNight_93 : decode cX2_endNight 93 = .ok (.getfield 91, 3) := by decide +kernel
theorem dX2_endNight_96 : decode cX2_endNight 96 = .ok (.ishl, 1) := by decide +kernel
theorem dX2_endNight_97 : decode cX2_endNight 97 = .ok (.goto 4, 3) := by decide +kernel
theorem dX2_endNight_100 : decode cX2_endNight 100 = .ok (.iconst 0, 1) := by decide +kernel
theorem dX2_endNight_101 : decode cX2_endNight 101 = .ok (.ior, 1) := by decide +kernel
theorem dX2_endNight_102 : decode cX2_endNight 102 = .ok (.putfield 60, 3) := by decide +kernel
theorem dX2_endNight_105 : decode cX2_endNight 105 = .ok (.aload_n 0, 1) := by decide +kernel
theorem dX2_endNight_106 : decode cX2_endNight 106 = .ok (.iconst 1, 1) := by decide +kernel
theorem dX2_endNight_107 : decode cX2_endNight 107 = .ok (.putfield 70, 3) := by decide +kernel
theorem dX2_endNight_110 : decode cX2_endNight 110 = .ok (.aload_n 0, 1) := by decide +kernel
theorem dX2_endNight_111 : decode cX2_endNight 111 = .ok (.dup, 1) := by decide +kernel
theorem dX2_endNight_112 : decode cX2_endNight 112 = .ok (.getfield 73, 3) := by decide +kernel
theorem dX2_endNight_115 : decode cX2_endNight 115 = .ok (.iconst 1, 1) := by decide +kernel
theorem dX2_endNight_116 : decode cX2_endNight 116 = .ok (.iadd, 1) := by decide +kernel
theorem dX2_endNight_117 : decode cX2_endNight 117 = .ok (.putfield 73, 3) := by decide +kernel
theorem dX2_endNight_120 : decode cX2_endNight 120 = .ok (.aload_n 0, 1) := by decide +kernel
theorem dX2_endNight_121 : decode cX2_endNight 121 = .ok (.aload_n 0, 1) := by decide +kernel
theorem dX2_endNight_122 : decode cX2_endNight 122 = .ok (.getfield 85, 3) := by decide +kernel
theorem dX2_endNight_125 : decode cX2_endNight 125 = .ok (.putfield 76, 3) := by decide +kernel
theorem dX2_endNight_128 : decode cX2_endNight 128 = .ok (.aload_n 0, 1) := by decide +kernel
theorem dX2_endNight_129 : decode cX2_endNight 129 = .ok (.invokevirtual 79, 3) := by decide +kernel
theorem dX2_endNight_132 : decode cX2_endNight 132 = .ok (.iload_n 1, 1) := by decide +kernel
theorem dX2_endNight_133 : decode cX2_endNight 133 = .ok (.ireturn, 1) := by decide +kernel
theorem dX2_isGame_0 : decode cX2_isGame 0 = .ok (.aload_n 0, 1) := by decide +kernel
theorem dX2_isGame_1 : decode cX2_isGame 1 = .ok (.aload_n 0, 1) := by decide +kernel
theorem dX2_isGame_2 : decode cX2_isGame 2 = .ok (.getfield 70, 3) := by decide +kernel
theorem dX2_isGame_5 : decode cX2_isGame 5 = .ok (.ifCond .ne 7, 3) := by decide +kernel
theorem dX2_isGame_8 : decode cX2_isGame 8 = .ok (.iconst 1, 1) := by decide +kernel
theorem dX2_isGame_9 : decode cX2_isGame 9 = .ok (.goto 4, 3) := by decide +kernel
theorem dX2_isGame_12 : decode cX2_isGame 12 = .ok (.iconst 0, 1) := by decide +kernel
theorem dX2_isGame_13 : decode cX2_isGame 13 = .ok (.putfield 20, 3) := by decide +kernel
theorem dX2_isGame_16 : decode cX2_isGame 16 = .ok (.aload_n 0, 1) := by decide +kernel
theorem dX2_isGame_17 : decode cX2_isGame 17 = .ok (.getfield 20, 3) := by decide +kernel
theorem dX2_isGame_20 : decode cX2_isGame 20 = .ok (.ifCond .ne 7, 3) := by decide +kernel
theorem dX2_isGame_23 : decode cX2_isGame 23 = .ok (.iconst 1, 1) := by decide +kernel
theorem dX2_isGame_24 : decode cX2_isGame 24 = .ok (.goto 4, 3) := by decide +kernel
theorem dX2_isGame_27 : decode cX2_isGame 27 = .ok (.iconst 0, 1) := by decide +kernel
theorem dX2_isGame_28 : decode cX2_isGame 28 = .ok (.ireturn, 1) := by decide +kernel
set_option maxRecDepth 20000 in
theorem ggX2_day_X2_isGame : GoodIn wsX2_day wsX2_isGame := goodIn_r _ [6, 7, 8, 9, 10, 11, 12, 13, 14, 15, 16, 17, 18, 19, 20, 21, 22, 23, 24] (by decide +kernel) (by decide +kernel)
set_option maxRecDepth 20000 in
theorem gX2_day_X2_isGame : GoodIn wsX2_day (wsV RX2 108 RX2 yX2_isGame wsX2_isGame) := goodIn_app (goodIn_of _ (by decide +kernel)) ggX2_day_X2_isGame
theorem dX2_day_0 : decode cX2_day 0 = .ok (.aload_n 0, 1) := by decide +kernel
theorem dX2_day_1 : decode cX2_day 1 = .ok (.invokevirtual 108, 3) := by decide +kernel
theorem dX2_day_4 : decode cX2_day 4 = .ok (.ifCond .eq 10, 3) := by decide +kernel
theorem dX2_day_7 : decode cX2_day 7 = .ok (.aload_n 0, 1) := by decide +kernel
theorem dX2_day_8 : decode cX2_day 8 = .ok (.getfield 73, 3) := by decide +kernel
theorem dX2_day_11 : decode cX2_day 11 = .ok (.goto 4, 3) := by decide +kernel
theorem dX2_day_14 : decode cX2_day 14 = .ok (.iconst 0, 1) := by decide +kernel
theorem dX2_day_15 : decode cX2_day 15 = .ok (.ireturn, 1) := by decide +kernel
set_option maxRecDepth 20000 in
theorem ggX2_alive_X2_isGame : GoodIn wsX2_alive wsX2_isGame := goodIn_r _ [6, 7, 8, 9, 10, 11, 12, 13, 14, 15, 16, 17, 18, 19, 20, 21, 22, 23, 24] (by decide +kernel) (by decide +kernel)
set_option maxRecDepth 20000 in
theorem gX2_alive_X2_isGame : GoodIn wsX2_alive (wsV RX2 108 RX2 yX2_isGame wsX2_isGame) := goodIn_app (goodIn_of _ (by decide +kernel)) ggX2_alive_X2_isGame
theorem dX2_alive_0 : decode cX2_alive 0 = .ok (.aload_n 0, 1) := by decide +kernel
theorem dX2_alive_1 : decode cX2_alive 1 = .ok (.invokevirtual 108, 3) := by decide +kernel
theorem dX2_alive_4 : decode cX2_alive 4 = .ok (.ifCond .eq 10, 3) := by decide +kernel
theorem dX2_alive_7 : decode cX2_alive 7 = .ok (.aload_n 0, 1) := by decide +kernel
theorem dX2_alive_8 : decode cX2_alive 8 = .ok (.getfield 67, 3) := by decide +kernel
theorem dX2_alive_11 : decode cX2_alive 11 = .ok (.goto 4, 3) := by decide +kernel
theorem dX2_alive_14 : decode cX2_alive 14 = .ok (.iconst 0, 1) := by decide +kernel
theorem dX2_alive_15 : decode cX2_alive 15 = .ok (.ireturn, 1) := by decide +kernel
set_option maxRecDepth 20000 in
theorem ggX2_votesFor_X2_isPlayer : GoodIn wsX2_votesFor wsX2_isPlayer := goodIn_r _ [7, 8, 9, 10, 6, 11, 17, 18, 19, 20, 21, 22, 23, 24, 25, 26, 27, 28, 29, 30, 31, 32] (by decide +kernel) (by decide +kernel)
set_option maxRecDepth 20000 in
theorem gX2_votesFor_X2_isPlayer : GoodIn wsX2_votesFor (wsV RX2 31 RX2 yX2_isPlayer wsX2_isPlayer) := goodIn_app (goodIn_of _ (by decide +kernel)) ggX2_votesFor_X2_isPlayer
set_option maxRecDepth 20000 in
theorem ggX2_votesFor_X2_manyVotes : GoodIn wsX2_votesFor wsX2_manyVotes := goodIn_r _ [15, 16, 17, 18, 19, 20, 21, 22, 23, 24, 25, 26, 27, 28, 29, 30, 31, 32] (by decide +kernel) (by decide +kernel)
set_option maxRecDepth 20000 in
theorem gX2_votesFor_X2_manyVotes : GoodIn wsX2_votesFor (wsV RX2 101 RX2 yX2_manyVotes wsX2_manyVotes) := goodIn_app (goodIn_of _ (by decide +kernel)) ggX2_votesFor_X2_manyVotes
theorem dX2_votesFor_0 : decode cX2_votesFor 0 = .ok (.aload_n 0, 1) := by decide +kernel
theorem dX2_votesFor_1 : decode cX2_votesFor 1 = .ok (.aload_n 0, 1) := by decide +kernel
theorem dX2_votesFor_2 : decode cX2_votesFor 2 = .ok (.getfield 70, 3) := by decide +kernel
theorem dX2_votesFor_5 : decode cX2_votesFor 5 = .ok (.ifCond .ne 7, 3) := by decide +kernel
theorem dX2_votesFor_8 : decode cX2_votesFor 8 = .ok (.iconst 1, 1) := by decide +kernel
theorem dX2_votesFor_9 : decode cX2_votesFor 9 = .ok (.goto 16, 3) := by decide +kernel
theorem dX2_votesFor_12 : decode cX2_votesFor 12 = .ok (.aload_n 0, 1) := by decide +kernel
theorem dX2_votesFor_13 : decode cX2_votesFor 13 = .ok (.iload_n 1, 1) := by decide +kernel
theorem dX2_votesFor_14 : decode cX2_votesFor 14 = .ok (.invokevirtual 31, 3) := by decide +kernel
theorem dX2_votesFor_17 : decode cX2_votesFor 17 = .ok (.ifCond .eq 7, 3) := by decide +kernel
theorem dX2_votesFor_20 : decode cX2_votesFor 20 = .ok (.iconst 0, 1) := by decide +kernel
theorem dX2_votesFor_21 : decode cX2_votesFor 21 = .ok (.goto 4, 3) := by decide +kernel
theorem dX2_votesFor_24 : decode cX2_votesFor 24 = .ok (.iconst 2, 1) := by decide +kernel
theorem dX2_votesFor_25 : decode cX2_votesFor 25 = .ok (.putfield 20, 3) := by decide +kernel
theorem dX2_votesFor_28 : decode cX2_votesFor 28 = .ok (.aload_n 0, 1) := by decide +kernel
theorem dX2_votesFor_29 : decode cX2_votesFor 29 = .ok (.getfield 20, 3) := by decide +kernel
theorem dX2_votesFor_32 : decode cX2_votesFor 32 = .ok (.ifCond .le 7, 3) := by decide +kernel
theorem dX2_votesFor_35 : decode cX2_votesFor 35 = .ok (.iconst 0, 1) := by decide +kernel
theorem dX2_votesFor_36 : decode cX2_votesFor 36 = .ok (.goto 8, 3) := by decide +kernel
theorem dX2_votesFor_39 : decode cX2_votesFor 39 = .ok (.aload_n 0, 1) := by decide +kernel
theorem dX2_votesFor_40 : decode cX2_votesFor 40 = .ok (.iload_n 1, 1) := by decide +kernel
theorem dX2_votesFor_41 : decode cX2_votesFor 41 = .ok (.invokevirtual 101, 3) := by decide +kernel
theorem dX2_votesFor_44 : decode cX2_votesFor 44 = .ok (.ireturn, 1) := by decide +kernel
set_option maxRecDepth 20000 in
theorem ggX2_lookedAt_X2_isGame : GoodIn wsX2_lookedAt wsX2_isGame := goodIn_r _ [6, 7, 8, 9, 10, 11, 12, 13, 14, 15, 16, 17, 18, 19, 20, 21, 22, 23, 24] (by decide +kernel) (by decide +kernel)
set_option maxRecDepth 20000 in
theorem gX2_lookedAt_X2_isGame : GoodIn wsX2_lookedAt (wsV RX2 108 RX2 yX2_isGame wsX2_isGame) := goodIn_app (goodIn_of _ (by decide +kernel)) ggX2_lookedAt_X2_isGame
theorem dX2_lookedAt_0 : decode cX2_lookedAt 0 = .ok (.aload_n 0, 1) := by decide +kernel
theorem dX2_lookedAt_1 : decode cX2_lookedAt 1 = .ok (.invokevirtual 108, 3) := by decide +kernel
theorem dX2_lookedAt_4 : decode cX2_lookedAt 4 = .ok (.ifCond .eq 10, 3) := by decide +kernel
theorem dX2_lookedAt_7 : decode cX2_lookedAt 7 = .ok (.aload_n 0, 1) := by decide +kernel
theorem dX2_lookedAt_8 : decode cX2_lookedAt 8 = .ok (.getfield 60, 3) := by decide +kernel
theorem dX2_lookedAt_11 : decode cX2_lookedAt 11 = .ok (.goto 4, 3) := by decide +kernel
theorem dX2_lookedAt_14 : decode cX2_lookedAt 14 = .ok (.iconst 0, 1) := by decide +kernel
theorem dX2_lookedAt_15 : decode cX2_lookedAt 15 = .ok (.ireturn, 1) := by decide +kernel
set_option maxRecDepth 20000 in
theorem ggX2_asks_X2_isViewer : GoodIn wsX2_asks wsX2_isViewer := goodIn_r _ [7, 8, 9, 10, 6, 11, 12, 13, 14, 15, 16, 17, 18, 19, 20, 21, 22, 23, 24, 25, 26, 27, 28, 29, 30, 31] (by decide +kernel) (by decide +kernel)
set_option maxRecDepth 20000 in
theorem gX2_asks_X2_isViewer : GoodIn wsX2_asks (wsV RX2 112 RX2 yX2_isViewer wsX2_isViewer) := goodIn_app (goodIn_of _ (by decide +kernel)) ggX2_asks_X2_isViewer
theorem dX2_asks_0 : decode cX2_asks 0 = .ok (.aload_n 0, 1) := by decide +kernel
theorem dX2_asks_1 : decode cX2_asks 1 = .ok (.aload_n 0, 1) := by decide +kernel
theorem dX2_asks_2 : decode cX2_asks 2 = .ok (.getfield 70, 3) := by decide +kernel
theorem dX2_asks_5 : decode cX2_asks 5 = .ok (.ifCond .ne 7, 3) := by decide +kernel
theorem dX2_asks_8 : decode cX2_asks 8 = .ok (.iconst 1, 1) := by decide +kernel
theorem dX2_asks_9 : decode cX2_asks 9 = .ok (.goto 16, 3) := by decide +kernel
theorem dX2_asks_12 : decode cX2_asks 12 = .ok (.aload_n 0, 1) := by decide +kernel
theorem dX2_asks_13 : decode cX2_asks 13 = .ok (.iload_n 1, 1) := by decide +kernel
theorem dX2_asks_14 : decode cX2_asks 14 = .ok (.invokevirtual 112, 3) := by decide +kernel
theorem dX2_asks_17 : decode cX2_asks 17 = .ok (.ifCond .eq 7, 3) := by decide +kernel
theorem dX2_asks_20 : decode cX2_asks 20 = .ok (.iconst 0, 1) := by decide +kernel
theorem dX2_asks_21 : decode cX2_asks 21 = .ok (.goto 4, 3) := by decide +kernel
theorem dX2_asks_24 : decode cX2_asks 24 = .ok (.iconst 2, 1) := by decide +kernel
theorem dX2_asks_25 : decode cX2_asks 25 = .ok (.putfield 20, 3) := by decide +kernel
theorem dX2_asks_28 : decode cX2_asks 28 = .ok (.aload_n 0, 1) := by decide +kernel
theorem dX2_asks_29 : decode cX2_asks 29 = .ok (.getfield 20, 3) := by decide +kernel
theorem dX2_asks_32 : decode cX2_asks 32 = .ok (.ifCond .ne 7, 3) := by decide +kernel
theorem dX2_asks_35 : decode cX2_asks 35 = .ok (.iconst 1, 1) := by decide +kernel
theorem dX2_asks_36 : decode cX2_asks 36 = .ok (.goto 4, 3) := by decide +kernel
theorem dX2_asks_39 : decode cX2_asks 39 = .ok (.iconst 0, 1) := by decide +kernel
theorem dX2_asks_40 : decode cX2_asks 40 = .ok (.ireturn, 1) := by decide +kernel
set_option maxRecDepth 20000 in
theorem ggX2_manyFor_X2_isFor : GoodIn wsX2_manyFor wsX2_isFor := goodIn_r _ [5, 6, 7, 8, 9, 10, 11, 4, 12, 13, 14, 15, 16, 17, 18, 19, 20, 21, 22, 23, 24, 25, 26, 27, 28, 29, 30, 31, 32, 33, 34, 35, 36] (by decide +kernel) (by decide +kernel)
set_option maxRecDepth 20000 in
theorem gX2_manyFor_X2_isFor : GoodIn wsX2_manyFor (wsV RX2 115 RX2 yX2_isFor wsX2_isFor) := goodIn_app (goodIn_of _ (by decide +kernel)) ggX2_manyFor_X2_isFor
theorem dX2_manyFor_0 : decode cX2_manyFor 0 = .ok (.iconst 0, 1) := by decide +kernel
theorem dX2_manyFor_1 : decode cX2_manyFor 1 = .ok (.istore_n 2, 1) := by decide +kernel
theorem dX2_manyFor_2 : decode cX2_manyFor 2 = .ok (.iconst 0, 1) := by decide +kernel
theorem dX2_manyFor_3 : decode cX2_manyFor 3 = .ok (.istore_n 3, 1) := by decide +kernel
theorem dX2_manyFor_4 : decode cX2_manyFor 4 = .ok (.iload_n 3, 1) := by decide +kernel
theorem dX2_manyFor_5 : decode cX2_manyFor 5 = .ok (.sipush 16384, 3) := by decide +kernel
theorem dX2_manyFor_8 : decode cX2_manyFor 8 = .ok (.if_icmp .ge 26, 3) := by decide +kernel
theorem dX2_manyFor_11 : decode cX2_manyFor 11 = .ok (.iload_n 2, 1) := by decide +kernel
theorem dX2_manyFor_12 : decode cX2_manyFor 12 = .ok (.aload_n 0, 1) := by decide +kernel
theorem dX2_manyFor_13 : decode cX2_manyFor 13 = .ok (.iload_n 1, 1) := by decide +kernel
theorem dX2_manyFor_14 : decode cX2_manyFor 14 = .ok (.iload_n 3, 1) := by decide +kernel
theorem dX2_manyFor_15 : decode cX2_manyFor 15 = .ok (.invokevirtual 115, 3) := by decide +kernel
theorem dX2_manyFor_18 : decode cX2_manyFor 18 = .ok (.ifCond .eq 7, 3) := by decide +kernel
theorem dX2_manyFor_21 : decode cX2_manyFor 21 = .ok (.iconst 1, 1) := by decide +kernel
theorem dX2_manyFor_22 : decode cX2_manyFor 22 = .ok (.goto 4, 3) := by decide +kernel
theorem dX2_manyFor_25 : decode cX2_manyFor 25 = .ok (.iconst 0, 1) := by decide +kernel
theorem dX2_manyFor_26 : decode cX2_manyFor 26 = .ok (.iadd, 1) := by decide +kernel
theorem dX2_manyFor_27 : decode cX2_manyFor 27 = .ok (.istore_n 2, 1) := by decide +kernel
theorem dX2_manyFor_28 : decode cX2_manyFor 28 = .ok (.iinc 3 1, 3) := by decide +kernel
theorem dX2_manyFor_31 : decode cX2_manyFor 31 = .ok (.goto (-27), 3) := by decide +kernel
theorem dX2_manyFor_34 : decode cX2_manyFor 34 = .ok (.iload_n 2, 1) := by decide +kernel
theorem dX2_manyFor_35 : decode cX2_manyFor 35 = .ok (.ireturn, 1) := by decide +kernel
set_option maxRecDepth 20000 in
theorem ggX2_worlds_X2_asks : GoodIn wsX2_worlds wsX2_asks := goodIn_r _ [5, 6, 7, 8, 9, 10, 4, 11, 12, 13, 14, 15, 16, 17, 18, 19, 43, 44, 45, 46, 47, 48, 49, 50, 51, 52, 53, 54, 55, 56, 57, 58] (by decide +kernel) (by decide +kernel)
set_option maxRecDepth 20000 in
theorem gX2_worlds_X2_asks : GoodIn wsX2_worlds (wsV RX2 118 RX2 yX2_asks wsX2_asks) := goodIn_app (goodIn_of _ (by decide +kernel)) ggX2_worlds_X2_asks
set_option maxRecDepth 20000 in
theorem ggX2_worlds_X2_manyFor : GoodIn wsX2_worlds wsX2_manyFor := goodIn_r _ [23, 24, 25, 26, 4, 27, 28, 29, 30, 31, 32, 33, 34, 35, 36, 37, 38, 39, 40, 41, 42, 43, 44, 45, 46, 47, 48, 49, 50, 51, 52, 53, 54, 55, 56, 57, 58] (by decide +kernel) (by decide +kernel)
set_option maxRecDepth 20000 in
theorem gX2_worlds_X2_manyFor : GoodIn wsX2_worlds (wsV RX2 121 RX2 yX2_manyFor wsX2_manyFor) := goodIn_app (goodIn_of _ (by decide +kernel)) ggX2_worlds_X2_manyFor
theorem dX2_worlds_0 : decode cX2_worlds 0 = .ok (.aload_n 0, 1) := by decide +kernel
theorem dX2_worlds_1 : decode cX2_worlds 1 = .ok (.iload_n 1, 1) := by decide +kernel
theorem dX2_worlds_2 : decode cX2_worlds 2 = .ok (.invokevirtual 118, 3) := by decide +kernel
theorem dX2_worlds_5 : decode cX2_worlds 5 = .ok (.ifCond .eq 11, 3) := by decide +kernel
theorem dX2_worlds_8 : decode cX2_worlds 8 = .ok (.aload_n 0, 1) := by decide +kernel
theorem dX2_worlds_9 : decode cX2_worlds 9 = .ok (.iload_n 1, 1) := by decide +kernel
theorem dX2_worlds_10 : decode cX2_worlds 10 = .ok (.invokevirtual 121, 3) := by decide +kernel
theorem dX2_worlds_13 : decode cX2_worlds 13 = .ok (.goto 4, 3) := by decide +kernel
theorem dX2_worlds_16 : decode cX2_worlds 16 = .ok (.iconst 0, 1) := by decide +kernel
theorem dX2_worlds_17 : decode cX2_worlds 17 = .ok (.ireturn, 1) := by decide +kernel
set_option maxRecDepth 20000 in
theorem ggX2_manyWith_X2_roleIn : GoodIn wsX2_manyWith wsX2_roleIn := goodIn_r _ [5, 6, 7, 4, 8] (by decide +kernel) (by decide +kernel)
set_option maxRecDepth 20000 in
theorem gX2_manyWith_X2_roleIn : GoodIn wsX2_manyWith (va_wsS RX2 56 yX2_roleIn wsX2_roleIn) := goodIn_app (goodIn_of _ (by decide +kernel)) ggX2_manyWith_X2_roleIn
set_option maxRecDepth 20000 in
theorem ggX2_manyWith_X2_isFor : GoodIn wsX2_manyWith wsX2_isFor := goodIn_r _ [12, 1, 13, 14, 15, 16, 17, 4, 18, 19, 20, 2, 3, 5, 6, 7, 8, 21, 22, 23, 24, 25, 26, 27, 28, 29, 30, 31, 32, 33, 34, 35, 36] (by decide +kernel) (by decide +kernel)
set_option maxRecDepth 20000 in
theorem gX2_manyWith_X2_isFor : GoodIn wsX2_manyWith (wsV RX2 115 RX2 yX2_isFor wsX2_isFor) := goodIn_app (goodIn_of _ (by decide +kernel)) ggX2_manyWith_X2_isFor
theorem dX2_manyWith_0 : decode cX2_manyWith 0 = .ok (.iconst 0, 1) := by decide +kernel
theorem dX2_manyWith_1 : decode cX2_manyWith 1 = .ok (.istore 4, 2) := by decide +kernel
theorem dX2_manyWith_3 : decode cX2_manyWith 3 = .ok (.iconst 0, 1) := by decide +kernel
theorem dX2_manyWith_4 : decode cX2_manyWith 4 = .ok (.istore 5, 2) := by decide +kernel
theorem dX2_manyWith_6 : decode cX2_manyWith 6 = .ok (.iload 5, 2) := by decide +kernel
theorem dX2_manyWith_8 : decode cX2_manyWith 8 = .ok (.sipush 16384, 3) := by decide +kernel
theorem dX2_manyWith_11 : decode cX2_manyWith 11 = .ok (.if_icmp .ge 49, 3) := by decide +kernel
theorem dX2_manyWith_14 : decode cX2_manyWith 14 = .ok (.iload 4, 2) := by decide +kernel
theorem dX2_manyWith_16 : decode cX2_manyWith 16 = .ok (.aload_n 0, 1) := by decide +kernel
theorem dX2_manyWith_17 : decode cX2_manyWith 17 = .ok (.getfield 7, 3) := by decide +kernel
theorem dX2_manyWith_20 : decode cX2_manyWith 20 = .ok (.iload 5, 2) := by decide +kernel
theorem dX2_manyWith_22 : decode cX2_manyWith 22 = .ok (.baload, 1) := by decide +kernel
theorem dX2_manyWith_23 : decode cX2_manyWith 23 = .ok (.ifCond .eq 27, 3) := by decide +kernel
theorem dX2_manyWith_26 : decode cX2_manyWith 26 = .ok (.iload 5, 2) := by decide +kernel
theorem dX2_manyWith_28 : decode cX2_manyWith 28 = .ok (.iload_n 2, 1) := by decide +kernel
theorem dX2_manyWith_29 : decode cX2_manyWith 29 = .ok (.invokestatic 56, 3) := by decide +kernel
theorem dX2_manyWith_32 : decode cX2_manyWith 32 = .ok (.iload_n 3, 1) := by decide +kernel
theorem dX2_manyWith_33 : decode cX2_manyWith 33 = .ok (.if_icmp .ne 17, 3) := by decide +kernel
theorem dX2_manyWith_36 : decode cX2_manyWith 36 = .ok (.aload_n 0, 1) := by decide +kernel
theorem dX2_manyWith_37 : decode cX2_manyWith 37 = .ok (.iload_n 1, 1) := by decide +kernel
theorem dX2_manyWith_38 : decode cX2_manyWith 38 = .ok (.iload 5, 2) := by decide +kernel
theorem dX2_manyWith_40 : decode cX2_manyWith 40 = .ok (.invokevirtual 115, 3) := by decide +kernel
theorem dX2_manyWith_43 : decode cX2_manyWith 43 = .ok (.ifCond .eq 7, 3) := by decide +kernel
theorem dX2_manyWith_46 : decode cX2_manyWith 46 = .ok (.iconst 1, 1) := by decide +kernel
theorem dX2_manyWith_47 : decode cX2_manyWith 47 = .ok (.goto 4, 3) := by decide +kernel
theorem dX2_manyWith_50 : decode cX2_manyWith 50 = .ok (.iconst 0, 1) := by decide +kernel
theorem dX2_manyWith_51 : decode cX2_manyWith 51 = .ok (.iadd, 1) := by decide +kernel
theorem dX2_manyWith_52 : decode cX2_manyWith 52 = .ok (.istore 4, 2) := by decide +kernel
theorem dX2_manyWith_54 : decode cX2_manyWith 54 = .ok (.iinc 5 1, 3) := by decide +kernel
theorem dX2_manyWith_57 : decode cX2_manyWith 57 = .ok (.goto (-51), 3) := by decide +kernel
theorem dX2_manyWith_60 : decode cX2_manyWith 60 = .ok (.iload 4, 2) := by decide +kernel
theorem dX2_manyWith_62 : decode cX2_manyWith 62 = .ok (.ireturn, 1) := by decide +kernel
set_option maxRecDepth 20000 in
theorem ggX2_worldsWith_X2_isViewer : GoodIn wsX2_worldsWith wsX2_isViewer := goodIn_r _ [7, 8, 9, 10, 6, 11, 12, 13, 14, 15, 39, 40, 41, 42, 43, 44, 45, 46, 47, 48, 49, 50, 51, 52, 53, 54] (by decide +kernel) (by decide +kernel)
set_option maxRecDepth 20000 in
theorem gX2_worldsWith_X2_isViewer : GoodIn wsX2_worldsWith (wsV RX2 112 RX2 yX2_isViewer wsX2_isViewer) := goodIn_app (goodIn_of _ (by decide +kernel)) ggX2_worldsWith_X2_isViewer
set_option maxRecDepth 20000 in
theorem ggX2_worldsWith_X2_isPlayer : GoodIn wsX2_worldsWith wsX2_isPlayer := goodIn_r _ [11, 12, 13, 14, 6, 15, 39, 40, 41, 42, 43, 44, 45, 46, 47, 48, 49, 50, 51, 52, 53, 54] (by decide +kernel) (by decide +kernel)
set_option maxRecDepth 20000 in
theorem gX2_worldsWith_X2_isPlayer : GoodIn wsX2_worldsWith (wsV RX2 31 RX2 yX2_isPlayer wsX2_isPlayer) := goodIn_app (goodIn_of _ (by decide +kernel)) ggX2_worldsWith_X2_isPlayer
set_option maxRecDepth 20000 in
theorem ggX2_worldsWith_X2_in : GoodIn wsX2_worldsWith wsX2_in := goodIn_r _ [15] (by decide +kernel) (by decide +kernel)
set_option maxRecDepth 20000 in
theorem gX2_worldsWith_X2_in : GoodIn wsX2_worldsWith (va_wsS RX2 27 yX2_in wsX2_in) := goodIn_app (goodIn_of _ (by decide +kernel)) ggX2_worldsWith_X2_in
set_option maxRecDepth 20000 in
theorem ggX2_worldsWith_X2_manyWith : GoodIn wsX2_worldsWith wsX2_manyWith := goodIn_r _ [19, 20, 21, 22, 6, 23, 24, 25, 26, 27, 28, 29, 30, 31, 32, 33, 34, 35, 36, 37, 38, 39, 40, 41, 42, 43, 44, 45, 46, 47, 48, 49, 50, 51, 52, 53, 54] (by decide +kernel) (by decide +kernel)
set_option maxRecDepth 20000 in
theorem gX2_worldsWith_X2_manyWith : GoodIn wsX2_worldsWith (wsV RX2 124 RX2 yX2_manyWith wsX2_manyWith) := goodIn_app (goodIn_of _ (by decide +kernel)) ggX2_worldsWith_X2_manyWith
theorem dX2_worldsWith_0 : decode cX2_worldsWith 0 = .ok (.aload_n 0, 1) := by decide +kernel
theorem dX2_worldsWith_1 : decode cX2_worldsWith 1 = .ok (.aload_n 0, 1) := by decide +kernel
theorem dX2_worldsWith_2 : decode cX2_worldsWith 2 = .ok (.getfield 70, 3) := by decide +kernel
theorem dX2_worldsWith_5 : decode cX2_worldsWith 5 = .ok (.ifCond .ne 7, 3) := by decide +kernel
theorem dX2_worldsWith_8 : decode cX2_worldsWith 8 = .ok (.iconst 1, 1) := by decide +kernel
theorem dX2_worldsWith_9 : decode cX2_worldsWith 9 = .ok (.goto 37, 3) := by decide +kernel
theorem dX2_worldsWith_12 : decode cX2_worldsWith 12 = .ok (.aload_n 0, 1) := by decide +kernel
theorem dX2_worldsWith_13 : decode cX2_worldsWith 13 = .ok (.iload_n 1, 1) := by decide +kernel
theorem dX2_worldsWith_14 : decode cX2_worldsWith 14 = .ok (.invokevirtual 112, 3) := by decide +kernel
theorem dX2_worldsWith_17 : decode cX2_worldsWith 17 = .ok (.ifCond .eq 11, 3) := by decide +kernel
theorem dX2_worldsWith_20 : decode cX2_worldsWith 20 = .ok (.aload_n 0, 1) := by decide +kernel
theorem dX2_worldsWith_21 : decode cX2_worldsWith 21 = .ok (.iload_n 2, 1) := by decide +kernel
theorem dX2_worldsWith_22 : decode cX2_worldsWith 22 = .ok (.invokevirtual 31, 3) := by decide +kernel
theorem dX2_worldsWith_25 : decode cX2_worldsWith 25 = .ok (.ifCond .ne 7, 3) := by decide +kernel
theorem dX2_worldsWith_28 : decode cX2_worldsWith 28 = .ok (.iconst 2, 1) := by decide +kernel
theorem dX2_worldsWith_29 : decode cX2_worldsWith 29 = .ok (.goto 17, 3) := by decide +kernel
theorem dX2_worldsWith_32 : decode cX2_worldsWith 32 = .ok (.iload_n 3, 1) := by decide +kernel
theorem dX2_worldsWith_33 : decode cX2_worldsWith 33 = .ok (.iconst 0, 1) := by decide +kernel
theorem dX2_worldsWith_34 : decode cX2_worldsWith 34 = .ok (.iconst 3, 1) := by decide +kernel
theorem dX2_worldsWith_35 : decode cX2_worldsWith 35 = .ok (.invokestatic 27, 3) := by decide +kernel
theorem dX2_worldsWith_38 : decode cX2_worldsWith 38 = .ok (.ifCond .eq 7, 3) := by decide +kernel
theorem dX2_worldsWith_41 : decode cX2_worldsWith 41 = .ok (.iconst 0, 1) := by decide +kernel
theorem dX2_worldsWith_42 : decode cX2_worldsWith 42 = .ok (.goto 4, 3) := by decide +kernel
theorem dX2_worldsWith_45 : decode cX2_worldsWith 45 = .ok (.iconst 3, 1) := by decide +kernel
theorem dX2_worldsWith_46 : decode cX2_worldsWith 46 = .ok (.putfield 20, 3) := by decide +kernel
theorem dX2_worldsWith_49 : decode cX2_worldsWith 49 = .ok (.aload_n 0, 1) := by decide +kernel
theorem dX2_worldsWith_50 : decode cX2_worldsWith 50 = .ok (.getfield 20, 3) := by decide +kernel
theorem dX2_worldsWith_53 : decode cX2_worldsWith 53 = .ok (.ifCond .le 7, 3) := by decide +kernel
theorem dX2_worldsWith_56 : decode cX2_worldsWith 56 = .ok (.iconst 0, 1) := by decide +kernel
theorem dX2_worldsWith_57 : decode cX2_worldsWith 57 = .ok (.goto 10, 3) := by decide +kernel
theorem dX2_worldsWith_60 : decode cX2_worldsWith 60 = .ok (.aload_n 0, 1) := by decide +kernel
theorem dX2_worldsWith_61 : decode cX2_worldsWith 61 = .ok (.iload_n 1, 1) := by decide +kernel
theorem dX2_worldsWith_62 : decode cX2_worldsWith 62 = .ok (.iload_n 2, 1) := by decide +kernel
theorem dX2_worldsWith_63 : decode cX2_worldsWith 63 = .ok (.iload_n 3, 1) := by decide +kernel
theorem dX2_worldsWith_64 : decode cX2_worldsWith 64 = .ok (.invokevirtual 124, 3) := by decide +kernel
theorem dX2_worldsWith_67 : decode cX2_worldsWith 67 = .ok (.ireturn, 1) := by decide +kernel
set_option maxRecDepth 20000 in
theorem ggX2_inSome_X2_isFor : GoodIn wsX2_inSome wsX2_isFor := goodIn_r _ [6, 7, 8, 9, 10, 11, 12, 5, 13, 14, 15, 16, 17, 18, 19, 20, 21, 22, 23, 24, 25, 26, 27, 28, 29, 30, 31, 32, 33, 34, 35, 36, 37] (by decide +kernel) (by decide +kernel)
set_option maxRecDepth 20000 in
theorem gX2_inSome_X2_isFor : GoodIn wsX2_inSome (wsV RX2 115 RX2 yX2_isFor wsX2_isFor) := goodIn_app (goodIn_of _ (by decide +kernel)) ggX2_inSome_X2_isFor
theorem dX2_inSome_0 : decode cX2_inSome 0 = .ok (.iconst 0, 1) := by decide +kernel
theorem dX2_inSome_1 : decode cX2_inSome 1 = .ok (.istore_n 3, 1) := by decide +kernel
theorem dX2_inSome_2 : decode cX2_inSome 2 = .ok (.iconst 0, 1) := by decide +kernel
theorem dX2_inSome_3 : decode cX2_inSome 3 = .ok (.istore 4, 2) := by decide +kernel
theorem dX2_inSome_5 : decode cX2_inSome 5 = .ok (.iload 4, 2) := by decide +kernel
theorem dX2_inSome_7 : decode cX2_inSome 7 = .ok (.sipush 16384, 3) := by decide +kernel
theorem dX2_inSome_10 : decode cX2_inSome 10 = .ok (.if_icmp .ge 41, 3) := by decide +kernel
theorem dX2_inSome_13 : decode cX2_inSome 13 = .ok (.aload_n 0, 1) := by decide +kernel
theorem dX2_inSome_14 : decode cX2_inSome 14 = .ok (.iload_n 1, 1) := by decide +kernel
theorem dX2_inSome_15 : decode cX2_inSome 15 = .ok (.iload 4, 2) := by decide +kernel
theorem dX2_inSome_17 : decode cX2_inSome 17 = .ok (.invokevirtual 115, 3) := by decide +kernel
theorem dX2_inSome_20 : decode cX2_inSome 20 = .ok (.ifCond .eq 25, 3) := by decide +kernel
theorem dX2_inSome_23 : decode cX2_inSome 23 = .ok (.iload_n 3, 1) := by decide +kernel
theorem dX2_inSome_24 : decode cX2_inSome 24 = .ok (.iload_n 2, 1) := by decide +kernel
theorem dX2_inSome_25 : decode cX2_inSome 25 = .ok (.ifCond .eq 11, 3) := by decide +kernel
theorem dX2_inSome_28 : decode cX2_inSome 28 = .ok (.iload 4, 2) := by decide +kernel
theorem dX2_inSome_30 : decode cX2_inSome 30 = .ok (.bipush 64, 2) := by decide +kernel
theorem dX2_inSome_32 : decode cX2_inSome 32 = .ok (.idiv, 1) := by decide +kernel
theorem dX2_inSome_33 : decode cX2_inSome 33 = .ok (.goto 10, 3) := by decide +kernel
theorem dX2_inSome_36 : decode cX2_inSome 36 = .ok (.iload 4, 2) := by decide +kernel
theorem dX2_inSome_38 : decode cX2_inSome 38 = .ok (.bipush 64, 2) := by decide +kernel
theorem dX2_inSome_40 : decode cX2_inSome 40 = .ok (.idiv, 1) := by decide +kernel
theorem dX2_inSome_41 : decode cX2_inSome 41 = .ok (.iconst (-1), 1) := by decide +kernel
theorem dX2_inSome_42 : decode cX2_inSome 42 = .ok (.ixor, 1) := by decide +kernel
theorem dX2_inSome_43 : decode cX2_inSome 43 = .ok (.ior, 1) := by decide +kernel
theorem dX2_inSome_44 : decode cX2_inSome 44 = .ok (.istore_n 3, 1) := by decide +kernel
theorem dX2_inSome_45 : decode cX2_inSome 45 = .ok (.iinc 4 1, 3) := by decide +kernel
theorem dX2_inSome_48 : decode cX2_inSome 48 = .ok (.goto (-43), 3) := by decide +kernel
theorem dX2_inSome_51 : decode cX2_inSome 51 = .ok (.iload_n 3, 1) := by decide +kernel
theorem dX2_inSome_52 : decode cX2_inSome 52 = .ok (.iconst 1, 1) := by decide +kernel
theorem dX2_inSome_53 : decode cX2_inSome 53 = .ok (.aload_n 0, 1) := by decide +kernel
theorem dX2_inSome_54 : decode cX2_inSome 54 = .ok (.getfield 24, 3) := by decide +kernel
theorem dX2_inSome_57 : decode cX2_inSome 57 = .ok (.ishl, 1) := by decide +kernel
theorem dX2_inSome_58 : decode cX2_inSome 58 = .ok (.iconst 1, 1) := by decide +kernel
theorem dX2_inSome_59 : decode cX2_inSome 59 = .ok (.isub, 1) := by decide +kernel
theorem dX2_inSome_60 : decode cX2_inSome 60 = .ok (.iand, 1) := by decide +kernel
theorem dX2_inSome_61 : decode cX2_inSome 61 = .ok (.ireturn, 1) := by decide +kernel
set_option maxRecDepth 20000 in
theorem ggX2_sureWitches_X2_asks : GoodIn wsX2_sureWitches wsX2_asks := goodIn_r _ [6, 7, 8, 9, 10, 11, 5, 12, 13, 14, 15, 16, 1, 17, 18, 19, 43, 44, 45, 46, 47, 48, 49, 50, 51, 52, 53, 54, 55, 56, 57, 58] (by decide +kernel) (by decide +kernel)
set_option maxRecDepth 20000 in
theorem gX2_sureWitches_X2_asks : GoodIn wsX2_sureWitches (wsV RX2 118 RX2 yX2_asks wsX2_asks) := goodIn_app (goodIn_of _ (by decide +kernel)) ggX2_sureWitches_X2_asks
set_option maxRecDepth 20000 in
theorem ggX2_sureWitches_X2_inSome : GoodIn wsX2_sureWitches wsX2_inSome := goodIn_r _ [23, 1, 24, 25, 26, 5, 27, 28, 29, 30, 31, 32, 33, 34, 35, 36, 37, 38, 39, 40, 41, 42, 43, 44, 45, 46, 47, 48, 49, 50, 51, 52, 53, 54, 55, 56, 57, 58] (by decide +kernel) (by decide +kernel)
set_option maxRecDepth 20000 in
theorem gX2_sureWitches_X2_inSome : GoodIn wsX2_sureWitches (wsV RX2 128 RX2 yX2_inSome wsX2_inSome) := goodIn_app (goodIn_of _ (by decide +kernel)) ggX2_sureWitches_X2_inSome
theorem dX2_sureWitches_0 : decode cX2_sureWitches 0 = .ok (.aload_n 0, 1) := by decide +kernel
theorem dX2_sureWitches_1 : decode cX2_sureWitches 1 = .ok (.iload_n 1, 1) := by decide +kernel
theorem dX2_sureWitches_2 : decode cX2_sureWitches 2 = .ok (.invokevirtual 118, 3) := by decide +kernel
theorem dX2_sureWitches_5 : decode cX2_sureWitches 5 = .ok (.ifCond .eq 23, 3) := by decide +kernel
theorem dX2_sureWitches_8 : decode cX2_sureWitches 8 = .ok (.iconst 1, 1) := by decide +kernel
theorem dX2_sureWitches_9 : decode cX2_sureWitches 9 = .ok (.aload_n 0, 1) := by decide +kernel
theorem dX2_sureWitches_10 : decode cX2_sureWitches 10 = .ok (.getfield 24, 3) := by decide +kernel
theorem dX2_sureWitches_13 : decode cX2_sureWitches 13 = .ok (.ishl, 1) := by decide +kernel
theorem dX2_sureWitches_14 : decode cX2_sureWitches 14 = .ok (.iconst 1, 1) := by decide +kernel
theorem dX2_sureWitches_15 : decode cX2_sureWitches 15 = .ok (.isub, 1) := by decide +kernel
theorem dX2_sureWitches_16 : decode cX2_sureWitches 16 = .ok (.aload_n 0, 1) := by decide +kernel
theorem dX2_sureWitches_17 : decode cX2_sureWitches 17 = .ok (.iload_n 1, 1) := by decide +kernel
theorem dX2_sureWitches_18 : decode cX2_sureWitches 18 = .ok (.iconst 0, 1) := by decide +kernel
theorem dX2_sureWitches_19 : decode cX2_sureWitches 19 = .ok (.invokevirtual 128, 3) := by decide +kernel
theorem dX2_sureWitches_22 : decode cX2_sureWitches 22 = .ok (.iconst (-1), 1) := by decide +kernel
theorem dX2_sureWitches_23 : decode cX2_sureWitches 23 = .ok (.ixor, 1) := by decide +kernel
theorem dX2_sureWitches_24 : decode cX2_sureWitches 24 = .ok (.iand, 1) := by decide +kernel
theorem dX2_sureWitches_25 : decode cX2_sureWitches 25 = .ok (.goto 4, 3) := by decide +kernel
theorem dX2_sureWitches_28 : decode cX2_sureWitches 28 = .ok (.iconst 0, 1) := by decide +kernel
theorem dX2_sureWitches_29 : decode cX2_sureWitches 29 = .ok (.ireturn, 1) := by decide +kernel
set_option maxRecDepth 20000 in
theorem ggX2_sureHonest_X2_asks : GoodIn wsX2_sureHonest wsX2_asks := goodIn_r _ [6, 7, 8, 9, 10, 11, 5, 12, 13, 14, 15, 16, 1, 17, 18, 19, 43, 44, 45, 46, 47, 48, 49, 50, 51, 52, 53, 54, 55, 56, 57, 58] (by decide +kernel) (by decide +kernel)
set_option maxRecDepth 20000 in
theorem gX2_sureHonest_X2_asks : GoodIn wsX2_sureHonest (wsV RX2 118 RX2 yX2_asks wsX2_asks) := goodIn_app (goodIn_of _ (by decide +kernel)) ggX2_sureHonest_X2_asks
set_option maxRecDepth 20000 in
theorem ggX2_sureHonest_X2_inSome : GoodIn wsX2_sureHonest wsX2_inSome := goodIn_r _ [23, 1, 24, 25, 26, 5, 27, 28, 29, 30, 31, 32, 33, 34, 35, 36, 37, 38, 39, 40, 41, 42, 43, 44, 45, 46, 47, 48, 49, 50, 51, 52, 53, 54, 55, 56, 57, 58] (by decide +kernel) (by decide +kernel)
set_option maxRecDepth 20000 in
theorem gX2_sureHonest_X2_inSome : GoodIn wsX2_sureHonest (wsV RX2 128 RX2 yX2_inSome wsX2_inSome) := goodIn_app (goodIn_of _ (by decide +kernel)) ggX2_sureHonest_X2_inSome
theorem dX2_sureHonest_0 : decode cX2_sureHonest 0 = .ok (.aload_n 0, 1) := by decide +kernel
theorem dX2_sureHonest_1 : decode cX2_sureHonest 1 = .ok (.iload_n 1, 1) := by decide +kernel
theorem dX2_sureHonest_2 : decode cX2_sureHonest 2 = .ok (.invokevirtual 118, 3) := by decide +kernel
theorem dX2_sureHonest_5 : decode cX2_sureHonest 5 = .ok (.ifCond .eq 23, 3) := by decide +kernel
theorem dX2_sureHonest_8 : decode cX2_sureHonest 8 = .ok (.iconst 1, 1) := by decide +kernel
theorem dX2_sureHonest_9 : decode cX2_sureHonest 9 = .ok (.aload_n 0, 1) := by decide +kernel
theorem dX2_sureHonest_10 : decode cX2_sureHonest 10 = .ok (.getfield 24, 3) := by decide +kernel
theorem dX2_sureHonest_13 : decode cX2_sureHonest 13 = .ok (.ishl, 1) := by decide +kernel
theorem dX2_sureHonest_14 : decode cX2_sureHonest 14 = .ok (.iconst 1, 1) := by decide +kernel
theorem dX2_sureHonest_15 : decode cX2_sureHonest 15 = .ok (.isub, 1) := by decide +kernel
theorem dX2_sureHonest_16 : decode cX2_sureHonest 16 = .ok (.aload_n 0, 1) := by decide +kernel
theorem dX2_sureHonest_17 : decode cX2_sureHonest 17 = .ok (.iload_n 1, 1) := by decide +kernel
theorem dX2_sureHonest_18 : decode cX2_sureHonest 18 = .ok (.iconst 1, 1) := by decide +kernel
theorem dX2_sureHonest_19 : decode cX2_sureHonest 19 = .ok (.invokevirtual 128, 3) := by decide +kernel
theorem dX2_sureHonest_22 : decode cX2_sureHonest 22 = .ok (.iconst (-1), 1) := by decide +kernel
theorem dX2_sureHonest_23 : decode cX2_sureHonest 23 = .ok (.ixor, 1) := by decide +kernel
theorem dX2_sureHonest_24 : decode cX2_sureHonest 24 = .ok (.iand, 1) := by decide +kernel
theorem dX2_sureHonest_25 : decode cX2_sureHonest 25 = .ok (.goto 4, 3) := by decide +kernel
theorem dX2_sureHonest_28 : decode cX2_sureHonest 28 = .ok (.iconst 0, 1) := by decide +kernel
theorem dX2_sureHonest_29 : decode cX2_sureHonest 29 = .ok (.ireturn, 1) := by decide +kernel
set_option maxRecDepth 20000 in
theorem ggX2_witchSets_X2_asks : GoodIn wsX2_witchSets wsX2_asks := goodIn_r _ [5, 6, 7, 8, 9, 10, 4, 11, 12, 13, 14, 15, 16, 17, 18, 19, 39, 40, 41, 42, 43, 44, 45, 46, 47, 48, 49, 50, 51, 52, 53, 54] (by decide +kernel) (by decide +kernel)
set_option maxRecDepth 20000 in
theorem gX2_witchSets_X2_asks : GoodIn wsX2_witchSets (wsV RX2 118 RX2 yX2_asks wsX2_asks) := goodIn_app (goodIn_of _ (by decide +kernel)) ggX2_witchSets_X2_asks
set_option maxRecDepth 20000 in
theorem ggX2_witchSets_X2_isFor : GoodIn wsX2_witchSets wsX2_isFor := goodIn_r _ [23, 24, 25, 26, 27, 28, 29, 4, 30, 31, 32, 33, 34, 35, 36, 37, 38, 39, 40, 41, 42, 43, 44, 45, 46, 47, 48, 49, 50, 51, 52, 53, 54] (by decide +kernel) (by decide +kernel)
set_option maxRecDepth 20000 in
theorem gX2_witchSets_X2_isFor : GoodIn wsX2_witchSets (wsV RX2 115 RX2 yX2_isFor wsX2_isFor) := goodIn_app (goodIn_of _ (by decide +kernel)) ggX2_witchSets_X2_isFor
theorem dX2_witchSets_0 : decode cX2_witchSets 0 = .ok (.aload_n 0, 1) := by decide +kernel
theorem dX2_witchSets_1 : decode cX2_witchSets 1 = .ok (.iload_n 1, 1) := by decide +kernel
theorem dX2_witchSets_2 : decode cX2_witchSets 2 = .ok (.invokevirtual 118, 3) := by decide +kernel
theorem dX2_witchSets_5 : decode cX2_witchSets 5 = .ok (.ifCond .ne 5, 3) := by decide +kernel
theorem dX2_witchSets_8 : decode cX2_witchSets 8 = .ok (.iconst 0, 1) := by decide +kernel
theorem dX2_witchSets_9 : decode cX2_witchSets 9 = .ok (.ireturn, 1) := by decide +kernel
theorem dX2_witchSets_10 : decode cX2_witchSets 10 = .ok (.iconst 0, 1) := by decide +kernel
theorem dX2_witchSets_11 : decode cX2_witchSets 11 = .ok (.istore_n 2, 1) := by decide +kernel
theorem dX2_witchSets_12 : decode cX2_witchSets 12 = .ok (.iconst 0, 1) := by decide +kernel
theorem dX2_witchSets_13 : decode cX2_witchSets 13 = .ok (.istore_n 3, 1) := by decide +kernel
theorem dX2_witchSets_14 : decode cX2_witchSets 14 = .ok (.iload_n 3, 1) := by decide +kernel
theorem dX2_witchSets_15 : decode cX2_witchSets 15 = .ok (.sipush 256, 3) := by decide +kernel
theorem dX2_witchSets_18 : decode cX2_witchSets 18 = .ok (.if_icmp .ge 71, 3) := by decide +kernel
theorem dX2_witchSets_21 : decode cX2_witchSets 21 = .ok (.iconst 0, 1) := by decide +kernel
theorem dX2_witchSets_22 : decode cX2_witchSets 22 = .ok (.istore 4, 2) := by decide +kernel
theorem dX2_witchSets_24 : decode cX2_witchSets 24 = .ok (.bipush 64, 2) := by decide +kernel
theorem dX2_witchSets_26 : decode cX2_witchSets 26 = .ok (.iload_n 3, 1) := by decide +kernel
theorem dX2_witchSets_27 : decode cX2_witchSets 27 = .ok (.imul, 1) := by decide +kernel
theorem dX2_witchSets_28 : decode cX2_witchSets 28 = .ok (.istore 5, 2) := by decide +kernel
theorem dX2_witchSets_30 : decode cX2_witchSets 30 = .ok (.iload 5, 2) := by decide +kernel
theorem dX2_witchSets_32 : decode cX2_witchSets 32 = .ok (.bipush 64, 2) := by decide +kernel
theorem dX2_witchSets_34 : decode cX2_witchSets 34 = .ok (.iload_n 3, 1) := by decide +kernel
theorem dX2_witchSets_35 : decode cX2_witchSets 35 = .ok (.imul, 1) := by decide +kernel
theorem dX2_witchSets_36 : decode cX2_witchSets 36 = .ok (.bipush 64, 2) := by decide +kernel
theorem dX2_witchSets_38 : decode cX2_witchSets 38 = .ok (.iadd, 1) := by decide +kernel
theorem dX2_witchSets_39 : decode cX2_witchSets 39 = .ok (.if_icmp .ge 31, 3) := by decide +kernel
theorem dX2_witchSets_42 : decode cX2_witchSets 42 = .ok (.iload 4, 2) := by decide +kernel
theorem dX2_witchSets_44 : decode cX2_witchSets 44 = .ok (.ifCond .ne 13, 3) := by decide +kernel
theorem dX2_witchSets_47 : decode cX2_witchSets 47 = .ok (.aload_n 0, 1) := by decide +kernel
theorem dX2_witchSets_48 : decode cX2_witchSets 48 = .ok (.iload_n 1, 1) := by decide +kernel
theorem dX2_witchSets_49 : decode cX2_witchSets 49 = .ok (.iload 5, 2) := by decide +kernel
theorem dX2_witchSets_51 : decode cX2_witchSets 51 = .ok (.invokevirtual 115, 3) := by decide +kernel
theorem dX2_witchSets_54 : decode cX2_witchSets 54 = .ok (.ifCond .eq 7, 3) := by decide +kernel
theorem dX2_witchSets_57 : decode cX2_witchSets 57 = .ok (.iconst 1, 1) := by decide +kernel
theorem dX2_witchSets_58 : decode cX2_witchSets 58 = .ok (.goto 4, 3) := by decide +kernel
theorem dX2_witchSets_61 : decode cX2_witchSets 61 = .ok (.iconst 0, 1) := by decide +kernel
theorem dX2_witchSets_62 : decode cX2_witchSets 62 = .ok (.istore 4, 2) := by decide +kernel
theorem dX2_witchSets_64 : decode cX2_witchSets 64 = .ok (.iinc 5 1, 3) := by decide +kernel
theorem dX2_witchSets_67 : decode cX2_witchSets 67 = .ok (.goto (-37), 3) := by decide +kernel
theorem dX2_witchSets_70 : decode cX2_witchSets 70 = .ok (.iload_n 2, 1) := by decide +kernel
theorem dX2_witchSets_71 : decode cX2_witchSets 71 = .ok (.iload 4, 2) := by decide +kernel
theorem dX2_witchSets_73 : decode cX2_witchSets 73 = .ok (.ifCond .eq 7, 3) := by decide +kernel
theorem dX2_witchSets_76 : decode cX2_witchSets 76 = .ok (.iconst 1, 1) := by decide +kernel
theorem dX2_witchSets_77 : decode cX2_witchSets 77 = .ok (.goto 4, 3) := by decide +kernel
theorem dX2_witchSets_80 : decode cX2_witchSets 80 = .ok (.iconst 0, 1) := by decide +kernel
theorem dX2_witchSets_81 : decode cX2_witchSets 81 = .ok (.iadd, 1) := by decide +kernel
theorem dX2_witchSets_82 : decode cX2_witchSets 82 = .ok (.istore_n 2, 1) := by decide +kernel
theorem dX2_witchSets_83 : decode cX2_witchSets 83 = .ok (.iinc 3 1, 3) := by decide +kernel
theorem dX2_witchSets_86 : decode cX2_witchSets 86 = .ok (.goto (-72), 3) := by decide +kernel
theorem dX2_witchSets_89 : decode cX2_witchSets 89 = .ok (.iload_n 2, 1) := by decide +kernel
theorem dX2_witchSets_90 : decode cX2_witchSets 90 = .ok (.ireturn, 1) := by decide +kernel
set_option maxRecDepth 20000 in
theorem ggX2_laysWitches_X2_manyWith : GoodIn wsX2_laysWitches wsX2_manyWith := goodIn_r _ [7, 8, 9, 10, 6, 11, 12, 13, 14, 15, 16, 17, 18, 19, 20, 21, 22, 23, 24, 25, 26, 27, 28, 29, 30, 31, 32, 33, 34, 35, 36, 37, 38, 39, 40, 41, 42] (by decide +kernel) (by decide +kernel)
set_option maxRecDepth 20000 in
theorem gX2_laysWitches_X2_manyWith : GoodIn wsX2_laysWitches (wsV RX2 124 RX2 yX2_manyWith wsX2_manyWith) := goodIn_app (goodIn_of _ (by decide +kernel)) ggX2_laysWitches_X2_manyWith
theorem dX2_laysWitches_0 : decode cX2_laysWitches 0 = .ok (.iconst 0, 1) := by decide +kernel
theorem dX2_laysWitches_1 : decode cX2_laysWitches 1 = .ok (.istore_n 2, 1) := by decide +kernel
theorem dX2_laysWitches_2 : decode cX2_laysWitches 2 = .ok (.iload_n 2, 1) := by decide +kernel
theorem dX2_laysWitches_3 : decode cX2_laysWitches 3 = .ok (.aload_n 0, 1) := by decide +kernel
theorem dX2_laysWitches_4 : decode cX2_laysWitches 4 = .ok (.getfield 24, 3) := by decide +kernel
theorem dX2_laysWitches_7 : decode cX2_laysWitches 7 = .ok (.if_icmp .ge 22, 3) := by decide +kernel
theorem dX2_laysWitches_10 : decode cX2_laysWitches 10 = .ok (.aload_n 0, 1) := by decide +kernel
theorem dX2_laysWitches_11 : decode cX2_laysWitches 11 = .ok (.getfield 17, 3) := by decide +kernel
theorem dX2_laysWitches_14 : decode cX2_laysWitches 14 = .ok (.iload_n 2, 1) := by decide +kernel
theorem dX2_laysWitches_15 : decode cX2_laysWitches 15 = .ok (.aload_n 0, 1) := by decide +kernel
theorem dX2_laysWitches_16 : decode cX2_laysWitches 16 = .ok (.iload_n 1, 1) := by decide +kernel
theorem dX2_laysWitches_17 : decode cX2_laysWitches 17 = .ok (.iload_n 2, 1) := by decide +kernel
theorem dX2_laysWitches_18 : decode cX2_laysWitches 18 = .ok (.iconst 1, 1) := by decide +kernel
theorem dX2_laysWitches_19 : decode cX2_laysWitches 19 = .ok (.invokevirtual 124, 3) := by decide +kernel
theorem dX2_laysWitches_22 : decode cX2_laysWitches 22 = .ok (.iastore, 1) := by decide +kernel
theorem dX2_laysWitches_23 : decode cX2_laysWitches 23 = .ok (.iinc 2 1, 3) := by decide +kernel
theorem dX2_laysWitches_26 : decode cX2_laysWitches 26 = .ok (.goto (-24), 3) := by decide +kernel
theorem dX2_laysWitches_29 : decode cX2_laysWitches 29 = .ok (.return_, 1) := by decide +kernel
set_option maxRecDepth 20000 in
theorem ggX2_suspect_X2_asks : GoodIn wsX2_suspect wsX2_asks := goodIn_r _ [8, 9, 10, 11, 12, 13, 7, 14, 15, 16, 17, 18, 1, 19, 20, 21, 49, 50, 51, 52, 53, 54, 55, 56, 57, 58, 59, 60, 61, 62, 63, 64] (by decide +kernel) (by decide +kernel)
set_option maxRecDepth 20000 in
theorem gX2_suspect_X2_asks : GoodIn wsX2_suspect (wsV RX2 118 RX2 yX2_asks wsX2_asks) := goodIn_app (goodIn_of _ (by decide +kernel)) ggX2_suspect_X2_asks
set_option maxRecDepth 20000 in
theorem ggX2_suspect_X2_laysWitches : GoodIn wsX2_suspect wsX2_laysWitches := goodIn_r _ [25, 1, 3, 26, 27, 28, 7, 29, 30, 31, 32, 33, 34, 35, 36, 37, 38, 39, 40, 41, 42, 43, 44, 45, 46, 47, 48, 49, 50, 51, 52, 53, 54, 55, 56, 57, 58, 59, 60, 61, 62, 63, 64] (by decide +kernel) (by decide +kernel)
set_option maxRecDepth 20000 in
theorem gX2_suspect_X2_laysWitches : GoodIn wsX2_suspect (wsV RX2 132 RX2 yX2_laysWitches wsX2_laysWitches) := goodIn_app (goodIn_of _ (by decide +kernel)) ggX2_suspect_X2_laysWitches
set_option maxRecDepth 20000 in
theorem ggX2_suspect_X2_has : GoodIn wsX2_suspect wsX2_has := goodIn_r _ [36] (by decide +kernel) (by decide +kernel)
set_option maxRecDepth 20000 in
theorem gX2_suspect_X2_has : GoodIn wsX2_suspect (va_wsS RX2 39 yX2_has wsX2_has) := goodIn_app (goodIn_of _ (by decide +kernel)) ggX2_suspect_X2_has
theorem dX2_suspect_0 : decode cX2_suspect 0 = .ok (.aload_n 0, 1) := by decide +kernel
theorem dX2_suspect_1 : decode cX2_suspect 1 = .ok (.iload_n 1, 1) := by decide +kernel
theorem dX2_suspect_2 : decode cX2_suspect 2 = .ok (.invokevirtual 118, 3) := by decide +kernel
theorem dX2_suspect_5 : decode cX2_suspect 5 = .ok (.ifCond .ne 5, 3) := by decide +kernel
theorem dX2_suspect_8 : decode cX2_suspect 8 = .ok (.iconst 0, 1) := by decide +kernel
theorem dX2_suspect_9 : decode cX2_suspect 9 = .ok (.ireturn, 1) := by decide +kernel
theorem dX2_suspect_10 : decode cX2_suspect 10 = .ok (.aload_n 0, 1) := by decide +kernel
theorem dX2_suspect_11 : decode cX2_suspect 11 = .ok (.iload_n 1, 1) := by decide +kernel
theorem dX2_suspect_12 : decode cX2_suspect 12 = .ok (.invokevirtual 132, 3) := by decide +kernel
theorem dX2_suspect_15 : decode cX2_suspect 15 = .ok (.iconst (-1), 1) := by decide +kernel
theorem dX2_suspect_16 : decode cX2_suspect 16 = .ok (.istore_n 2, 1) := by decide +kernel
theorem dX2_suspect_17 : decode cX2_suspect 17 = .ok (.iconst 0, 1) := by decide +kernel
theorem dX2_suspect_18 : decode cX2_suspect 18 = .ok (.istore_n 3, 1) := by decide +kernel
theorem dX2_suspect_19 : decode cX2_suspect 19 = .ok (.iload_n 3, 1) := by decide +kernel
theorem dX2_suspect_20 : decode cX2_suspect 20 = .ok (.aload_n 0, 1) := by decide +kernel
theorem dX2_suspect_21 : decode cX2_suspect 21 = .ok (.getfield 24, 3) := by decide +kernel
theorem dX2_suspect_24 : decode cX2_suspect 24 = .ok (.if_icmp .ge 47, 3) := by decide +kernel
theorem dX2_suspect_27 : decode cX2_suspect 27 = .ok (.aload_n 0, 1) := by decide +kernel
theorem dX2_suspect_28 : decode cX2_suspect 28 = .ok (.getfield 67, 3) := by decide +kernel
theorem dX2_suspect_31 : decode cX2_suspect 31 = .ok (.iload_n 3, 1) := by decide +kernel
theorem dX2_suspect_32 : decode cX2_suspect 32 = .ok (.invokestatic 39, 3) := by decide +kernel
theorem dX2_suspect_35 : decode cX2_suspect 35 = .ok (.ifCond .eq 30, 3) := by decide +kernel
theorem dX2_suspect_38 : decode cX2_suspect 38 = .ok (.iload_n 3, 1) := by decide +kernel
theorem dX2_suspect_39 : decode cX2_suspect 39 = .ok (.iload_n 1, 1) := by decide +kernel
theorem dX2_suspect_40 : decode cX2_suspect 40 = .ok (.if_icmp .eq 25, 3) := by decide +kernel
theorem dX2_suspect_43 : decode cX2_suspect 43 = .ok (.iload_n 2, 1) := by decide +kernel
theorem dX2_suspect_44 : decode cX2_suspect 44 = .ok (.iconst (-1), 1) := by decide +kernel
theorem dX2_suspect_45 : decode cX2_suspect 45 = .ok (.if_icmp .eq 18, 3) := by decide +kernel
theorem dX2_suspect_48 : decode cX2_suspect 48 = .ok (.aload_n 0, 1) := by decide +kernel
theorem dX2_suspect_49 : decode cX2_suspect 49 = .ok (.getfield 17, 3) := by decide +kernel
theorem dX2_suspect_52 : decode cX2_suspect 52 = .ok (.iload_n 3, 1) := by decide +kernel
theorem dX2_suspect_53 : decode cX2_suspect 53 = .ok (.iaload, 1) := by decide +kernel
theorem dX2_suspect_54 : decode cX2_suspect 54 = .ok (.aload_n 0, 1) := by decide +kernel
theorem dX2_suspect_55 : decode cX2_suspect 55 = .ok (.getfield 17, 3) := by decide +kernel
theorem dX2_suspect_58 : decode cX2_suspect 58 = .ok (.iload_n 2, 1) := by decide +kernel
theorem dX2_suspect_59 : decode cX2_suspect 59 = .ok (.iaload, 1) := by decide +kernel
theorem dX2_suspect_60 : decode cX2_suspect 60 = .ok (.if_icmp .le 5, 3) := by decide +kernel
theorem dX2_suspect_63 : decode cX2_suspect 63 = .ok (.iload_n 3, 1) := by decide +kernel
theorem dX2_suspect_64 : decode cX2_suspect 64 = .ok (.istore_n 2, 1) := by decide +kernel
theorem dX2_suspect_65 : decode cX2_suspect 65 = .ok (.iinc 3 1, 3) := by decide +kernel
theorem dX2_suspect_68 : decode cX2_suspect 68 = .ok (.goto (-49), 3) := by decide +kernel
theorem dX2_suspect_71 : decode cX2_suspect 71 = .ok (.iload_n 2, 1) := by decide +kernel
theorem dX2_suspect_72 : decode cX2_suspect 72 = .ok (.ireturn, 1) := by decide +kernel
set_option maxRecDepth 20000 in
theorem ggX2_bestLook_X2_isGame : GoodIn wsX2_bestLook wsX2_isGame := goodIn_r _ [9, 10, 11, 42, 43, 44, 45, 46, 47, 48, 49, 50, 51, 52, 53, 54, 55, 56, 57] (by decide +kernel) (by decide +kernel)
set_option maxRecDepth 20000 in
theorem gX2_bestLook_X2_isGame : GoodIn wsX2_bestLook (wsV RX2 108 RX2 yX2_isGame wsX2_isGame) := goodIn_app (goodIn_of _ (by decide +kernel)) ggX2_bestLook_X2_isGame
set_option maxRecDepth 20000 in
theorem ggX2_bestLook_X2_laysWitches : GoodIn wsX2_bestLook wsX2_laysWitches := goodIn_r _ [15, 2, 3, 16, 17, 18, 8, 19, 20, 21, 22, 23, 24, 25, 26, 27, 28, 29, 30, 31, 32, 33, 34, 35, 36, 1, 37, 42, 43, 44, 45, 46, 47, 48, 49, 50, 51, 52, 53, 54, 55, 56, 57] (by decide +kernel) (by decide +kernel)
set_option maxRecDepth 20000 in
theorem gX2_bestLook_X2_laysWitches : GoodIn wsX2_bestLook (wsV RX2 132 RX2 yX2_laysWitches wsX2_laysWitches) := goodIn_app (goodIn_of _ (by decide +kernel)) ggX2_bestLook_X2_laysWitches
set_option maxRecDepth 20000 in
theorem ggX2_bestLook_X2_manyFor : GoodIn wsX2_bestLook wsX2_manyFor := goodIn_r _ [41, 27, 28, 29, 8, 30, 20, 31, 32, 33, 34, 35, 36, 1, 37, 21, 22, 23, 24, 25, 26, 42, 43, 44, 45, 46, 47, 48, 49, 50, 51, 52, 53, 54, 55, 56, 57] (by decide +kernel) (by decide +kernel)
set_option maxRecDepth 20000 in
theorem gX2_bestLook_X2_manyFor : GoodIn wsX2_bestLook (wsV RX2 121 RX2 yX2_manyFor wsX2_manyFor) := goodIn_app (goodIn_of _ (by decide +kernel)) ggX2_bestLook_X2_manyFor
set_option maxRecDepth 20000 in
theorem ggX2_bestLook_X2_has : GoodIn wsX2_bestLook wsX2_has := goodIn_r _ [26] (by decide +kernel) (by decide +kernel)
set_option maxRecDepth 20000 in
theorem gX2_bestLook_X2_has : GoodIn wsX2_bestLook (va_wsS RX2 39 yX2_has wsX2_has) := goodIn_app (goodIn_of _ (by decide +kernel)) ggX2_bestLook_X2_has
theorem dX2_bestLook_0 : decode cX2_bestLook 0 = .ok (.aload_n 0, 1) := by decide +kernel
theorem dX2_bestLook_1 : decode cX2_bestLook 1 = .ok (.invokevirtual 108, 3) := by decide +kernel
theorem dX2_bestLook_4 : decode cX2_bestLook 4 = .ok (.ifCond .ne 5, 3) := by decide +kernel
theorem dX2_bestLook_7 : decode cX2_bestLook 7 = .ok (.iconst 0, 1) := by decide +kernel
theorem dX2_bestLook_8 : decode cX2_bestLook 8 = .ok (.ireturn, 1) := by decide +kernel
theorem dX2_bestLook_9 : decode cX2_bestLook 9 = .ok (.aload_n 0, 1) := by decide +kernel
theorem dX2_bestLook_10 : decode cX2_bestLook 10 = .ok (.aload_n 0, 1) := by decide +kernel
theorem dX2_bestLook_11 : decode cX2_bestLook 11 = .ok (.getfield 46, 3) := by decide +kernel
theorem dX2_bestLook_14 : decode cX2_bestLook 14 = .ok (.invokevirtual 132, 3) := by decide +kernel
theorem dX2_bestLook_17 : decode cX2_bestLook 17 = .ok (.aload_n 0, 1) := by decide +kernel
theorem dX2_bestLook_18 : decode cX2_bestLook 18 = .ok (.aload_n 0, 1) := by decide +kernel
theorem dX2_bestLook_19 : decode cX2_bestLook 19 = .ok (.getfield 46, 3) := by decide +kernel
theorem dX2_bestLook_22 : decode cX2_bestLook 22 = .ok (.invokevirtual 121, 3) := by decide +kernel
theorem dX2_bestLook_25 : decode cX2_bestLook 25 = .ok (.istore_n 1, 1) := by decide +kernel
theorem dX2_bestLook_26 : decode cX2_bestLook 26 = .ok (.iconst (-1), 1) := by decide +kernel
theorem dX2_bestLook_27 : decode cX2_bestLook 27 = .ok (.istore_n 2, 1) := by decide +kernel
theorem dX2_bestLook_28 : decode cX2_bestLook 28 = .ok (.iconst 0, 1) := by decide +kernel
theorem dX2_bestLook_29 : decode cX2_bestLook 29 = .ok (.istore_n 3, 1) := by decide +kernel
theorem dX2_bestLook_30 : decode cX2_bestLook 30 = .ok (.iconst 0, 1) := by decide +kernel
theorem dX2_bestLook_31 : decode cX2_bestLook 31 = .ok (.istore 4, 2) := by decide +kernel
theorem dX2_bestLook_33 : decode cX2_bestLook 33 = .ok (.iload 4, 2) := by decide +kernel
theorem dX2_bestLook_35 : decode cX2_bestLook 35 = .ok (.aload_n 0, 1) := by decide +kernel
theorem dX2_bestLook_36 : decode cX2_bestLook 36 = .ok (.getfield 24, 3) := by decide +kernel
theorem dX2_bestLook_39 : decode cX2_bestLook 39 = .ok (.if_icmp .ge 87, 3) := by decide +kernel
theorem dX2_bestLook_42 : decode cX2_bestLook 42 = .ok (.aload_n 0, 1) := by decide +kernel
theorem dX2_bestLook_43 : decode cX2_bestLook 43 = .ok (.getfield 17, 3) := by decide +kernel
theorem dX2_bestLook_46 : decode cX2_bestLook 46 = .ok (.iload 4, 2) := by decide +kernel
theorem dX2_bestLook_48 : decode cX2_bestLook 48 = .ok (.iaload, 1) := by decide +kernel
theorem dX2_bestLook_49 : decode cX2_bestLook 49 = .ok (.iload_n 1, 1) := by decide +kernel
theorem dX2_bestLook_50 : decode cX2_bestLook 50 = .ok (.aload_n 0, 1) := by decide +kernel
theorem dX2_bestLook_51 : decode cX2_bestLook 51 = .ok (.getfield 17, 3) := by decide +kernel
theorem dX2_bestLook_54 : decode cX2_bestLook 54 = .ok (.iload 4, 2) := by decide +kernel
theorem dX2_bestLook_56 : decode cX2_bestLook 56 = .ok (.iaload, 1) := by decide +kernel
theorem dX2_bestLook_57 : decode cX2_bestLook 57 = .ok (.isub, 1) := by decide +kernel
theorem dX2_bestLook_58 : decode cX2_bestLook 58 = .ok (.if_icmp .le 13, 3) := by decide +kernel
theorem dX2_bestLook_61 : decode cX2_bestLook 61 = .ok (.aload_n 0, 1) := by decide +kernel
theorem dX2_bestLook_62 : decode cX2_bestLook 62 = .ok (.getfield 17, 3) := by decide +kernel
theorem dX2_bestLook_65 : decode cX2_bestLook 65 = .ok (.iload 4, 2) := by decide +kernel
theorem dX2_bestLook_67 : decode cX2_bestLook 67 = .ok (.iaload, 1) := by decide +kernel
theorem dX2_bestLook_68 : decode cX2_bestLook 68 = .ok (.goto 12, 3) := by decide +kernel
theorem dX2_bestLook_71 : decode cX2_bestLook 71 = .ok (.iload_n 1, 1) := by decide +kernel
theorem dX2_bestLook_72 : decode cX2_bestLook 72 = .ok (.aload_n 0, 1) := by decide +kernel
theorem dX2_bestLook_73 : decode cX2_bestLook 73 = .ok (.getfield 17, 3) := by decide +kernel
theorem dX2_bestLook_76 : decode cX2_bestLook 76 = .ok (.iload 4, 2) := by decide +kernel
theorem dX2_bestLook_78 : decode cX2_bestLook 78 = .ok (.iaload, 1) := by decide +kernel
theorem dX2_bestLook_79 : decode cX2_bestLook 79 = .ok (.isub, 1) := by decide +kernel
theorem dX2_bestLook_80 : decode cX2_bestLook 80 = .ok (.istore 5, 2) := by decide +kernel
theorem dX2_bestLook_82 : decode cX2_bestLook 82 = .ok (.aload_n 0, 1) := by decide +kernel
theorem dX2_bestLook_83 : decode cX2_bestLook 83 = .ok (.getfield 67, 3) := by decide +kernel
theorem dX2_bestLook_86 : decode cX2_bestLook 86 = .ok (.iload 4, 2) := by decide +kernel
theorem dX2_bestLook_88 : decode cX2_bestLook 88 = .ok (.invokestatic 39, 3) := by decide +kernel
theorem dX2_bestLook_91 : decode cX2_bestLook 91 = .ok (.ifCond .eq 29, 3) := by decide +kernel
theorem dX2_bestLook_94 : decode cX2_bestLook 94 = .ok (.iload 4, 2) := by decide +kernel
theorem dX2_bestLook_96 : decode cX2_bestLook 96 = .ok (.aload_n 0, 1) := by decide +kernel
theorem dX2_bestLook_97 : decode cX2_bestLook 97 = .ok (.getfield 46, 3) := by decide +kernel
theorem dX2_bestLook_100 : decode cX2_bestLook 100 = .ok (.if_icmp .eq 20, 3) := by decide +kernel
theorem dX2_bestLook_103 : decode cX2_bestLook 103 = .ok (.iload_n 2, 1) := by decide +kernel
theorem dX2_bestLook_104 : decode cX2_bestLook 104 = .ok (.iconst (-1), 1) := by decide +kernel
theorem dX2_bestLook_105 : decode cX2_bestLook 105 = .ok (.if_icmp .eq 9, 3) := by decide +kernel
theorem dX2_bestLook_108 : decode cX2_bestLook 108 = .ok (.iload 5, 2) := by decide +kernel
theorem dX2_bestLook_110 : decode cX2_bestLook 110 = .ok (.iload_n 3, 1) := by decide +kernel
theorem dX2_bestLook_111 : decode cX2_bestLook 111 = .ok (.if_icmp .ge 9, 3) := by decide +kernel
theorem dX2_bestLook_114 : decode cX2_bestLook 114 = .ok (.iload 4, 2) := by decide +kernel
theorem dX2_bestLook_116 : decode cX2_bestLook 116 = .ok (.istore_n 2, 1) := by decide +kernel
theorem dX2_bestLook_117 : decode cX2_bestLook 117 = .ok (.iload 5, 2) := by decide +kernel
theorem dX2_bestLook_119 : decode cX2_bestLook 119 = .ok (.istore_n 3, 1) := by decide +kernel
theorem dX2_bestLook_120 : decode cX2_bestLook 120 = .ok (.iinc 4 1, 3) := by decide +kernel
theorem dX2_bestLook_123 : decode cX2_bestLook 123 = .ok (.goto (-90), 3) := by decide +kernel
theorem dX2_bestLook_126 : decode cX2_bestLook 126 = .ok (.iload_n 2, 1) := by decide +kernel
theorem dX2_bestLook_127 : decode cX2_bestLook 127 = .ok (.ireturn, 1) := by decide +kernel
set_option maxRecDepth 20000 in
theorem ggX2_isPossible_X2_isViewer : GoodIn wsX2_isPossible wsX2_isViewer := goodIn_r _ [8, 9, 10, 11, 7, 12, 3, 13, 14, 15, 35, 36, 37, 38, 39, 40, 41, 42, 43, 44, 45, 46, 47, 48, 49, 50] (by decide +kernel) (by decide +kernel)
set_option maxRecDepth 20000 in
theorem gX2_isPossible_X2_isViewer : GoodIn wsX2_isPossible (wsV RX2 112 RX2 yX2_isViewer wsX2_isViewer) := goodIn_app (goodIn_of _ (by decide +kernel)) ggX2_isPossible_X2_isViewer
set_option maxRecDepth 20000 in
theorem ggX2_isPossible_X2_isPlayer : GoodIn wsX2_isPossible wsX2_isPlayer := goodIn_r _ [12, 3, 13, 14, 7, 15, 35, 36, 37, 38, 39, 40, 41, 42, 43, 44, 45, 46, 47, 48, 49, 50] (by decide +kernel) (by decide +kernel)
set_option maxRecDepth 20000 in
theorem gX2_isPossible_X2_isPlayer : GoodIn wsX2_isPossible (wsV RX2 31 RX2 yX2_isPlayer wsX2_isPlayer) := goodIn_app (goodIn_of _ (by decide +kernel)) ggX2_isPossible_X2_isPlayer
set_option maxRecDepth 20000 in
theorem ggX2_isPossible_X2_in : GoodIn wsX2_isPossible wsX2_in := goodIn_r _ [15] (by decide +kernel) (by decide +kernel)
set_option maxRecDepth 20000 in
theorem gX2_isPossible_X2_in : GoodIn wsX2_isPossible (va_wsS RX2 27 yX2_in wsX2_in) := goodIn_app (goodIn_of _ (by decide +kernel)) ggX2_isPossible_X2_in
set_option maxRecDepth 20000 in
theorem ggX2_isPossible_X2_isFor : GoodIn wsX2_isPossible wsX2_isFor := goodIn_r _ [19, 20, 21, 22, 23, 24, 25, 7, 26, 27, 28, 29, 30, 31, 32, 33, 34, 35, 36, 37, 38, 39, 40, 41, 42, 43, 44, 45, 46, 47, 48, 49, 50] (by decide +kernel) (by decide +kernel)
set_option maxRecDepth 20000 in
theorem gX2_isPossible_X2_isFor : GoodIn wsX2_isPossible (wsV RX2 115 RX2 yX2_isFor wsX2_isFor) := goodIn_app (goodIn_of _ (by decide +kernel)) ggX2_isPossible_X2_isFor
theorem dX2_isPossible_0 : decode cX2_isPossible 0 = .ok (.aload_n 0, 1) := by decide +kernel
theorem dX2_isPossible_1 : decode cX2_isPossible 1 = .ok (.aload_n 0, 1) := by decide +kernel
theorem dX2_isPossible_2 : decode cX2_isPossible 2 = .ok (.getfield 70, 3) := by decide +kernel
theorem dX2_isPossible_5 : decode cX2_isPossible 5 = .ok (.ifCond .ne 7, 3) := by decide +kernel
theorem dX2_isPossible_8 : decode cX2_isPossible 8 = .ok (.iconst 1, 1) := by decide +kernel
theorem dX2_isPossible_9 : decode cX2_isPossible 9 = .ok (.goto 33, 3) := by decide +kernel
theorem dX2_isPossible_12 : decode cX2_isPossible 12 = .ok (.aload_n 0, 1) := by decide +kernel
theorem dX2_isPossible_13 : decode cX2_isPossible 13 = .ok (.iload_n 1, 1) := by decide +kernel
theorem dX2_isPossible_14 : decode cX2_isPossible 14 = .ok (.invokevirtual 112, 3) := by decide +kernel
theorem dX2_isPossible_17 : decode cX2_isPossible 17 = .ok (.ifCond .eq 24, 3) := by decide +kernel
theorem dX2_isPossible_20 : decode cX2_isPossible 20 = .ok (.aload_n 0, 1) := by decide +kernel
theorem dX2_isPossible_21 : decode cX2_isPossible 21 = .ok (.iload_n 3, 1) := by decide +kernel
theorem dX2_isPossible_22 : decode cX2_isPossible 22 = .ok (.invokevirtual 31, 3) := by decide +kernel
theorem dX2_isPossible_25 : decode cX2_isPossible 25 = .ok (.ifCond .eq 16, 3) := by decide +kernel
theorem dX2_isPossible_28 : decode cX2_isPossible 28 = .ok (.aload_n 0, 1) := by decide +kernel
theorem dX2_isPossible_29 : decode cX2_isPossible 29 = .ok (.iload 4, 2) := by decide +kernel
theorem dX2_isPossible_31 : decode cX2_isPossible 31 = .ok (.invokevirtual 31, 3) := by decide +kernel
theorem dX2_isPossible_34 : decode cX2_isPossible 34 = .ok (.ifCond .eq 7, 3) := by decide +kernel
theorem dX2_isPossible_37 : decode cX2_isPossible 37 = .ok (.iconst 0, 1) := by decide +kernel
theorem dX2_isPossible_38 : decode cX2_isPossible 38 = .ok (.goto 4, 3) := by decide +kernel
theorem dX2_isPossible_41 : decode cX2_isPossible 41 = .ok (.iconst 2, 1) := by decide +kernel
theorem dX2_isPossible_42 : decode cX2_isPossible 42 = .ok (.putfield 20, 3) := by decide +kernel
theorem dX2_isPossible_45 : decode cX2_isPossible 45 = .ok (.aload_n 0, 1) := by decide +kernel
theorem dX2_isPossible_46 : decode cX2_isPossible 46 = .ok (.getfield 20, 3) := by decide +kernel
theorem dX2_isPossible_49 : decode cX2_isPossible 49 = .ok (.ifCond .ne 23, 3) := by decide +kernel
theorem dX2_isPossible_52 : decode cX2_isPossible 52 = .ok (.iload_n 2, 1) := by decide +kernel
theorem dX2_isPossible_53 : decode cX2_isPossible 53 = .ok (.iconst 0, 1) := by decide +kernel
theorem dX2_isPossible_54 : decode cX2_isPossible 54 = .ok (.iconst 1, 1) := by decide +kernel
theorem dX2_isPossible_55 : decode cX2_isPossible 55 = .ok (.aload_n 0, 1) := by decide +kernel
theorem dX2_isPossible_56 : decode cX2_isPossible 56 = .ok (.getfield 24, 3) := by decide +kernel
theorem dX2_isPossible_59 : decode cX2_isPossible 59 = .ok (.ishl, 1) := by decide +kernel
theorem dX2_isPossible_60 : decode cX2_isPossible 60 = .ok (.iconst 1, 1) := by decide +kernel
theorem dX2_isPossible_61 : decode cX2_isPossible 61 = .ok (.isub, 1) := by decide +kernel
theorem dX2_isPossible_62 : decode cX2_isPossible 62 = .ok (.invokestatic 27, 3) := by decide +kernel
theorem dX2_isPossible_65 : decode cX2_isPossible 65 = .ok (.ifCond .eq 7, 3) := by decide +kernel
theorem dX2_isPossible_68 : decode cX2_isPossible 68 = .ok (.iconst 1, 1) := by decide +kernel
theorem dX2_isPossible_69 : decode cX2_isPossible 69 = .ok (.goto 4, 3) := by decide +kernel
theorem dX2_isPossible_72 : decode cX2_isPossible 72 = .ok (.iconst 0, 1) := by decide +kernel
theorem dX2_isPossible_73 : decode cX2_isPossible 73 = .ok (.istore 5, 2) := by decide +kernel
theorem dX2_isPossible_75 : decode cX2_isPossible 75 = .ok (.iload 5, 2) := by decide +kernel
theorem dX2_isPossible_77 : decode cX2_isPossible 77 = .ok (.ifCond .eq 27, 3) := by decide +kernel
theorem dX2_isPossible_80 : decode cX2_isPossible 80 = .ok (.aload_n 0, 1) := by decide +kernel
theorem dX2_isPossible_81 : decode cX2_isPossible 81 = .ok (.iload_n 1, 1) := by decide +kernel
theorem dX2_isPossible_82 : decode cX2_isPossible 82 = .ok (.bipush 64, 2) := by decide +kernel
theorem dX2_isPossible_84 : decode cX2_isPossible 84 = .ok (.iload_n 2, 1) := by decide +kernel
theorem dX2_isPossible_85 : decode cX2_isPossible 85 = .ok (.imul, 1) := by decide +kernel
theorem dX2_isPossible_86 : decode cX2_isPossible 86 = .ok (.bipush 8, 2) := by decide +kernel
theorem dX2_isPossible_88 : decode cX2_isPossible 88 = .ok (.iload_n 3, 1) := by decide +kernel
theorem dX2_isPossible_89 : decode cX2_isPossible 89 = .ok (.imul, 1) := by decide +kernel
theorem dX2_isPossible_90 : decode cX2_isPossible 90 = .ok (.iadd, 1) := by decide +kernel
theorem dX2_isPossible_91 : decode cX2_isPossible 91 = .ok (.iload 4, 2) := by decide +kernel
theorem dX2_isPossible_93 : decode cX2_isPossible 93 = .ok (.iadd, 1) := by decide +kernel
theorem dX2_isPossible_94 : decode cX2_isPossible 94 = .ok (.invokevirtual 115, 3) := by decide +kernel
theorem dX2_isPossible_97 : decode cX2_isPossible 97 = .ok (.ifCond .eq 7, 3) := by decide +kernel
theorem dX2_isPossible_100 : decode cX2_isPossible 100 = .ok (.iconst 1, 1) := by decide +kernel
theorem dX2_isPossible_101 : decode cX2_isPossible 101 = .ok (.goto 4, 3) := by decide +kernel
theorem dX2_isPossible_104 : decode cX2_isPossible 104 = .ok (.iconst 0, 1) := by decide +kernel
theorem dX2_isPossible_105 : decode cX2_isPossible 105 = .ok (.ireturn, 1) := by decide +kernel
