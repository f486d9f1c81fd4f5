set_option maxHeartbeats 4000000 in
set_option maxRecDepth 100000 in
theorem c_L_told0 (l : Launch) (D : va_G) (cI cZ cJ : ClassId) (sz : Nat) (hst : l.stackTraces = false) (hT hB hV : Nat) (a : Nat → Int32) (hG : Nat) (tr : Int32) (pg vv : Nat → Int32) (kg kv kf kb : Nat) (g v f b : Nat → Int32) (y : Int32) (ha0 : a 0 = 0) (hg0 : g 0 = 0) : Mg (α := Unit) l D cI cZ cJ yL_isTold wsL_isTold 10 182 9 54 sz [.ref hT, .int y, .ref kg, .ref kv, .ref kf, .ref kb] [cT hT hB hV a, cB hB hG tr, cA cI hG 1120 pg, cA cI hV 8 vv, cA cI kg 13 g, cA cI kv 8 v, cA cI kf 60 f, cA cI kb 40 b] (fun _ => [cT hT hB hV a, cB hB hG tr, cA cI hG 1120 pg, cA cI hV 8 vv, cA cI kg 13 g, cA cI kv 8 v, cA cI kf 60 f, cA cI kb 40 b]) (fun r _ => r = 1) (fun _ => 9) := by
  refine mg_of (by decide) rfl (Nat.le_of_ble_eq_true rfl) (fun p e s m below meth c ls A hx hb hr hml hts hown hlocks hP hK hN hD hA hS hZ hY hXn hl => ?_)
  have hl : lv_has ls 9 [(0, .ref hT), (1, .int y), (2, .ref kg), (3, .ref kv), (4, .ref kf), (5, .ref kb)] := hl
  refine lv_aload_n hx hb dL_isTold_0 rfl (lv_at hl 2 rfl) ?_
  refine lv_iconst (v := 0) hx hb dL_isTold_1 (by decide) ?_
  refine k_iald (D := D) (j := 0) (v := 0) hx hb hK hP 4 0 rfl rfl (by decide) (by decide) (Nat.le_of_ble_eq_true rfl) hg0 dL_isTold_2 ?_
  refine lv_if_ne (tgt := 120) hx hb dL_isTold_3 (by decide) (fun c1 => ?_) (fun c1 => ?_)
  · exact absurd c1 (by decide)
  · refine lv_aload_n hx hb dL_isTold_6 rfl (lv_at hl 0 rfl) ?_
    refine rd_V (b := hT) (As := []) (rest := []) ⟨hx, hb, hml, hown, hts⟩ (c_X1_phase l D cI cZ cJ hT hB hV a) (cwV 0 hts gL_isTold_X1_phase rfl rfl rfl (by decide +kernel) ⟨Nat.le_of_ble_eq_true rfl, Nat.le_of_ble_eq_true rfl⟩) (hP.sub (ws' := [cT hT hB hV a]) [0] rfl) hK hN (va_recv hK hP (ci := 1) (q0 := 0) rfl rfl) rfl hl.1 rfl (Nat.le_of_ble_eq_true rfl) dL_isTold_7 ⟨Nat.le_of_ble_eq_true rfl, Nat.le_of_ble_eq_true rfl⟩ ?_
    refine k_top 0 ha0 ?_
    refine lv_if_ne (tgt := 118) hx hb dL_isTold_10 (by decide) (fun c2 => ?_) (fun c2 => ?_)
    · exact absurd c2 (by decide)
    · refine lv_aload_n hx hb dL_isTold_13 rfl (lv_at hl 0 rfl) ?_
      refine lv_iconst (v := (-1)) hx hb dL_isTold_14 (by decide) ?_
      refine mx_SW (As := [.ref hT, .int (-1)]) (rest := []) ⟨hx, hb, hml, hown, hts⟩ (x_L_worlds_1 l D cI cZ cJ _ hst hT hB hV a (-1) (n0w ha0 _)) (vx_cwSW 2 hts gL_isTold_L_worlds rfl rfl rfl (by decide +kernel) ⟨Nat.le_of_ble_eq_true rfl, Nat.le_of_ble_eq_true rfl⟩) hP hD hK hN hY hXn hS hA hZ rfl hl.1 rfl (Nat.le_of_ble_eq_true rfl) dL_isTold_15 ⟨Nat.le_of_ble_eq_true rfl, Nat.le_of_ble_eq_true rfl⟩ [0] [1, 2, 3, 4, 5, 6, 7] rfl rfl 8 rfl (by decide) (by decide) (fun H locs hP hD hS hG3 => ?_)
      refine lv_bipush (v := (-71)) hx hb dL_isTold_18 (by decide) ?_
      refine lv_icmp_ne (tgt := 118) hx hb dL_isTold_20 (by decide) (fun c4 => ?_) (fun c4 => ?_)
      · exact absurd c4 (by decide)
      · refine lv_aload_n hx hb dL_isTold_23 rfl (lv_at hl 0 rfl) ?_
        refine lv_iconst (v := 0) hx hb dL_isTold_24 (by decide) ?_
        refine lv_bipush (v := 9) hx hb dL_isTold_25 (by decide) ?_
        refine lv_iconst (v := 0) hx hb dL_isTold_27 (by decide) ?_
        refine mx_SW (As := [.ref hT, .int 0, .int 9, .int 0]) (rest := []) ⟨hx, hb, hml, hown, hts⟩ (x_L_claim_1 l D cI cZ cJ _ hst hT hB hV a hG tr 0 9 0 (n0c ha0 _ _ _ _)) (vx_cwSW 4 hts gL_isTold_L_claim rfl rfl rfl (by decide +kernel) ⟨Nat.le_of_ble_eq_true rfl, Nat.le_of_ble_eq_true rfl⟩) hP hD hK hN hY hXn hS hA hZ rfl hl.1 rfl (Nat.le_of_ble_eq_true rfl) dL_isTold_28 ⟨Nat.le_of_ble_eq_true rfl, Nat.le_of_ble_eq_true rfl⟩ [0, 1] [2, 3, 4, 5, 6, 7] rfl rfl 8 rfl (by decide) (by decide) (fun H locs hP hD hS hG5 => ?_)
        refine lv_bipush (v := (-71)) hx hb dL_isTold_31 (by decide) ?_
        refine lv_icmp_ne (tgt := 118) hx hb dL_isTold_33 (by decide) (fun c6 => ?_) (fun c6 => ?_)
        · exact absurd c6 (by decide)
        · refine lv_aload_n hx hb dL_isTold_36 rfl (lv_at hl 0 rfl) ?_
          refine lv_iconst (v := 0) hx hb dL_isTold_37 (by decide) ?_
          refine lv_iconst (v := (-1)) hx hb dL_isTold_38 (by decide) ?_
          refine mx_SW (As := [.ref hT, .int 0, .int (-1)]) (rest := []) ⟨hx, hb, hml, hown, hts⟩ (x_L_claimAmong_1 l D cI cZ cJ _ hst hT hB hV a hG tr 0 (-1) (n0a ha0 _ _ _)) (vx_cwSW 3 hts gL_isTold_L_claimAmong rfl rfl rfl (by decide +kernel) ⟨Nat.le_of_ble_eq_true rfl, Nat.le_of_ble_eq_true rfl⟩) hP hD hK hN hY hXn hS hA hZ rfl hl.1 rfl (Nat.le_of_ble_eq_true rfl) dL_isTold_39 ⟨Nat.le_of_ble_eq_true rfl, Nat.le_of_ble_eq_true rfl⟩ [0, 1] [2, 3, 4, 5, 6, 7] rfl rfl 8 rfl (by decide) (by decide) (fun H locs hP hD hS hG7 => ?_)
          refine lv_bipush (v := (-71)) hx hb dL_isTold_42 (by decide) ?_
          refine lv_icmp_ne (tgt := 118) hx hb dL_isTold_44 (by decide) (fun c8 => ?_) (fun c8 => ?_)
          · exact absurd c8 (by decide)
          · refine lv_aload_n hx hb dL_isTold_47 rfl (lv_at hl 0 rfl) ?_
            refine lv_iconst (v := 0) hx hb dL_isTold_48 (by decide) ?_
            refine lv_iconst (v := 0) hx hb dL_isTold_49 (by decide) ?_
            refine mx_SW (As := [.ref hT, .int 0, .int 0]) (rest := []) ⟨hx, hb, hml, hown, hts⟩ (x_L_vote_1 l D cI cZ cJ _ hst hT hB hV a 0 0 (n0v ha0 _ _)) (vx_cwSW 3 hts gL_isTold_L_vote rfl rfl rfl (by decide +kernel) ⟨Nat.le_of_ble_eq_true rfl, Nat.le_of_ble_eq_true rfl⟩) hP hD hK hN hY hXn hS hA hZ rfl hl.1 rfl (Nat.le_of_ble_eq_true rfl) dL_isTold_50 ⟨Nat.le_of_ble_eq_true rfl, Nat.le_of_ble_eq_true rfl⟩ [0] [1, 2, 3, 4, 5, 6, 7] rfl rfl 8 rfl (by decide) (by decide) (fun H locs hP hD hS hG9 => ?_)
            refine lv_bipush (v := (-71)) hx hb dL_isTold_53 (by decide) ?_
            refine lv_icmp_ne (tgt := 118) hx hb dL_isTold_55 (by decide) (fun c10 => ?_) (fun c10 => ?_)
            · exact absurd c10 (by decide)
            · refine lv_aload_n hx hb dL_isTold_58 rfl (lv_at hl 0 rfl) ?_
              refine mx_SW (As := [.ref hT]) (rest := []) ⟨hx, hb, hml, hown, hts⟩ (x_L_endNight_1 l D cI cZ cJ _ hst hT hB hV a  (n0h ha0 (by decide))) (vx_cwSW 1 hts gL_isTold_L_endNight rfl rfl rfl (by decide +kernel) ⟨Nat.le_of_ble_eq_true rfl, Nat.le_of_ble_eq_true rfl⟩) hP hD hK hN hY hXn hS hA hZ rfl hl.1 rfl (Nat.le_of_ble_eq_true rfl) dL_isTold_59 ⟨Nat.le_of_ble_eq_true rfl, Nat.le_of_ble_eq_true rfl⟩ [0] [1, 2, 3, 4, 5, 6, 7] rfl rfl 8 rfl (by decide) (by decide) (fun H locs hP hD hS hG11 => ?_)
              refine lv_bipush (v := (-71)) hx hb dL_isTold_62 (by decide) ?_
              refine lv_icmp_ne (tgt := 118) hx hb dL_isTold_64 (by decide) (fun c12 => ?_) (fun c12 => ?_)
              · exact absurd c12 (by decide)
              · refine lv_aload_n hx hb dL_isTold_67 rfl (lv_at hl 0 rfl) ?_
                refine mx_SW (As := [.ref hT]) (rest := []) ⟨hx, hb, hml, hown, hts⟩ (x_L_closeVote_1 l D cI cZ cJ _ hst hT hB hV a  (n0h ha0 (by decide))) (vx_cwSW 1 hts gL_isTold_L_closeVote rfl rfl rfl (by decide +kernel) ⟨Nat.le_of_ble_eq_true rfl, Nat.le_of_ble_eq_true rfl⟩) hP hD hK hN hY hXn hS hA hZ rfl hl.1 rfl (Nat.le_of_ble_eq_true rfl) dL_isTold_68 ⟨Nat.le_of_ble_eq_true rfl, Nat.le_of_ble_eq_true rfl⟩ [0] [1, 2, 3, 4, 5, 6, 7] rfl rfl 8 rfl (by decide) (by decide) (fun H locs hP hD hS hG13 => ?_)
                refine lv_bipush (v := (-71)) hx hb dL_isTold_71 (by decide) ?_
                refine lv_icmp_ne (tgt := 118) hx hb dL_isTold_73 (by decide) (fun c14 => ?_) (fun c14 => ?_)
                · exact absurd c14 (by decide)
                · refine lv_aload_n hx hb dL_isTold_76 rfl (lv_at hl 0 rfl) ?_
                  refine lv_bipush (v := 9) hx hb dL_isTold_77 (by decide) ?_
                  refine lv_iconst (v := 0) hx hb dL_isTold_79 (by decide) ?_
                  refine lv_iconst (v := 0) hx hb dL_isTold_80 (by decide) ?_
                  refine lv_iconst (v := 0) hx hb dL_isTold_81 (by decide) ?_
                  refine mx_SW (As := [.ref hT, .int 9, .int 0, .int 0, .int 0]) (rest := []) ⟨hx, hb, hml, hown, hts⟩ (x_L_isPossible_1 l D cI cZ cJ _ hst hT hB hV a 9 0 0 0 (n0i ha0 _ _ _)) (vx_cwSW 5 hts gL_isTold_L_isPossible rfl rfl rfl (by decide +kernel) ⟨Nat.le_of_ble_eq_true rfl, Nat.le_of_ble_eq_true rfl⟩) hP hD hK hN hY hXn hS hA hZ rfl hl.1 rfl (Nat.le_of_ble_eq_true rfl) dL_isTold_82 ⟨Nat.le_of_ble_eq_true rfl, Nat.le_of_ble_eq_true rfl⟩ [0] [1, 2, 3, 4, 5, 6, 7] rfl rfl 8 rfl (by decide) (by decide) (fun H locs hP hD hS hG15 => ?_)
                  refine lv_bipush (v := (-71)) hx hb dL_isTold_85 (by decide) ?_
                  refine lv_icmp_ne (tgt := 118) hx hb dL_isTold_87 (by decide) (fun c16 => ?_) (fun c16 => ?_)
                  · exact absurd c16 (by decide)
                  · refine lv_aload_n hx hb dL_isTold_90 rfl (lv_at hl 0 rfl) ?_
                    refine lv_bipush (v := 9) hx hb dL_isTold_91 (by decide) ?_
                    refine lv_iconst (v := 0) hx hb dL_isTold_93 (by decide) ?_
                    refine lv_iconst (v := 0) hx hb dL_isTold_94 (by decide) ?_
                    refine mx_SW (As := [.ref hT, .int 9, .int 0, .int 0]) (rest := []) ⟨hx, hb, hml, hown, hts⟩ (x_L_worldsWith_1 l D cI cZ cJ _ hst hT hB hV a 9 0 0 (n0x ha0 _ _ _)) (vx_cwSW 4 hts gL_isTold_L_worldsWith rfl rfl rfl (by decide +kernel) ⟨Nat.le_of_ble_eq_true rfl, Nat.le_of_ble_eq_true rfl⟩) hP hD hK hN hY hXn hS hA hZ rfl hl.1 rfl (Nat.le_of_ble_eq_true rfl) dL_isTold_95 ⟨Nat.le_of_ble_eq_true rfl, Nat.le_of_ble_eq_true rfl⟩ [0] [1, 2, 3, 4, 5, 6, 7] rfl rfl 8 rfl (by decide) (by decide) (fun H locs hP hD hS hG17 => ?_)
                    refine lv_bipush (v := (-71)) hx hb dL_isTold_98 (by decide) ?_
                    refine lv_icmp_ne (tgt := 118) hx hb dL_isTold_100 (by decide) (fun c18 => ?_) (fun c18 => ?_)
                    · exact absurd c18 (by decide)
                    · refine lv_aload_n hx hb dL_isTold_103 rfl (lv_at hl 0 rfl) ?_
                      refine lv_iconst (v := 1) hx hb dL_isTold_104 (by decide) ?_
                      refine lv_iconst (v := 0) hx hb dL_isTold_105 (by decide) ?_
                      refine mx_SW (As := [.ref hT, .int 1, .int 0]) (rest := []) ⟨hx, hb, hml, hown, hts⟩ (x_L_chooses_1 l D cI cZ cJ _ hst hT hB hV a 0 (n0t ha0 _)) (vx_cwSW 3 hts gL_isTold_L_chooses rfl rfl rfl (by decide +kernel) ⟨Nat.le_of_ble_eq_true rfl, Nat.le_of_ble_eq_true rfl⟩) hP hD hK hN hY hXn hS hA hZ rfl hl.1 rfl (Nat.le_of_ble_eq_true rfl) dL_isTold_106 ⟨Nat.le_of_ble_eq_true rfl, Nat.le_of_ble_eq_true rfl⟩ [0] [1, 2, 3, 4, 5, 6, 7] rfl rfl 8 rfl (by decide) (by decide) (fun H locs hP hD hS hG19 => ?_)
                      refine lv_bipush (v := (-71)) hx hb dL_isTold_109 (by decide) ?_
                      refine lv_icmp_ne (tgt := 118) hx hb dL_isTold_111 (by decide) (fun c20 => ?_) (fun c20 => ?_)
                      · exact absurd c20 (by decide)
                      · refine lv_iconst (v := 1) hx hb dL_isTold_114 (by decide) ?_
                        refine lv_goto (tgt := 119) hx hb dL_isTold_115 (by decide) ?_
                        exact mg_zret () hx hb hr hlocks hS (Nat.le_of_ble_eq_true rfl) (Nat.le_of_ble_eq_true rfl) rfl rfl hP (by have h9 := hS.1; omega) dL_isTold_119

set_option maxHeartbeats 4000000 in
set_option maxRecDepth 100000 in
theorem c_L_told1 (l : Launch) (D : va_G) (cI cZ cJ : ClassId) (sz : Nat) (hst : l.stackTraces = false) (hT hB hV : Nat) (a : Nat → Int32) (hG : Nat) (tr : Int32) (pg vv : Nat → Int32) (kg kv kf kb : Nat) (g v f b : Nat → Int32) (K : Nat) (hK9 : K ≤ 1120) (hgz : ∀ j, j < K → ¬ pg j = 0) (hz : K < 1120 → pg K = 0) (ha0 : a 0 = 1) (ha2 : a 2 = 4) (hg0 : g 0 = 1) (hg1 : g 1 = 4) (hg2 : g 2 = 1) (hg3 : g 3 = 1) (hg4 : g 4 = 2) (hg8 : g 8 = 0) : Mg (α := Nat × (Nat → Int32)) l D cI cZ cJ yL_isTold wsL_isTold 11 213 11 66 sz [.ref hT, .int 1, .ref kg, .ref kv, .ref kf, .ref kb] [cT hT hB hV a, cB hB hG tr, cA cI hG 1120 pg, cA cI hV 8 vv, cA cI kg 13 g, cA cI kv 8 v, cA cI kf 60 f, cA cI kb 40 b] (fun u => [cT hT hB hV a, cB hB hG tr, cA cI hG 1120 pg, cA cI hV 8 vv, cA cI kg 13 g, cA cI kv 8 v, cA cI kf 60 f, cA cI kb 40 u.2]) (fun r u => (r = 0 ∧ u.1 = 0) ∨ (r = 1 ∧ u.1 = 11)) (fun u => u.1) := by
  refine mg_of (by decide) rfl (Nat.le_of_ble_eq_true rfl) (fun p e s m below meth c ls A hx hb hr hml hts hown hlocks hP hK hN hD hA hS hZ hY hXn hl => ?_)
  have hl : lv_has ls 9 [(0, .ref hT), (1, .int 1), (2, .ref kg), (3, .ref kv), (4, .ref kf), (5, .ref kb)] := hl
  refine lv_aload_n hx hb dL_isTold_0 rfl (lv_at hl 2 rfl) ?_
  refine lv_iconst (v := 0) hx hb dL_isTold_1 (by decide) ?_
  refine k_iald (D := D) (j := 0) (v := 1) hx hb hK hP 4 0 rfl rfl (by decide) (by decide) (Nat.le_of_ble_eq_true rfl) hg0 dL_isTold_2 ?_
  refine lv_if_ne (tgt := 120) hx hb dL_isTold_3 (by decide) (fun c1 => ?_) (fun c1 => ?_)
  · refine lv_iconst (v := 0) hx hb dL_isTold_120 (by decide) ?_
    refine lv_istore (lv' := [(6, .int 0), (0, .ref hT), (1, .int 1), (2, .ref kg), (3, .ref kv), (4, .ref kf), (5, .ref kb)]) hx hb dL_isTold_121 hl (by decide) rfl (fun ls hl => ?_)
    refine loop_RX (α := Unit) (nL := 9) (h := 123) 4 (fun i2 x3 => [(6, .int (nI i2)), (0, .ref hT), (1, .int 1), (2, .ref kg), (3, .ref kv), (4, .ref kf), (5, .ref kb)]) (fun _ x3 => True) (fun i2 x3 hii2 hIi2 ihi2 ls hl => ?_) 0 () (Nat.zero_le _) trivial ls (lv_sub hl [0, 1, 2, 3, 4, 5, 6] rfl)
    have hl : lv_has ls 9 [(6, .int (nI i2)), (0, .ref hT), (1, .int 1), (2, .ref kg), (3, .ref kv), (4, .ref kf), (5, .ref kb)] := hl
    refine lv_iload hx hb dL_isTold_123 (lv_at hl 0 rfl) ?_
    refine lv_aload_n hx hb dL_isTold_125 rfl (lv_at hl 3 rfl) ?_
    refine lv_iconst (v := 1) hx hb dL_isTold_126 (by decide) ?_
    refine k_iald (D := D) (j := 1) (v := 4) hx hb hK hP 4 0 rfl rfl (by decide) (by decide) (Nat.le_of_ble_eq_true rfl) hg1 dL_isTold_127 ?_
    refine lv_icmp_ge (tgt := 188) hx hb dL_isTold_128 (by decide) (fun c4 => ?_) (fun c4 => ?_)
    · refine lv_aload_n hx hb dL_isTold_188 rfl (lv_at hl 1 rfl) ?_
      refine rd_V (b := hT) (As := []) (rest := []) ⟨hx, hb, hml, hown, hts⟩ (c_X1_phase l D cI cZ cJ hT hB hV a) (cwV 0 hts gL_isTold_X1_phase rfl rfl rfl (by decide +kernel) ⟨Nat.le_of_ble_eq_true rfl, Nat.le_of_ble_eq_true rfl⟩) (hP.sub (ws' := [cT hT hB hV a]) [0] rfl) hK hN (va_recv hK hP (ci := 1) (q0 := 0) rfl rfl) rfl hl.1 rfl (Nat.le_of_ble_eq_true rfl) dL_isTold_189 ⟨Nat.le_of_ble_eq_true rfl, Nat.le_of_ble_eq_true rfl⟩ ?_
      refine lv_aload_n hx hb dL_isTold_192 rfl (lv_at hl 3 rfl) ?_
      refine lv_iconst (v := 0) hx hb dL_isTold_193 (by decide) ?_
      refine k_iald (D := D) (j := 0) (v := 1) hx hb hK hP 4 0 rfl rfl (by decide) (by decide) (Nat.le_of_ble_eq_true rfl) hg0 dL_isTold_194 ?_
      refine lv_icmp_ne (tgt := 253) hx hb dL_isTold_195 (by decide) (fun c5 => ?_) (fun c5 => ?_)
      · refine lv_iconst (v := 0) hx hb dL_isTold_253 (by decide) ?_
        exact mg_zret (0, b) hx hb hr hlocks hS (Nat.le_of_ble_eq_true rfl) (Nat.le_of_ble_eq_true rfl) (Or.inl ⟨rfl, rfl⟩) rfl hP (by have h9 := hS.1; dsimp only; omega) dL_isTold_254
      · refine lv_aload_n hx hb dL_isTold_198 rfl (lv_at hl 1 rfl) ?_
        refine rd_V (b := hT) (As := []) (rest := []) ⟨hx, hb, hml, hown, hts⟩ (c_X1_day l D cI cZ cJ hT hB hV a (by rw [ha0]; decide)) (cwV 0 hts gL_isTold_X1_day rfl rfl rfl (by decide +kernel) ⟨Nat.le_of_ble_eq_true rfl, Nat.le_of_ble_eq_true rfl⟩) (hP.sub (ws' := [cT hT hB hV a]) [0] rfl) hK hN (va_recv hK hP (ci := 1) (q0 := 0) rfl rfl) rfl hl.1 rfl (Nat.le_of_ble_eq_true rfl) dL_isTold_199 ⟨Nat.le_of_ble_eq_true rfl, Nat.le_of_ble_eq_true rfl⟩ ?_
        refine lv_aload_n hx hb dL_isTold_202 rfl (lv_at hl 3 rfl) ?_
        refine lv_bipush (v := 6) hx hb dL_isTold_203 (by decide) ?_
        refine k_iald (D := D) (j := 6) (v := (g 6)) hx hb hK hP 4 0 rfl rfl (by decide) (by decide) (Nat.le_of_ble_eq_true rfl) rfl dL_isTold_205 ?_
        refine lv_icmp_ne (tgt := 253) hx hb dL_isTold_206 (by decide) (fun c6 => ?_) (fun c6 => ?_)
        · refine lv_iconst (v := 0) hx hb dL_isTold_253 (by decide) ?_
          exact mg_zret (0, b) hx hb hr hlocks hS (Nat.le_of_ble_eq_true rfl) (Nat.le_of_ble_eq_true rfl) (Or.inl ⟨rfl, rfl⟩) rfl hP (by have h9 := hS.1; dsimp only; omega) dL_isTold_254
        · refine lv_aload_n hx hb dL_isTold_209 rfl (lv_at hl 1 rfl) ?_
          refine rd_V (b := hT) (As := []) (rest := []) ⟨hx, hb, hml, hown, hts⟩ (c_X1_alive l D cI cZ cJ hT hB hV a (by rw [ha0]; decide)) (cwV 0 hts gL_isTold_X1_alive rfl rfl rfl (by decide +kernel) ⟨Nat.le_of_ble_eq_true rfl, Nat.le_of_ble_eq_true rfl⟩) (hP.sub (ws' := [cT hT hB hV a]) [0] rfl) hK hN (va_recv hK hP (ci := 1) (q0 := 0) rfl rfl) rfl hl.1 rfl (Nat.le_of_ble_eq_true rfl) dL_isTold_210 ⟨Nat.le_of_ble_eq_true rfl, Nat.le_of_ble_eq_true rfl⟩ ?_
          refine lv_aload_n hx hb dL_isTold_213 rfl (lv_at hl 3 rfl) ?_
          refine lv_iconst (v := 5) hx hb dL_isTold_214 (by decide) ?_
          refine k_iald (D := D) (j := 5) (v := (g 5)) hx hb hK hP 4 0 rfl rfl (by decide) (by decide) (Nat.le_of_ble_eq_true rfl) rfl dL_isTold_215 ?_
          refine lv_icmp_ne (tgt := 253) hx hb dL_isTold_216 (by decide) (fun c7 => ?_) (fun c7 => ?_)
          · refine lv_iconst (v := 0) hx hb dL_isTold_253 (by decide) ?_
            exact mg_zret (0, b) hx hb hr hlocks hS (Nat.le_of_ble_eq_true rfl) (Nat.le_of_ble_eq_true rfl) (Or.inl ⟨rfl, rfl⟩) rfl hP (by have h9 := hS.1; dsimp only; omega) dL_isTold_254
          · refine lv_aload_n hx hb dL_isTold_219 rfl (lv_at hl 1 rfl) ?_
            refine rd_V (b := hT) (As := []) (rest := []) ⟨hx, hb, hml, hown, hts⟩ (c_X1_lookedAt l D cI cZ cJ hT hB hV a (by rw [ha0]; decide)) (cwV 0 hts gL_isTold_X1_lookedAt rfl rfl rfl (by decide +kernel) ⟨Nat.le_of_ble_eq_true rfl, Nat.le_of_ble_eq_true rfl⟩) (hP.sub (ws' := [cT hT hB hV a]) [0] rfl) hK hN (va_recv hK hP (ci := 1) (q0 := 0) rfl rfl) rfl hl.1 rfl (Nat.le_of_ble_eq_true rfl) dL_isTold_220 ⟨Nat.le_of_ble_eq_true rfl, Nat.le_of_ble_eq_true rfl⟩ ?_
            refine lv_aload_n hx hb dL_isTold_223 rfl (lv_at hl 3 rfl) ?_
            refine lv_bipush (v := 7) hx hb dL_isTold_224 (by decide) ?_
            refine k_iald (D := D) (j := 7) (v := (g 7)) hx hb hK hP 4 0 rfl rfl (by decide) (by decide) (Nat.le_of_ble_eq_true rfl) rfl dL_isTold_226 ?_
            refine lv_icmp_ne (tgt := 253) hx hb dL_isTold_227 (by decide) (fun c8 => ?_) (fun c8 => ?_)
            · refine lv_iconst (v := 0) hx hb dL_isTold_253 (by decide) ?_
              exact mg_zret (0, b) hx hb hr hlocks hS (Nat.le_of_ble_eq_true rfl) (Nat.le_of_ble_eq_true rfl) (Or.inl ⟨rfl, rfl⟩) rfl hP (by have h9 := hS.1; dsimp only; omega) dL_isTold_254
            · refine lv_aload_n hx hb dL_isTold_230 rfl (lv_at hl 1 rfl) ?_
              refine lv_aload_n hx hb dL_isTold_231 rfl (lv_at hl 3 rfl) ?_
              refine lv_iconst (v := 1) hx hb dL_isTold_232 (by decide) ?_
              refine k_iald (D := D) (j := 1) (v := 4) hx hb hK hP 4 0 rfl rfl (by decide) (by decide) (Nat.le_of_ble_eq_true rfl) hg1 dL_isTold_233 ?_
              refine mx_SW (As := [.ref hT, .int 4]) (rest := []) ⟨hx, hb, hml, hown, hts⟩ (x_L_worlds_2 l D cI cZ cJ _ hst hT hB hV a 4 (kw2a ha0 ha2)) (vx_cwSW 2 hts gL_isTold_L_worlds rfl rfl rfl (by decide +kernel) ⟨Nat.le_of_ble_eq_true rfl, Nat.le_of_ble_eq_true rfl⟩) hP hD hK hN hY hXn hS hA hZ rfl hl.1 rfl (Nat.le_of_ble_eq_true rfl) dL_isTold_234 ⟨Nat.le_of_ble_eq_true rfl, Nat.le_of_ble_eq_true rfl⟩ [0] [1, 2, 3, 4, 5, 6, 7] rfl rfl 8 rfl (by decide) (by decide) (fun H locs hP hD hS hG9 => ?_)
              refine lv_bipush (v := (-72)) hx hb dL_isTold_237 (by decide) ?_
              refine lv_icmp_ne (tgt := 253) hx hb dL_isTold_239 (by decide) (fun c10 => ?_) (fun c10 => ?_)
              · exact absurd c10 (by decide)
              · refine lv_aload_n hx hb dL_isTold_242 rfl (lv_at hl 1 rfl) ?_
                refine lv_bipush (v := (-2)) hx hb dL_isTold_243 (by decide) ?_
                refine mx_SW (As := [.ref hT, .int (-2)]) (rest := []) ⟨hx, hb, hml, hown, hts⟩ (x_L_worlds_2 l D cI cZ cJ _ hst hT hB hV a (-2) (kw2b ha0 ha2)) (vx_cwSW 2 hts gL_isTold_L_worlds rfl rfl rfl (by decide +kernel) ⟨Nat.le_of_ble_eq_true rfl, Nat.le_of_ble_eq_true rfl⟩) hP hD hK hN hY hXn hS hA hZ rfl hl.1 rfl (Nat.le_of_ble_eq_true rfl) dL_isTold_245 ⟨Nat.le_of_ble_eq_true rfl, Nat.le_of_ble_eq_true rfl⟩ [0] [1, 2, 3, 4, 5, 6, 7] rfl rfl 8 rfl (by decide) (by decide) (fun H locs hP hD hS hG11 => ?_)
                refine lv_bipush (v := (-72)) hx hb dL_isTold_248 (by decide) ?_
                refine lv_icmp_eq (tgt := 255) hx hb dL_isTold_250 (by decide) (fun c12 => ?_) (fun c12 => ?_)
                · refine lv_aload_n hx hb dL_isTold_255 rfl (lv_at hl 1 rfl) ?_
                  refine lv_iload_n hx hb dL_isTold_256 rfl (lv_at hl 2 rfl) ?_
                  refine lv_aload_n hx hb dL_isTold_257 rfl (lv_at hl 3 rfl) ?_
                  refine lv_aload hx hb dL_isTold_258 (lv_at hl 5 rfl) ?_
                  refine lv_aload hx hb dL_isTold_260 (lv_at hl 6 rfl) ?_
                  refine lv_iconst (v := (-1)) hx hb dL_isTold_262 (by decide) ?_
                  refine mg_S (As := [.ref hT, .int 1, .ref kg, .ref kf, .ref kb, .int (-1)]) (rest := []) ⟨hx, hb, hml, hown, hts⟩ (c_L_isBook l D cI cZ cJ _ hst hT hB hV a hG tr pg kg kf kb g f b 1 (-1) K hK9 hgz hz ha0 ha2 (vw_m1 a) (by decide) (by decide) (by decide) hg1 hg2 hg3 hg4 hg8) (va_cwS 6 hts gL_isTold_L_isBook rfl rfl rfl (by decide +kernel) ⟨Nat.le_of_ble_eq_true rfl, Nat.le_of_ble_eq_true rfl⟩) hP hD hK hN hY hXn hS hA hZ rfl hl.1 rfl (Nat.le_of_ble_eq_true rfl) dL_isTold_263 ⟨Nat.le_of_ble_eq_true rfl, Nat.le_of_ble_eq_true rfl⟩ [0, 1, 2, 4, 6, 7] [3, 5] rfl rfl (fun u16 => [cT hT hB hV a, cB hB hG tr, cA cI hG 1120 pg, cA cI hV 8 vv, cA cI kg 13 g, cA cI kv 8 v, cA cI kf 60 f, cA cI kb 40 u16.2]) (fun _ => rfl) (fun _ => (by intro i9 h9; simp only [List.mem_cons, List.not_mem_nil, or_false] at h9; rcases h9 with rfl | rfl <;> rfl)) (fun _ => rfl) 8 (fun _ => rfl) (by decide) (by decide) (fun r17 u16 H locs hp18 hP hD hS hG15 => ?_)
                  obtain ⟨n13, b14⟩ := u16
                  have hP : va_P D vwCl [cT hT hB hV a, cB hB hG tr, cA cI hG 1120 pg, cA cI hV 8 vv, cA cI kg 13 g, cA cI kv 8 v, cA cI kf 60 f, cA cI kb 40 b14] H := hP
                  have hD : va_D A [cT hT hB hV a, cB hB hG tr, cA cI hG 1120 pg, cA cI hV 8 vv, cA cI kg 13 g, cA cI kv 8 v, cA cI kf 60 f, cA cI kb 40 b14] := hD
                  dsimp only at hG15
                  rcases hp18 with ⟨hp18, hq19⟩ | ⟨hp18, hq19⟩
                  · have hq19 : n13 = 0 := hq19
                    rw [hp18]
                    rw [hq19] at hG15
                    refine lv_if_eq (tgt := 316) hx hb dL_isTold_266 (by decide) (fun c20 => ?_) (fun c20 => ?_)
                    · refine lv_iconst (v := 0) hx hb dL_isTold_316 (by decide) ?_
                      exact mg_zret (0, b14) hx hb hr hlocks hS (Nat.le_of_ble_eq_true rfl) (Nat.le_of_ble_eq_true rfl) (Or.inl ⟨rfl, rfl⟩) rfl hP (by have h9 := hS.1; dsimp only; omega) dL_isTold_317
                    · exact absurd c20 (by decide)
                  · have hq19 : n13 = 3 := hq19
                    rw [hp18]
                    rw [hq19] at hG15
                    refine lv_if_eq (tgt := 316) hx hb dL_isTold_266 (by decide) (fun c21 => ?_) (fun c21 => ?_)
                    · exact absurd c21 (by decide)
                    · refine lv_aload_n hx hb dL_isTold_269 rfl (lv_at hl 1 rfl) ?_
                      refine lv_iload_n hx hb dL_isTold_270 rfl (lv_at hl 2 rfl) ?_
                      refine lv_iconst (v := 3) hx hb dL_isTold_271 (by decide) ?_
                      refine lv_ishr hx hb dL_isTold_272 ?_
                      refine k_top 0 (by decide) ?_
                      refine lv_aload_n hx hb dL_isTold_273 rfl (lv_at hl 3 rfl) ?_
                      refine lv_aload hx hb dL_isTold_274 (lv_at hl 5 rfl) ?_
                      refine lv_aload hx hb dL_isTold_276 (lv_at hl 6 rfl) ?_
                      refine lv_aload_n hx hb dL_isTold_278 rfl (lv_at hl 3 rfl) ?_
                      refine lv_iconst (v := 3) hx hb dL_isTold_279 (by decide) ?_
                      refine k_iald (D := D) (j := 3) (v := 1) hx hb hK hP 4 0 rfl rfl (by decide) (by decide) (Nat.le_of_ble_eq_true rfl) hg3 dL_isTold_280 ?_
                      refine mg_S (As := [.ref hT, .int 0, .ref kg, .ref kf, .ref kb, .int 1]) (rest := []) ⟨hx, hb, hml, hown, hts⟩ (c_L_isBook l D cI cZ cJ _ hst hT hB hV a hG tr pg kg kf kb g f b14 0 1 K hK9 hgz hz ha0 ha2 (show yVw a 1 = true from vw_at (i := 1) ha2 (by decide)) (by decide) (by decide) (by decide) hg1 hg2 hg3 hg4 hg8) (va_cwS 6 hts gL_isTold_L_isBook rfl rfl rfl (by decide +kernel) ⟨Nat.le_of_ble_eq_true rfl, Nat.le_of_ble_eq_true rfl⟩) hP hD hK hN hY hXn hS hA hZ rfl hl.1 rfl (Nat.le_of_ble_eq_true rfl) dL_isTold_281 ⟨Nat.le_of_ble_eq_true rfl, Nat.le_of_ble_eq_true rfl⟩ [0, 1, 2, 4, 6, 7] [3, 5] rfl rfl (fun u25 => [cT hT hB hV a, cB hB hG tr, cA cI hG 1120 pg, cA cI hV 8 vv, cA cI kg 13 g, cA cI kv 8 v, cA cI kf 60 f, cA cI kb 40 u25.2]) (fun _ => rfl) (fun _ => (by intro i9 h9; simp only [List.mem_cons, List.not_mem_nil, or_false] at h9; rcases h9 with rfl | rfl <;> rfl)) (fun _ => rfl) 8 (fun _ => rfl) (by decide) (by decide) (fun r26 u25 H locs hp27 hP hD hS hG24 => ?_)
                      obtain ⟨n22, b23⟩ := u25
                      have hP : va_P D vwCl [cT hT hB hV a, cB hB hG tr, cA cI hG 1120 pg, cA cI hV 8 vv, cA cI kg 13 g, cA cI kv 8 v, cA cI kf 60 f, cA cI kb 40 b23] H := hP
                      have hD : va_D A [cT hT hB hV a, cB hB hG tr, cA cI hG 1120 pg, cA cI hV 8 vv, cA cI kg 13 g, cA cI kv 8 v, cA cI kf 60 f, cA cI kb 40 b23] := hD
                      dsimp only at hG24
                      rcases hp27 with ⟨hp27, hq28⟩ | ⟨hp27, hq28⟩
                      · have hq28 : n22 = 0 := hq28
                        rw [hp27]
                        rw [hq28] at hG24
                        refine lv_if_eq (tgt := 316) hx hb dL_isTold_284 (by decide) (fun c29 => ?_) (fun c29 => ?_)
                        · refine lv_iconst (v := 0) hx hb dL_isTold_316 (by decide) ?_
                          exact mg_zret (0, b23) hx hb hr hlocks hS (Nat.le_of_ble_eq_true rfl) (Nat.le_of_ble_eq_true rfl) (Or.inl ⟨rfl, rfl⟩) rfl hP (by have h9 := hS.1; dsimp only; omega) dL_isTold_317
                        · exact absurd c29 (by decide)
                      · have hq28 : n22 = 3 := hq28
                        rw [hp27]
                        rw [hq28] at hG24
                        refine lv_if_eq (tgt := 316) hx hb dL_isTold_284 (by decide) (fun c30 => ?_) (fun c30 => ?_)
                        · exact absurd c30 (by decide)
                        · refine lv_aload_n hx hb dL_isTold_287 rfl (lv_at hl 1 rfl) ?_
                          refine lv_iload_n hx hb dL_isTold_288 rfl (lv_at hl 2 rfl) ?_
                          refine lv_iconst (v := 5) hx hb dL_isTold_289 (by decide) ?_
                          refine lv_ishr hx hb dL_isTold_290 ?_
                          refine k_top 0 (by decide) ?_
                          refine lv_aload_n hx hb dL_isTold_291 rfl (lv_at hl 3 rfl) ?_
                          refine lv_aload hx hb dL_isTold_292 (lv_at hl 5 rfl) ?_
                          refine lv_aload hx hb dL_isTold_294 (lv_at hl 6 rfl) ?_
                          refine lv_iload_n hx hb dL_isTold_296 rfl (lv_at hl 2 rfl) ?_
                          refine lv_bipush (v := 7) hx hb dL_isTold_297 (by decide) ?_
                          refine lv_ishr hx hb dL_isTold_299 ?_
                          refine k_top 0 (by decide) ?_
                          refine lv_aload_n hx hb dL_isTold_300 rfl (lv_at hl 3 rfl) ?_
                          refine lv_iconst (v := 1) hx hb dL_isTold_301 (by decide) ?_
                          refine k_iald (D := D) (j := 1) (v := 4) hx hb hK hP 4 0 rfl rfl (by decide) (by decide) (Nat.le_of_ble_eq_true rfl) hg1 dL_isTold_302 ?_
                          refine rd_S (As := [.int 0, .int 4]) (rest := [.ref kb, .ref kf, .ref kg, .int 0, .ref hT]) ⟨hx, hb, hml, hown, hts⟩ (c_L_low l D cI cZ cJ 0 4 (by decide)) (va_cwS 2 hts gL_isTold_L_low rfl rfl rfl (by decide +kernel) ⟨Nat.le_of_ble_eq_true rfl, Nat.le_of_ble_eq_true rfl⟩) (hP.sub (ws' := []) [] rfl) hK hN rfl hl.1 rfl (Nat.le_of_ble_eq_true rfl) dL_isTold_303 ⟨Nat.le_of_ble_eq_true rfl, Nat.le_of_ble_eq_true rfl⟩ ?_
                          refine k_top 0 (by decide) ?_
                          refine mg_S (As := [.ref hT, .int 0, .ref kg, .ref kf, .ref kb, .int 0]) (rest := []) ⟨hx, hb, hml, hown, hts⟩ (c_L_isBook l D cI cZ cJ _ hst hT hB hV a hG tr pg kg kf kb g f b23 0 0 K hK9 hgz hz ha0 ha2 (show yVw a 0 = true from vw_at (i := 0) ha2 (by decide)) (by decide) (by decide) (by decide) hg1 hg2 hg3 hg4 hg8) (va_cwS 6 hts gL_isTold_L_isBook rfl rfl rfl (by decide +kernel) ⟨Nat.le_of_ble_eq_true rfl, Nat.le_of_ble_eq_true rfl⟩) hP hD hK hN hY hXn hS hA hZ rfl hl.1 rfl (Nat.le_of_ble_eq_true rfl) dL_isTold_306 ⟨Nat.le_of_ble_eq_true rfl, Nat.le_of_ble_eq_true rfl⟩ [0, 1, 2, 4, 6, 7] [3, 5] rfl rfl (fun u34 => [cT hT hB hV a, cB hB hG tr, cA cI hG 1120 pg, cA cI hV 8 vv, cA cI kg 13 g, cA cI kv 8 v, cA cI kf 60 f, cA cI kb 40 u34.2]) (fun _ => rfl) (fun _ => (by intro i9 h9; simp only [List.mem_cons, List.not_mem_nil, or_false] at h9; rcases h9 with rfl | rfl <;> rfl)) (fun _ => rfl) 8 (fun _ => rfl) (by decide) (by decide) (fun r35 u34 H locs hp36 hP hD hS hG33 => ?_)
                          obtain ⟨n31, b32⟩ := u34
                          have hP : va_P D vwCl [cT hT hB hV a, cB hB hG tr, cA cI hG 1120 pg, cA cI hV 8 vv, cA cI kg 13 g, cA cI kv 8 v, cA cI kf 60 f, cA cI kb 40 b32] H := hP
                          have hD : va_D A [cT hT hB hV a, cB hB hG tr, cA cI hG 1120 pg, cA cI hV 8 vv, cA cI kg 13 g, cA cI kv 8 v, cA cI kf 60 f, cA cI kb 40 b32] := hD
                          dsimp only at hG33
                          rcases hp36 with ⟨hp36, hq37⟩ | ⟨hp36, hq37⟩
                          · have hq37 : n31 = 0 := hq37
                            rw [hp36]
                            rw [hq37] at hG33
                            refine lv_if_eq (tgt := 316) hx hb dL_isTold_309 (by decide) (fun c38 => ?_) (fun c38 => ?_)
                            · refine lv_iconst (v := 0) hx hb dL_isTold_316 (by decide) ?_
                              exact mg_zret (0, b32) hx hb hr hlocks hS (Nat.le_of_ble_eq_true rfl) (Nat.le_of_ble_eq_true rfl) (Or.inl ⟨rfl, rfl⟩) rfl hP (by have h9 := hS.1; dsimp only; omega) dL_isTold_317
                            · exact absurd c38 (by decide)
                          · have hq37 : n31 = 3 := hq37
                            rw [hp36]
                            rw [hq37] at hG33
                            refine lv_if_eq (tgt := 316) hx hb dL_isTold_309 (by decide) (fun c39 => ?_) (fun c39 => ?_)
                            · exact absurd c39 (by decide)
                            · refine lv_iconst (v := 1) hx hb dL_isTold_312 (by decide) ?_
                              refine lv_goto (tgt := 317) hx hb dL_isTold_313 (by decide) ?_
                              exact mg_zret (11, b32) hx hb hr hlocks hS (Nat.le_of_ble_eq_true rfl) (Nat.le_of_ble_eq_true rfl) (Or.inr ⟨rfl, rfl⟩) rfl hP (by have h9 := hS.1; dsimp only; omega) dL_isTold_317
                · exact absurd c12 (by decide)
    · have hlti2 : i2 < 4 := k_lt (N := 4) (by decide) (by decide) hii2 c4
      refine lv_iconst (v := 0) hx hb dL_isTold_131 (by decide) ?_
      refine lv_istore (lv' := [(7, .int 0), (6, .int (nI i2)), (0, .ref hT), (1, .int 1), (2, .ref kg), (3, .ref kv), (4, .ref kf), (5, .ref kb)]) hx hb dL_isTold_132 hl (by decide) rfl (fun ls hl => ?_)
      refine lv_iconst (v := 0) hx hb dL_isTold_134 (by decide) ?_
      refine lv_istore (lv' := [(8, .int 0), (7, .int 0), (6, .int (nI i2)), (0, .ref hT), (1, .int 1), (2, .ref kg), (3, .ref kv), (4, .ref kf), (5, .ref kb)]) hx hb dL_isTold_135 hl (by decide) rfl (fun ls hl => ?_)
      refine loop_RX (α := Int32) (nL := 9) (h := 137) 8 (fun i41 x42 => [(8, .int (nI i41)), (7, .int x42), (6, .int (nI i2)), (0, .ref hT), (1, .int 1), (2, .ref kg), (3, .ref kv), (4, .ref kf), (5, .ref kb)]) (fun _ x42 => True) (fun i41 x42 hii41 hIi41 ihi41 ls hl => ?_) 0 (0 : Int32) (Nat.zero_le _) trivial ls (lv_sub hl [0, 1, 2, 3, 4, 5, 6, 7, 8] rfl)
      have hl := hl
      have hl : lv_has ls 9 [(8, .int (nI i41)), (7, .int x42), (6, .int (nI i2)), (0, .ref hT), (1, .int 1), (2, .ref kg), (3, .ref kv), (4, .ref kf), (5, .ref kb)] := hl
      refine lv_iload hx hb dL_isTold_137 (lv_at hl 0 rfl) ?_
      refine lv_bipush (v := 8) hx hb dL_isTold_139 (by decide) ?_
      refine lv_icmp_ge (tgt := 169) hx hb dL_isTold_141 (by decide) (fun c43 => ?_) (fun c43 => ?_)
      · refine lv_aload_n hx hb dL_isTold_169 rfl (lv_at hl 3 rfl) ?_
        refine lv_iload hx hb dL_isTold_170 (lv_at hl 2 rfl) ?_
        refine rd_V (b := hT) (As := [.int (nI i2)]) (rest := []) ⟨hx, hb, hml, hown, hts⟩ (c_X1_votesFor l D cI cZ cJ hT hB hV a vv (nI i2) (by rw [ha0]; decide) (r_a2 ha2 (by omega))) (cwV 1 hts gL_isTold_X1_votesFor rfl rfl rfl (by decide +kernel) ⟨Nat.le_of_ble_eq_true rfl, Nat.le_of_ble_eq_true rfl⟩) (hP.sub (ws' := [cT hT hB hV a, cA cI hV 8 vv]) [0, 3] rfl) hK hN (va_recv hK hP (ci := 1) (q0 := 0) rfl rfl) rfl hl.1 rfl (Nat.le_of_ble_eq_true rfl) dL_isTold_172 ⟨Nat.le_of_ble_eq_true rfl, Nat.le_of_ble_eq_true rfl⟩ ?_
        refine lv_iload hx hb dL_isTold_175 (lv_at hl 1 rfl) ?_
        refine lv_icmp_eq (tgt := 182) hx hb dL_isTold_177 (by decide) (fun c44 => ?_) (fun c44 => ?_)
        · refine lv_iinc (v := (nI (i2 + 1))) (lv' := [(6, .int (nI (i2 + 1))), (8, .int (nI i41)), (7, .int x42), (0, .ref hT), (1, .int 1), (2, .ref kg), (3, .ref kv), (4, .ref kf), (5, .ref kb)]) hx hb dL_isTold_182 hl (k := 2) rfl (nI_1 i2) (by decide) rfl (fun ls hl => ?_)
          refine lv_goto (tgt := 123) hx hb dL_isTold_185 (by decide) ?_
          exact ihi2 () hlti2 trivial ls (lv_sub hl [0, 3, 4, 5, 6, 7, 8] rfl)
        · refine lv_iconst (v := 0) hx hb dL_isTold_180 (by decide) ?_
          exact mg_zret (0, b) hx hb hr hlocks hS (Nat.le_of_ble_eq_true rfl) (Nat.le_of_ble_eq_true rfl) (Or.inl ⟨rfl, rfl⟩) rfl hP (by have h9 := hS.1; dsimp only; omega) dL_isTold_181
      · have hlti41 : i41 < 8 := k_lt (N := 8) (by decide) (by decide) hii41 c43
        refine lv_iload hx hb dL_isTold_144 (lv_at hl 1 rfl) ?_
        refine lv_aload_n hx hb dL_isTold_146 rfl (lv_at hl 6 rfl) ?_
        refine lv_iload hx hb dL_isTold_147 (lv_at hl 0 rfl) ?_
        refine k_iald (D := D) (j := i41) (v := (v i41)) hx hb hK hP 5 0 rfl rfl rfl (by omega) (Nat.le_of_ble_eq_true rfl) rfl dL_isTold_149 ?_
        refine lv_iload hx hb dL_isTold_150 (lv_at hl 2 rfl) ?_
        refine lv_icmp_ne (tgt := 159) hx hb dL_isTold_152 (by decide) (fun c45 => ?_) (fun c45 => ?_)
        · refine lv_iconst (v := 0) hx hb dL_isTold_159 (by decide) ?_
          refine lv_iadd hx hb dL_isTold_160 ?_
          refine lv_istore (lv' := [(7, .int (x42 + 0)), (8, .int (nI i41)), (6, .int (nI i2)), (0, .ref hT), (1, .int 1), (2, .ref kg), (3, .ref kv), (4, .ref kf), (5, .ref kb)]) hx hb dL_isTold_161 hl (by decide) rfl (fun ls hl => ?_)
          refine lv_iinc (v := (nI (i41 + 1))) (lv' := [(8, .int (nI (i41 + 1))), (7, .int (x42 + 0)), (6, .int (nI i2)), (0, .ref hT), (1, .int 1), (2, .ref kg), (3, .ref kv), (4, .ref kf), (5, .ref kb)]) hx hb dL_isTold_163 hl (k := 1) rfl (nI_1 i41) (by decide) rfl (fun ls hl => ?_)
          refine lv_goto (tgt := 137) hx hb dL_isTold_166 (by decide) ?_
          exact ihi41 (x42 + 0) hlti41 trivial ls (lv_sub hl [0, 1, 2, 3, 4, 5, 6, 7, 8] rfl)
        · refine lv_iconst (v := 1) hx hb dL_isTold_155 (by decide) ?_
          refine lv_goto (tgt := 160) hx hb dL_isTold_156 (by decide) ?_
          refine lv_iadd hx hb dL_isTold_160 ?_
          refine lv_istore (lv' := [(7, .int (x42 + 1)), (8, .int (nI i41)), (6, .int (nI i2)), (0, .ref hT), (1, .int 1), (2, .ref kg), (3, .ref kv), (4, .ref kf), (5, .ref kb)]) hx hb dL_isTold_161 hl (by decide) rfl (fun ls hl => ?_)
          refine lv_iinc (v := (nI (i41 + 1))) (lv' := [(8, .int (nI (i41 + 1))), (7, .int (x42 + 1)), (6, .int (nI i2)), (0, .ref hT), (1, .int 1), (2, .ref kg), (3, .ref kv), (4, .ref kf), (5, .ref kb)]) hx hb dL_isTold_163 hl (k := 1) rfl (nI_1 i41) (by decide) rfl (fun ls hl => ?_)
          refine lv_goto (tgt := 137) hx hb dL_isTold_166 (by decide) ?_
          exact ihi41 (x42 + 1) hlti41 trivial ls (lv_sub hl [0, 1, 2, 3, 4, 5, 6, 7, 8] rfl)
  · exact absurd c1 (by decide)
