theorem in_X2_claim_X2 : ∀ w ∈ wsX20, w ∈ wsX2_claim := by decide +kernel
set_option maxHeartbeats 2000000 in
set_option maxRecDepth 100000 in
theorem c_X2_claim (l : Launch) (D : va_G) (cI cZ cJ : ClassId) (sz : Nat) (hM : Nat) (hO : Nat) (hW : Nat) (hY : Nat) (th : Int32) (a : Nat → Int32) (o : Nat → Bool) (q : Int32) (k : Int32) (r : Int32) (hk : kCl a q k r = 0) : Mi l D cI cZ cJ yX2_claim wsX2_claim 3 65 sz [.ref hM, .int q, .int k, .int r] [cM hM hO hW hY th a, cA cZ hO 16384 (fun w => bI (o w))] [cM hM hO hW hY 0 a, cA cZ hO 16384 (fun w => bI ((oUp (nCl o q k r) o 16384) w))] (xCnt (oUp (nCl o q k r) o 16384) 16384) := by
  refine mi_of (by decide) rfl (Nat.le_of_ble_eq_true rfl) (fun p e s m below meth c ls A hx hb hr hml hts hown hlocks hin hP hK hN hD hA hS hl => ?_)
  have hl : lv_has ls 5 [(0, .ref hM), (1, .int q), (2, .int k), (3, .int r)] := hl
  refine lv_aload_n hx hb dX2_claim_0 rfl (lv_at hl 0 rfl) ?_
  refine lv_aload_n hx hb dX2_claim_1 rfl (lv_at hl 0 rfl) ?_
  refine va_get (D := D) (cl := vwCl) (ci := 2) (v := .int (a 0)) (C := RX2) (T := TX2) (N := 16) hx hb hts in_X2_claim_X2 hown hK hP 0 rfl rfl 1 (by decide) (hts (.fieldLink RX2 70 "WitchTrialModel" "phase" "I") (List.mem_of_getElem? (i := 1) rfl)) (fun _ h9 => h9) rfl dX2_claim_2 ?_
  refine lv_if_ne (tgt := 12) hx hb dX2_claim_5 (by decide) (fun c_1 => ?_) (fun c_1 => ?_)
  · refine lv_aload_n hx hb dX2_claim_12 rfl (lv_at hl 0 rfl) ?_
    refine lv_iload_n hx hb dX2_claim_13 rfl (lv_at hl 1 rfl) ?_
    refine rd_V (b := hM) (As := [.int q]) (rest := [.ref hM]) ⟨hx, hb, hml, hown, hts⟩ (c_X2_isPlayer l D cI cZ cJ hM hO hW hY th a q) (cwV 1 hts gX2_claim_X2_isPlayer rfl rfl rfl (by decide +kernel) ⟨Nat.le_of_ble_eq_true rfl, Nat.le_of_ble_eq_true rfl⟩) (hP.sub (ws' := [cM hM hO hW hY th a]) [0] rfl) hK hN (va_recv hK hP (ci := 2) (q0 := 0) rfl rfl) rfl hl.1 rfl (Nat.le_of_ble_eq_true rfl) dX2_claim_14 ⟨Nat.le_of_ble_eq_true rfl, Nat.le_of_ble_eq_true rfl⟩ ?_
    refine lv_if_eq (tgt := 28) hx hb dX2_claim_17 (by decide) (fun c_2 => ?_) (fun c_2 => ?_)
    · have c_2 : (xPl a q) = false := bI_0 c_2
      refine lv_iconst (v := 2) hx hb dX2_claim_28 (by decide) ?_
      refine lv_goto (tgt := 67) hx hb dX2_claim_29 (by decide) ?_
      refine va_put (D := D) (cl := vwCl) (ci := 2) (v := .int 2) (ty := .int) (C := RX2) (T := TX2) (N := 16) hx hb hts in_X2_claim_X2 tyX2 tyX2_ok nmX2 hown hK hP hD hS 0 rfl rfl 0 (by decide) (hts (.fieldLink RX2 20 "WitchTrialModel" "thrown" "I") (List.mem_of_getElem? (i := 2) rfl)) (fun _ h9 => h9) rfl (by decide +kernel) rfl rfl (Nat.le_of_ble_eq_true rfl) dX2_claim_67 (fun H locs hP hD hS => ?_)
      have hP : va_P D vwCl [cM hM hO hW hY 2 a, cA cZ hO 16384 (fun w => bI (o w))] H := hP
      have hD : va_D A [cM hM hO hW hY 2 a, cA cZ hO 16384 (fun w => bI (o w))] := hD
      refine lv_aload_n hx hb dX2_claim_70 rfl (lv_at hl 0 rfl) ?_
      refine va_get (D := D) (cl := vwCl) (ci := 2) (v := .int 2) (C := RX2) (T := TX2) (N := 16) hx hb hts in_X2_claim_X2 hown hK hP 0 rfl rfl 0 (by decide) (hts (.fieldLink RX2 20 "WitchTrialModel" "thrown" "I") (List.mem_of_getElem? (i := 2) rfl)) (fun _ h9 => h9) rfl dX2_claim_71 ?_
      refine lv_if_le (tgt := 79) hx hb dX2_claim_74 (by decide) (fun c_3 => ?_) (fun c_3 => ?_)
      · exact absurd c_3 (by decide)
      · exact absurd hk (by simp [kCl, nCl, bI, c_1, c_2])
    · have c_2 : (xPl a q) = true := bI_1 c_2
      refine lv_aload_n hx hb dX2_claim_20 rfl (lv_at hl 0 rfl) ?_
      refine lv_iload_n hx hb dX2_claim_21 rfl (lv_at hl 3 rfl) ?_
      refine rd_V (b := hM) (As := [.int r]) (rest := [.ref hM]) ⟨hx, hb, hml, hown, hts⟩ (c_X2_isPlayer l D cI cZ cJ hM hO hW hY th a r) (cwV 1 hts gX2_claim_X2_isPlayer rfl rfl rfl (by decide +kernel) ⟨Nat.le_of_ble_eq_true rfl, Nat.le_of_ble_eq_true rfl⟩) (hP.sub (ws' := [cM hM hO hW hY th a]) [0] rfl) hK hN (va_recv hK hP (ci := 2) (q0 := 0) rfl rfl) rfl hl.1 rfl (Nat.le_of_ble_eq_true rfl) dX2_claim_22 ⟨Nat.le_of_ble_eq_true rfl, Nat.le_of_ble_eq_true rfl⟩ ?_
      refine lv_if_ne (tgt := 32) hx hb dX2_claim_25 (by decide) (fun c_4 => ?_) (fun c_4 => ?_)
      · have c_4 : (xPl a r) = true := bI_1 c_4
        refine lv_iload_n hx hb dX2_claim_32 rfl (lv_at hl 2 rfl) ?_
        refine lv_iconst (v := 0) hx hb dX2_claim_33 (by decide) ?_
        refine lv_iconst (v := 3) hx hb dX2_claim_34 (by decide) ?_
        refine rd_S (As := [.int k, .int 0, .int 3]) (rest := [.ref hM]) ⟨hx, hb, hml, hown, hts⟩ (c_X2_in l D cI cZ cJ k 0 3) (va_cwS 3 hts gX2_claim_X2_in rfl rfl rfl (by decide +kernel) ⟨Nat.le_of_ble_eq_true rfl, Nat.le_of_ble_eq_true rfl⟩) (hP.sub (ws' := []) [] rfl) hK hN rfl hl.1 rfl (Nat.le_of_ble_eq_true rfl) dX2_claim_35 ⟨Nat.le_of_ble_eq_true rfl, Nat.le_of_ble_eq_true rfl⟩ ?_
        refine lv_if_ne (tgt := 45) hx hb dX2_claim_38 (by decide) (fun c_5 => ?_) (fun c_5 => ?_)
        · have c_5 : (xIn k 0 3) = true := bI_1 c_5
          refine lv_aload_n hx hb dX2_claim_45 rfl (lv_at hl 0 rfl) ?_
          refine lv_iload_n hx hb dX2_claim_46 rfl (lv_at hl 1 rfl) ?_
          refine lv_aload_n hx hb dX2_claim_47 rfl (lv_at hl 0 rfl) ?_
          refine rd_V (b := hM) (As := []) (rest := [.int q, .ref hM, .ref hM]) ⟨hx, hb, hml, hown, hts⟩ (c_X2_truth l D cI cZ cJ hM hO hW hY th a) (cwV 0 hts gX2_claim_X2_truth rfl rfl rfl (by decide +kernel) ⟨Nat.le_of_ble_eq_true rfl, Nat.le_of_ble_eq_true rfl⟩) (hP.sub (ws' := [cM hM hO hW hY th a]) [0] rfl) hK hN (va_recv hK hP (ci := 2) (q0 := 0) rfl rfl) rfl hl.1 rfl (Nat.le_of_ble_eq_true rfl) dX2_claim_48 ⟨Nat.le_of_ble_eq_true rfl, Nat.le_of_ble_eq_true rfl⟩ ?_
          refine lv_iload_n hx hb dX2_claim_51 rfl (lv_at hl 2 rfl) ?_
          refine lv_iload_n hx hb dX2_claim_52 rfl (lv_at hl 3 rfl) ?_
          refine rd_S (As := [.int (xTr a), .int k, .int r]) (rest := [.int q, .ref hM, .ref hM]) ⟨hx, hb, hml, hown, hts⟩ (c_X2_isTrue l D cI cZ cJ (xTr a) k r) (va_cwS 3 hts gX2_claim_X2_isTrue rfl rfl rfl (by decide +kernel) ⟨Nat.le_of_ble_eq_true rfl, Nat.le_of_ble_eq_true rfl⟩) (hP.sub (ws' := []) [] rfl) hK hN rfl hl.1 rfl (Nat.le_of_ble_eq_true rfl) dX2_claim_53 ⟨Nat.le_of_ble_eq_true rfl, Nat.le_of_ble_eq_true rfl⟩ ?_
          refine rd_V (b := hM) (As := [.int q, .int (bI (xTrue (xTr a) k r))]) (rest := [.ref hM]) ⟨hx, hb, hml, hown, hts⟩ (c_X2_may l D cI cZ cJ hM hO hW hY th a q (xTrue (xTr a) k r)) (cwV 2 hts gX2_claim_X2_may rfl rfl rfl (by decide +kernel) ⟨Nat.le_of_ble_eq_true rfl, Nat.le_of_ble_eq_true rfl⟩) (hP.sub (ws' := [cM hM hO hW hY th a]) [0] rfl) hK hN (va_recv hK hP (ci := 2) (q0 := 0) rfl rfl) rfl hl.1 rfl (Nat.le_of_ble_eq_true rfl) dX2_claim_56 ⟨Nat.le_of_ble_eq_true rfl, Nat.le_of_ble_eq_true rfl⟩ ?_
          refine lv_if_eq (tgt := 66) hx hb dX2_claim_59 (by decide) (fun c_6 => ?_) (fun c_6 => ?_)
          · have c_6 : (xMay a q (xTrue (xTr a) k r)) = false := bI_0 c_6
            refine lv_iconst (v := 4) hx hb dX2_claim_66 (by decide) ?_
            refine va_put (D := D) (cl := vwCl) (ci := 2) (v := .int 4) (ty := .int) (C := RX2) (T := TX2) (N := 16) hx hb hts in_X2_claim_X2 tyX2 tyX2_ok nmX2 hown hK hP hD hS 0 rfl rfl 0 (by decide) (hts (.fieldLink RX2 20 "WitchTrialModel" "thrown" "I") (List.mem_of_getElem? (i := 2) rfl)) (fun _ h9 => h9) rfl (by decide +kernel) rfl rfl (Nat.le_of_ble_eq_true rfl) dX2_claim_67 (fun H locs hP hD hS => ?_)
            have hP : va_P D vwCl [cM hM hO hW hY 4 a, cA cZ hO 16384 (fun w => bI (o w))] H := hP
            have hD : va_D A [cM hM hO hW hY 4 a, cA cZ hO 16384 (fun w => bI (o w))] := hD
            refine lv_aload_n hx hb dX2_claim_70 rfl (lv_at hl 0 rfl) ?_
            refine va_get (D := D) (cl := vwCl) (ci := 2) (v := .int 4) (C := RX2) (T := TX2) (N := 16) hx hb hts in_X2_claim_X2 hown hK hP 0 rfl rfl 0 (by decide) (hts (.fieldLink RX2 20 "WitchTrialModel" "thrown" "I") (List.mem_of_getElem? (i := 2) rfl)) (fun _ h9 => h9) rfl dX2_claim_71 ?_
            refine lv_if_le (tgt := 79) hx hb dX2_claim_74 (by decide) (fun c_7 => ?_) (fun c_7 => ?_)
            · exact absurd c_7 (by decide)
            · exact absurd hk (by simp [kCl, nCl, bI, c_1, c_2, c_4, c_5, c_6])
          · have c_6 : (xMay a q (xTrue (xTr a) k r)) = true := bI_1 c_6
            refine lv_iconst (v := 0) hx hb dX2_claim_62 (by decide) ?_
            refine lv_goto (tgt := 67) hx hb dX2_claim_63 (by decide) ?_
            refine va_put (D := D) (cl := vwCl) (ci := 2) (v := .int 0) (ty := .int) (C := RX2) (T := TX2) (N := 16) hx hb hts in_X2_claim_X2 tyX2 tyX2_ok nmX2 hown hK hP hD hS 0 rfl rfl 0 (by decide) (hts (.fieldLink RX2 20 "WitchTrialModel" "thrown" "I") (List.mem_of_getElem? (i := 2) rfl)) (fun _ h9 => h9) rfl (by decide +kernel) rfl rfl (Nat.le_of_ble_eq_true rfl) dX2_claim_67 (fun H locs hP hD hS => ?_)
            have hP : va_P D vwCl [cM hM hO hW hY 0 a, cA cZ hO 16384 (fun w => bI (o w))] H := hP
            have hD : va_D A [cM hM hO hW hY 0 a, cA cZ hO 16384 (fun w => bI (o w))] := hD
            refine lv_aload_n hx hb dX2_claim_70 rfl (lv_at hl 0 rfl) ?_
            refine va_get (D := D) (cl := vwCl) (ci := 2) (v := .int 0) (C := RX2) (T := TX2) (N := 16) hx hb hts in_X2_claim_X2 hown hK hP 0 rfl rfl 0 (by decide) (hts (.fieldLink RX2 20 "WitchTrialModel" "thrown" "I") (List.mem_of_getElem? (i := 2) rfl)) (fun _ h9 => h9) rfl dX2_claim_71 ?_
            refine lv_if_le (tgt := 79) hx hb dX2_claim_74 (by decide) (fun c_8 => ?_) (fun c_8 => ?_)
            · refine lv_iconst (v := 0) hx hb dX2_claim_79 (by decide) ?_
              refine lv_istore (lv' := [(4, .int 0), (0, .ref hM), (1, .int q), (2, .int k), (3, .int r)]) hx hb dX2_claim_80 hl (by decide) rfl (fun ls hl => ?_)
              refine loop_M (D := D) (nL := 5) (h := 82) 16384 (fun i => [(0, .ref hM), (1, .int q), (2, .int k), (3, .int r), (4, .int (nI i))]) (fun i => [cM hM hO hW hY 0 a, cA cZ hO 16384 (fun w => bI ((oUp (nCl o q k r) o i) w))]) (fun _ => True) (fun i hi hI ih_i H locs ls hP hD hS hl => ?_) 0 (by omega) trivial _ _ ls ?_ ?_ hS ?_
              · have hl : lv_has ls 5 [(0, .ref hM), (1, .int q), (2, .int k), (3, .int r), (4, .int (nI i))] := hl
                have hP : va_P D vwCl [cM hM hO hW hY 0 a, cA cZ hO 16384 (fun w => bI ((oUp (nCl o q k r) o i) w))] H := hP
                have hD : va_D A [cM hM hO hW hY 0 a, cA cZ hO 16384 (fun w => bI ((oUp (nCl o q k r) o i) w))] := hD
                refine lv_iload hx hb dX2_claim_82 (lv_at hl 4 rfl) ?_
                refine lv_sipush (v := 16384) hx hb dX2_claim_84 (by decide) ?_
                refine lv_icmp_ge (tgt := 140) hx hb dX2_claim_87 (by decide) (fun c_10 => ?_) (fun c_10 => ?_)
                · have hi9 : 16384 = i := (geN hi (by omega) rfl c_10).symm
                  subst hi9
                  refine lv_aload_n hx hb dX2_claim_140 rfl (lv_at hl 0 rfl) ?_
                  refine rd_V (b := hM) (As := []) (rest := []) ⟨hx, hb, hml, hown, hts⟩ (c_X2_manyOpen l D cI cZ cJ hM hO hW hY 0 a (oUp (nCl o q k r) o 16384)) (cwV 0 hts gX2_claim_X2_manyOpen rfl rfl rfl (by decide +kernel) ⟨Nat.le_of_ble_eq_true rfl, Nat.le_of_ble_eq_true rfl⟩) (hP.sub (ws' := [cM hM hO hW hY 0 a, cA cZ hO 16384 (fun w => bI ((oUp (nCl o q k r) o 16384) w))]) [0, 1] rfl) hK hN (va_recv hK hP (ci := 2) (q0 := 0) rfl rfl) rfl hl.1 rfl (Nat.le_of_ble_eq_true rfl) dX2_claim_141 ⟨Nat.le_of_ble_eq_true rfl, Nat.le_of_ble_eq_true rfl⟩ ?_
                  have hP9 : va_P D vwCl [cM hM hO hW hY 0 a, cA cZ hO 16384 (fun w => bI ((oUp (nCl o q k r) o 16384) w))] H := by
                    exact hP
                  exact mi_iret hx hb hr hlocks hS (by rfl) hP9 dX2_claim_144
                · have hlt : i < 16384 := ltN hi (by omega) rfl c_10
                  refine lv_aload_n hx hb dX2_claim_90 rfl (lv_at hl 0 rfl) ?_
                  refine va_get (D := D) (cl := vwCl) (ci := 2) (v := .ref hO) (C := RX2) (T := TX2) (N := 16) hx hb hts in_X2_claim_X2 hown hK hP 0 rfl rfl 6 (by decide) (hts (.fieldLink RX2 7 "WitchTrialModel" "isOpen" "[Z") (List.mem_of_getElem? (i := 3) rfl)) (fun _ h9 => h9) rfl dX2_claim_91 ?_
                  refine lv_iload hx hb dX2_claim_94 (lv_at hl 4 rfl) ?_
                  refine lv_aload_n hx hb dX2_claim_96 rfl (lv_at hl 0 rfl) ?_
                  refine va_get (D := D) (cl := vwCl) (ci := 2) (v := .ref hO) (C := RX2) (T := TX2) (N := 16) hx hb hts in_X2_claim_X2 hown hK hP 0 rfl rfl 6 (by decide) (hts (.fieldLink RX2 7 "WitchTrialModel" "isOpen" "[Z") (List.mem_of_getElem? (i := 3) rfl)) (fun _ h9 => h9) rfl dX2_claim_97 ?_
                  refine lv_iload hx hb dX2_claim_100 (lv_at hl 4 rfl) ?_
                  refine q_zald (D := D) (j := i) (v := (bI (o i))) hx hb hK hP 1 1 rfl rfl (by omega) (Nat.le_of_ble_eq_true rfl) (congrArg bI (oUp_at _ _ _)) dX2_claim_102 ?_
                  refine lv_if_eq (tgt := 132) hx hb dX2_claim_103 (by decide) (fun c_11 => ?_) (fun c_11 => ?_)
                  · have c_11 : (o i) = false := bI_0 c_11
                    refine lv_iconst (v := 0) hx hb dX2_claim_132 (by decide) ?_
                    refine q_zast (D := D) (j := i) hx hb hK hP hD hS 1 1 rfl rfl (by omega) (Nat.le_of_ble_eq_true rfl) dX2_claim_133 (fun H locs hP hD hS => ?_)
                    have hP : va_P D vwCl [cM hM hO hW hY 0 a, cA cZ hO 16384 (upd (fun w => bI ((oUp (nCl o q k r) o i) w)) i (vp_nar .boolean 0))] H := hP
                    have hD : va_D A [cM hM hO hW hY 0 a, cA cZ hO 16384 (upd (fun w => bI ((oUp (nCl o q k r) o i) w)) i (vp_nar .boolean 0))] := hD
                    refine lv_iinc (v := (nI (i + 1))) (lv' := [(4, .int (nI (i + 1))), (0, .ref hM), (1, .int q), (2, .int k), (3, .int r)]) hx hb dX2_claim_134 hl (k := 4) rfl (nI_1 i) (by decide) rfl (fun ls hl => ?_)
                    refine lv_goto (tgt := 82) hx hb dX2_claim_137 (by decide) ?_
                    have ew_0 : (fun w => bI ((oUp (nCl o q k r) o (i + 1)) w)) = (upd (fun w => bI ((oUp (nCl o q k r) o i) w)) i (vp_nar .boolean 0)) := by exact oUp_step (by (first | rfl | (simp only [kCl, nCl, bI, oUp_at, c_1, c_2, c_4, c_5, c_6, c_10, c_11, eq_self, ↓reduceIte]; done) | (simp only [kCl, nCl, bI, oUp_at, c_1, c_2, c_4, c_5, c_6, c_10, c_11, eq_self, ↓reduceIte]; rfl) | simp [kCl, nCl, bI, oUp_at, c_1, c_2, c_4, c_5, c_6, c_10, c_11]))
                    exact ih_i (by omega) trivial _ _ ls (by show va_P D vwCl [cM hM hO hW hY 0 a, cA cZ hO 16384 (fun w => bI ((oUp (nCl o q k r) o (i + 1)) w))] _; rw [ew_0]; exact hP) (by show va_D A [cM hM hO hW hY 0 a, cA cZ hO 16384 (fun w => bI ((oUp (nCl o q k r) o (i + 1)) w))]; rw [ew_0]; exact hD) hS (by show lv_has ls 5 [(0, .ref hM), (1, .int q), (2, .int k), (3, .int r), (4, .int (nI (i + 1)))]; exact lv_sub hl [1, 2, 3, 4, 0] rfl)
                  · have c_11 : (o i) = true := bI_1 c_11
                    refine lv_iload hx hb dX2_claim_106 (lv_at hl 4 rfl) ?_
                    refine lv_bipush (v := 64) hx hb dX2_claim_108 (by decide) ?_
                    refine lv_idiv hx hb dX2_claim_110 (by decide) ?_
                    refine lv_iload_n hx hb dX2_claim_111 rfl (lv_at hl 1 rfl) ?_
                    refine rd_S (As := [.int ((nI i) / 64), .int q]) (rest := [.int (nI i), .ref hO]) ⟨hx, hb, hml, hown, hts⟩ (c_X2_has l D cI cZ cJ ((nI i) / 64) q) (va_cwS 2 hts gX2_claim_X2_has rfl rfl rfl (by decide +kernel) ⟨Nat.le_of_ble_eq_true rfl, Nat.le_of_ble_eq_true rfl⟩) (hP.sub (ws' := []) [] rfl) hK hN rfl hl.1 rfl (Nat.le_of_ble_eq_true rfl) dX2_claim_112 ⟨Nat.le_of_ble_eq_true rfl, Nat.le_of_ble_eq_true rfl⟩ ?_
                    refine lv_if_ne (tgt := 128) hx hb dX2_claim_115 (by decide) (fun c_12 => ?_) (fun c_12 => ?_)
                    · have c_12 : (xHas ((nI i) / 64) q) = true := bI_1 c_12
                      refine lv_iconst (v := 1) hx hb dX2_claim_128 (by decide) ?_
                      refine lv_goto (tgt := 133) hx hb dX2_claim_129 (by decide) ?_
                      refine q_zast (D := D) (j := i) hx hb hK hP hD hS 1 1 rfl rfl (by omega) (Nat.le_of_ble_eq_true rfl) dX2_claim_133 (fun H locs hP hD hS => ?_)
                      have hP : va_P D vwCl [cM hM hO hW hY 0 a, cA cZ hO 16384 (upd (fun w => bI ((oUp (nCl o q k r) o i) w)) i (vp_nar .boolean 1))] H := hP
                      have hD : va_D A [cM hM hO hW hY 0 a, cA cZ hO 16384 (upd (fun w => bI ((oUp (nCl o q k r) o i) w)) i (vp_nar .boolean 1))] := hD
                      refine lv_iinc (v := (nI (i + 1))) (lv' := [(4, .int (nI (i + 1))), (0, .ref hM), (1, .int q), (2, .int k), (3, .int r)]) hx hb dX2_claim_134 hl (k := 4) rfl (nI_1 i) (by decide) rfl (fun ls hl => ?_)
                      refine lv_goto (tgt := 82) hx hb dX2_claim_137 (by decide) ?_
                      have ew_0 : (fun w => bI ((oUp (nCl o q k r) o (i + 1)) w)) = (upd (fun w => bI ((oUp (nCl o q k r) o i) w)) i (vp_nar .boolean 1)) := by exact oUp_step (by (first | rfl | (simp only [kCl, nCl, bI, oUp_at, c_1, c_2, c_4, c_5, c_6, c_10, c_11, c_12, eq_self, ↓reduceIte]; done) | (simp only [kCl, nCl, bI, oUp_at, c_1, c_2, c_4, c_5, c_6, c_10, c_11, c_12, eq_self, ↓reduceIte]; rfl) | simp [kCl, nCl, bI, oUp_at, c_1, c_2, c_4, c_5, c_6, c_10, c_11, c_12]))
                      exact ih_i (by omega) trivial _ _ ls (by show va_P D vwCl [cM hM hO hW hY 0 a, cA cZ hO 16384 (fun w => bI ((oUp (nCl o q k r) o (i + 1)) w))] _; rw [ew_0]; exact hP) (by show va_D A [cM hM hO hW hY 0 a, cA cZ hO 16384 (fun w => bI ((oUp (nCl o q k r) o (i + 1)) w))]; rw [ew_0]; exact hD) hS (by show lv_has ls 5 [(0, .ref hM), (1, .int q), (2, .int k), (3, .int r), (4, .int (nI (i + 1)))]; exact lv_sub hl [1, 2, 3, 4, 0] rfl)
                    · have c_12 : (xHas ((nI i) / 64) q) = false := bI_0 c_12
                      refine lv_iload hx hb dX2_claim_118 (lv_at hl 4 rfl) ?_
                      refine lv_iload_n hx hb dX2_claim_120 rfl (lv_at hl 2 rfl) ?_
                      refine lv_iload_n hx hb dX2_claim_121 rfl (lv_at hl 3 rfl) ?_
                      refine rd_S (As := [.int (nI i), .int k, .int r]) (rest := [.int (nI i), .ref hO]) ⟨hx, hb, hml, hown, hts⟩ (c_X2_isTrue l D cI cZ cJ (nI i) k r) (va_cwS 3 hts gX2_claim_X2_isTrue rfl rfl rfl (by decide +kernel) ⟨Nat.le_of_ble_eq_true rfl, Nat.le_of_ble_eq_true rfl⟩) (hP.sub (ws' := []) [] rfl) hK hN rfl hl.1 rfl (Nat.le_of_ble_eq_true rfl) dX2_claim_122 ⟨Nat.le_of_ble_eq_true rfl, Nat.le_of_ble_eq_true rfl⟩ ?_
                      refine lv_if_eq (tgt := 132) hx hb dX2_claim_125 (by decide) (fun c_13 => ?_) (fun c_13 => ?_)
                      · have c_13 : (xTrue (nI i) k r) = false := bI_0 c_13
                        refine lv_iconst (v := 0) hx hb dX2_claim_132 (by decide) ?_
                        refine q_zast (D := D) (j := i) hx hb hK hP hD hS 1 1 rfl rfl (by omega) (Nat.le_of_ble_eq_true rfl) dX2_claim_133 (fun H locs hP hD hS => ?_)
                        have hP : va_P D vwCl [cM hM hO hW hY 0 a, cA cZ hO 16384 (upd (fun w => bI ((oUp (nCl o q k r) o i) w)) i (vp_nar .boolean 0))] H := hP
                        have hD : va_D A [cM hM hO hW hY 0 a, cA cZ hO 16384 (upd (fun w => bI ((oUp (nCl o q k r) o i) w)) i (vp_nar .boolean 0))] := hD
                        refine lv_iinc (v := (nI (i + 1))) (lv' := [(4, .int (nI (i + 1))), (0, .ref hM), (1, .int q), (2, .int k), (3, .int r)]) hx hb dX2_claim_134 hl (k := 4) rfl (nI_1 i) (by decide) rfl (fun ls hl => ?_)
                        refine lv_goto (tgt := 82) hx hb dX2_claim_137 (by decide) ?_
                        have ew_0 : (fun w => bI ((oUp (nCl o q k r) o (i + 1)) w)) = (upd (fun w => bI ((oUp (nCl o q k r) o i) w)) i (vp_nar .boolean 0)) := by exact oUp_step (by (first | rfl | (simp only [kCl, nCl, bI, oUp_at, c_1, c_2, c_4, c_5, c_6, c_10, c_11, c_12, c_13, eq_self, ↓reduceIte]; done) | (simp only [kCl, nCl, bI, oUp_at, c_1, c_2, c_4, c_5, c_6, c_10, c_11, c_12, c_13, eq_self, ↓reduceIte]; rfl) | simp [kCl, nCl, bI, oUp_at, c_1, c_2, c_4, c_5, c_6, c_10, c_11, c_12, c_13]))
                        exact ih_i (by omega) trivial _ _ ls (by show va_P D vwCl [cM hM hO hW hY 0 a, cA cZ hO 16384 (fun w => bI ((oUp (nCl o q k r) o (i + 1)) w))] _; rw [ew_0]; exact hP) (by show va_D A [cM hM hO hW hY 0 a, cA cZ hO 16384 (fun w => bI ((oUp (nCl o q k r) o (i + 1)) w))]; rw [ew_0]; exact hD) hS (by show lv_has ls 5 [(0, .ref hM), (1, .int q), (2, .int k), (3, .int r), (4, .int (nI (i + 1)))]; exact lv_sub hl [1, 2, 3, 4, 0] rfl)
                      · have c_13 : (xTrue (nI i) k r) = true := bI_1 c_13
                        refine lv_iconst (v := 1) hx hb dX2_claim_128 (by decide) ?_
                        refine lv_goto (tgt := 133) hx hb dX2_claim_129 (by decide) ?_
                        refine q_zast (D := D) (j := i) hx hb hK hP hD hS 1 1 rfl rfl (by omega) (Nat.le_of_ble_eq_true rfl) dX2_claim_133 (fun H locs hP hD hS => ?_)
                        have hP : va_P D vwCl [cM hM hO hW hY 0 a, cA cZ hO 16384 (upd (fun w => bI ((oUp (nCl o q k r) o i) w)) i (vp_nar .boolean 1))] H := hP
                        have hD : va_D A [cM hM hO hW hY 0 a, cA cZ hO 16384 (upd (fun w => bI ((oUp (nCl o q k r) o i) w)) i (vp_nar .boolean 1))] := hD
                        refine lv_iinc (v := (nI (i + 1))) (lv' := [(4, .int (nI (i + 1))), (0, .ref hM), (1, .int q), (2, .int k), (3, .int r)]) hx hb dX2_claim_134 hl (k := 4) rfl (nI_1 i) (by decide) rfl (fun ls hl => ?_)
                        refine lv_goto (tgt := 82) hx hb dX2_claim_137 (by decide) ?_
                        have ew_0 : (fun w => bI ((oUp (nCl o q k r) o (i + 1)) w)) = (upd (fun w => bI ((oUp (nCl o q k r) o i) w)) i (vp_nar .boolean 1)) := by exact oUp_step (by (first | rfl | (simp only [kCl, nCl, bI, oUp_at, c_1, c_2, c_4, c_5, c_6, c_10, c_11, c_12, c_13, eq_self, ↓reduceIte]; done) | (simp only [kCl, nCl, bI, oUp_at, c_1, c_2, c_4, c_5, c_6, c_10, c_11, c_12, c_13, eq_self, ↓reduceIte]; rfl) | simp [kCl, nCl, bI, oUp_at, c_1, c_2, c_4, c_5, c_6, c_10, c_11, c_12, c_13]))
                        exact ih_i (by omega) trivial _ _ ls (by show va_P D vwCl [cM hM hO hW hY 0 a, cA cZ hO 16384 (fun w => bI ((oUp (nCl o q k r) o (i + 1)) w))] _; rw [ew_0]; exact hP) (by show va_D A [cM hM hO hW hY 0 a, cA cZ hO 16384 (fun w => bI ((oUp (nCl o q k r) o (i + 1)) w))]; rw [ew_0]; exact hD) hS (by show lv_has ls 5 [(0, .ref hM), (1, .int q), (2, .int k), (3, .int r), (4, .int (nI (i + 1)))]; exact lv_sub hl [1, 2, 3, 4, 0] rfl)
              · show va_P D vwCl [cM hM hO hW hY 0 a, cA cZ hO 16384 (fun w => bI ((oUp (nCl o q k r) o 0) w))] _
                have ez_0 : (fun w => bI ((oUp (nCl o q k r) o 0) w)) = (fun w => bI (o w)) := by rw [oUp_0]
                rw [ez_0]
                exact hP
              · show va_D A [cM hM hO hW hY 0 a, cA cZ hO 16384 (fun w => bI ((oUp (nCl o q k r) o 0) w))]
                have ez_0 : (fun w => bI ((oUp (nCl o q k r) o 0) w)) = (fun w => bI (o w)) := by rw [oUp_0]
                rw [ez_0]
                exact hD
              · show lv_has ls 5 [(0, .ref hM), (1, .int q), (2, .int k), (3, .int r), (4, .int (nI 0))]
                have en_0 : (nI 0) = 0 := by exact nI_0
                rw [en_0]
                exact lv_sub hl [1, 2, 3, 4, 0] rfl
            · exact absurd c_8 (by decide)
        · have c_5 : (xIn k 0 3) = false := bI_0 c_5
          refine lv_iconst (v := 3) hx hb dX2_claim_41 (by decide) ?_
          refine lv_goto (tgt := 67) hx hb dX2_claim_42 (by decide) ?_
          refine va_put (D := D) (cl := vwCl) (ci := 2) (v := .int 3) (ty := .int) (C := RX2) (T := TX2) (N := 16) hx hb hts in_X2_claim_X2 tyX2 tyX2_ok nmX2 hown hK hP hD hS 0 rfl rfl 0 (by decide) (hts (.fieldLink RX2 20 "WitchTrialModel" "thrown" "I") (List.mem_of_getElem? (i := 2) rfl)) (fun _ h9 => h9) rfl (by decide +kernel) rfl rfl (Nat.le_of_ble_eq_true rfl) dX2_claim_67 (fun H locs hP hD hS => ?_)
          have hP : va_P D vwCl [cM hM hO hW hY 3 a, cA cZ hO 16384 (fun w => bI (o w))] H := hP
          have hD : va_D A [cM hM hO hW hY 3 a, cA cZ hO 16384 (fun w => bI (o w))] := hD
          refine lv_aload_n hx hb dX2_claim_70 rfl (lv_at hl 0 rfl) ?_
          refine va_get (D := D) (cl := vwCl) (ci := 2) (v := .int 3) (C := RX2) (T := TX2) (N := 16) hx hb hts in_X2_claim_X2 hown hK hP 0 rfl rfl 0 (by decide) (hts (.fieldLink RX2 20 "WitchTrialModel" "thrown" "I") (List.mem_of_getElem? (i := 2) rfl)) (fun _ h9 => h9) rfl dX2_claim_71 ?_
          refine lv_if_le (tgt := 79) hx hb dX2_claim_74 (by decide) (fun c_14 => ?_) (fun c_14 => ?_)
          · exact absurd c_14 (by decide)
          · exact absurd hk (by simp [kCl, nCl, bI, c_1, c_2, c_4, c_5])
      · have c_4 : (xPl a r) = false := bI_0 c_4
        refine lv_iconst (v := 2) hx hb dX2_claim_28 (by decide) ?_
        refine lv_goto (tgt := 67) hx hb dX2_claim_29 (by decide) ?_
        refine va_put (D := D) (cl := vwCl) (ci := 2) (v := .int 2) (ty := .int) (C := RX2) (T := TX2) (N := 16) hx hb hts in_X2_claim_X2 tyX2 tyX2_ok nmX2 hown hK hP hD hS 0 rfl rfl 0 (by decide) (hts (.fieldLink RX2 20 "WitchTrialModel" "thrown" "I") (List.mem_of_getElem? (i := 2) rfl)) (fun _ h9 => h9) rfl (by decide +kernel) rfl rfl (Nat.le_of_ble_eq_true rfl) dX2_claim_67 (fun H locs hP hD hS => ?_)
        have hP : va_P D vwCl [cM hM hO hW hY 2 a, cA cZ hO 16384 (fun w => bI (o w))] H := hP
        have hD : va_D A [cM hM hO hW hY 2 a, cA cZ hO 16384 (fun w => bI (o w))] := hD
        refine lv_aload_n hx hb dX2_claim_70 rfl (lv_at hl 0 rfl) ?_
        refine va_get (D := D) (cl := vwCl) (ci := 2) (v := .int 2) (C := RX2) (T := TX2) (N := 16) hx hb hts in_X2_claim_X2 hown hK hP 0 rfl rfl 0 (by decide) (hts (.fieldLink RX2 20 "WitchTrialModel" "thrown" "I") (List.mem_of_getElem? (i := 2) rfl)) (fun _ h9 => h9) rfl dX2_claim_71 ?_
        refine lv_if_le (tgt := 79) hx hb dX2_claim_74 (by decide) (fun c_15 => ?_) (fun c_15 => ?_)
        · exact absurd c_15 (by decide)
        · exact absurd hk (by simp [kCl, nCl, bI, c_1, c_2, c_4])
  · refine lv_iconst (v := 1) hx hb dX2_claim_8 (by decide) ?_
    refine lv_goto (tgt := 67) hx hb dX2_claim_9 (by decide) ?_
    refine va_put (D := D) (cl := vwCl) (ci := 2) (v := .int 1) (ty := .int) (C := RX2) (T := TX2) (N := 16) hx hb hts in_X2_claim_X2 tyX2 tyX2_ok nmX2 hown hK hP hD hS 0 rfl rfl 0 (by decide) (hts (.fieldLink RX2 20 "WitchTrialModel" "thrown" "I") (List.mem_of_getElem? (i := 2) rfl)) (fun _ h9 => h9) rfl (by decide +kernel) rfl rfl (Nat.le_of_ble_eq_true rfl) dX2_claim_67 (fun H locs hP hD hS => ?_)
    have hP : va_P D vwCl [cM hM hO hW hY 1 a, cA cZ hO 16384 (fun w => bI (o w))] H := hP
    have hD : va_D A [cM hM hO hW hY 1 a, cA cZ hO 16384 (fun w => bI (o w))] := hD
    refine lv_aload_n hx hb dX2_claim_70 rfl (lv_at hl 0 rfl) ?_
    refine va_get (D := D) (cl := vwCl) (ci := 2) (v := .int 1) (C := RX2) (T := TX2) (N := 16) hx hb hts in_X2_claim_X2 hown hK hP 0 rfl rfl 0 (by decide) (hts (.fieldLink RX2 20 "WitchTrialModel" "thrown" "I") (List.mem_of_getElem? (i := 2) rfl)) (fun _ h9 => h9) rfl dX2_claim_71 ?_
    refine lv_if_le (tgt := 79) hx hb dX2_claim_74 (by decide) (fun c_16 => ?_) (fun c_16 => ?_)
    · exact absurd c_16 (by decide)
    · exact absurd hk (by simp [kCl, nCl, bI, c_1])

set_option maxHeartbeats 2000000 in
set_option maxRecDepth 100000 in
theorem f_X2_claim (l : Launch) (D : va_G) (cI cZ cJ : ClassId) (sz : Nat) (hM : Nat) (hO : Nat) (hW : Nat) (hY : Nat) (th : Int32) (a : Nat → Int32) (q : Int32) (k : Int32) (r : Int32) (hk : ¬ kCl a q k r = 0) : Mi l D cI cZ cJ yX2_claim wsX2_claim 3 65 sz [.ref hM, .int q, .int k, .int r] [cM hM hO hW hY th a] [cM hM hO hW hY (kCl a q k r) a] (0) := by
  refine mi_of (by decide) rfl (Nat.le_of_ble_eq_true rfl) (fun p e s m below meth c ls A hx hb hr hml hts hown hlocks hin hP hK hN hD hA hS hl => ?_)
  have hl : lv_has ls 5 [(0, .ref hM), (1, .int q), (2, .int k), (3, .int r)] := hl
  refine lv_aload_n hx hb dX2_claim_0 rfl (lv_at hl 0 rfl) ?_
  refine lv_aload_n hx hb dX2_claim_1 rfl (lv_at hl 0 rfl) ?_
  refine va_get (D := D) (cl := vwCl) (ci := 2) (v := .int (a 0)) (C := RX2) (T := TX2) (N := 16) hx hb hts in_X2_claim_X2 hown hK hP 0 rfl rfl 1 (by decide) (hts (.fieldLink RX2 70 "WitchTrialModel" "phase" "I") (List.mem_of_getElem? (i := 1) rfl)) (fun _ h9 => h9) rfl dX2_claim_2 ?_
  refine lv_if_ne (tgt := 12) hx hb dX2_claim_5 (by decide) (fun c_1 => ?_) (fun c_1 => ?_)
  · refine lv_aload_n hx hb dX2_claim_12 rfl (lv_at hl 0 rfl) ?_
    refine lv_iload_n hx hb dX2_claim_13 rfl (lv_at hl 1 rfl) ?_
    refine rd_V (b := hM) (As := [.int q]) (rest := [.ref hM]) ⟨hx, hb, hml, hown, hts⟩ (c_X2_isPlayer l D cI cZ cJ hM hO hW hY th a q) (cwV 1 hts gX2_claim_X2_isPlayer rfl rfl rfl (by decide +kernel) ⟨Nat.le_of_ble_eq_true rfl, Nat.le_of_ble_eq_true rfl⟩) (hP.sub (ws' := [cM hM hO hW hY th a]) [0] rfl) hK hN (va_recv hK hP (ci := 2) (q0 := 0) rfl rfl) rfl hl.1 rfl (Nat.le_of_ble_eq_true rfl) dX2_claim_14 ⟨Nat.le_of_ble_eq_true rfl, Nat.le_of_ble_eq_true rfl⟩ ?_
    refine lv_if_eq (tgt := 28) hx hb dX2_claim_17 (by decide) (fun c_2 => ?_) (fun c_2 => ?_)
    · have c_2 : (xPl a q) = false := bI_0 c_2
      refine lv_iconst (v := 2) hx hb dX2_claim_28 (by decide) ?_
      refine lv_goto (tgt := 67) hx hb dX2_claim_29 (by decide) ?_
      refine va_put (D := D) (cl := vwCl) (ci := 2) (v := .int 2) (ty := .int) (C := RX2) (T := TX2) (N := 16) hx hb hts in_X2_claim_X2 tyX2 tyX2_ok nmX2 hown hK hP hD hS 0 rfl rfl 0 (by decide) (hts (.fieldLink RX2 20 "WitchTrialModel" "thrown" "I") (List.mem_of_getElem? (i := 2) rfl)) (fun _ h9 => h9) rfl (by decide +kernel) rfl rfl (Nat.le_of_ble_eq_true rfl) dX2_claim_67 (fun H locs hP hD hS => ?_)
      have hP : va_P D vwCl [cM hM hO hW hY 2 a] H := hP
      have hD : va_D A [cM hM hO hW hY 2 a] := hD
      refine lv_aload_n hx hb dX2_claim_70 rfl (lv_at hl 0 rfl) ?_
      refine va_get (D := D) (cl := vwCl) (ci := 2) (v := .int 2) (C := RX2) (T := TX2) (N := 16) hx hb hts in_X2_claim_X2 hown hK hP 0 rfl rfl 0 (by decide) (hts (.fieldLink RX2 20 "WitchTrialModel" "thrown" "I") (List.mem_of_getElem? (i := 2) rfl)) (fun _ h9 => h9) rfl dX2_claim_71 ?_
      refine lv_if_le (tgt := 79) hx hb dX2_claim_74 (by decide) (fun c_3 => ?_) (fun c_3 => ?_)
      · exact absurd c_3 (by decide)
      · refine lv_iconst (v := 0) hx hb dX2_claim_77 (by decide) ?_
        have hP9 : va_P D vwCl [cM hM hO hW hY (kCl a q k r) a] H := by
          have e9_0 : (kCl a q k r) = 2 := by (first | rfl | (simp only [kCl, bI, c_1, c_2, eq_self, ↓reduceIte]; done) | (simp only [kCl, bI, c_1, c_2, eq_self, ↓reduceIte]; rfl) | simp [kCl, bI, c_1, c_2])
          rw [e9_0]
          exact hP
        exact mi_iret hx hb hr hlocks hS (by rfl) hP9 dX2_claim_78
    · have c_2 : (xPl a q) = true := bI_1 c_2
      refine lv_aload_n hx hb dX2_claim_20 rfl (lv_at hl 0 rfl) ?_
      refine lv_iload_n hx hb dX2_claim_21 rfl (lv_at hl 3 rfl) ?_
      refine rd_V (b := hM) (As := [.int r]) (rest := [.ref hM]) ⟨hx, hb, hml, hown, hts⟩ (c_X2_isPlayer l D cI cZ cJ hM hO hW hY th a r) (cwV 1 hts gX2_claim_X2_isPlayer rfl rfl rfl (by decide +kernel) ⟨Nat.le_of_ble_eq_true rfl, Nat.le_of_ble_eq_true rfl⟩) (hP.sub (ws' := [cM hM hO hW hY th a]) [0] rfl) hK hN (va_recv hK hP (ci := 2) (q0 := 0) rfl rfl) rfl hl.1 rfl (Nat.le_of_ble_eq_true rfl) dX2_claim_22 ⟨Nat.le_of_ble_eq_true rfl, Nat.le_of_ble_eq_true rfl⟩ ?_
      refine lv_if_ne (tgt := 32) hx hb dX2_claim_25 (by decide) (fun c_4 => ?_) (fun c_4 => ?_)
      · have c_4 : (xPl a r) = true := bI_1 c_4
        refine lv_iload_n hx hb dX2_claim_32 rfl (lv_at hl 2 rfl) ?_
        refine lv_iconst (v := 0) hx hb dX2_claim_33 (by decide) ?_
        refine lv_iconst (v := 3) hx hb dX2_claim_34 (by decide) ?_
        refine rd_S (As := [.int k, .int 0, .int 3]) (rest := [.ref hM]) ⟨hx, hb, hml, hown, hts⟩ (c_X2_in l D cI cZ cJ k 0 3) (va_cwS 3 hts gX2_claim_X2_in rfl rfl rfl (by decide +kernel) ⟨Nat.le_of_ble_eq_true rfl, Nat.le_of_ble_eq_true rfl⟩) (hP.sub (ws' := []) [] rfl) hK hN rfl hl.1 rfl (Nat.le_of_ble_eq_true rfl) dX2_claim_35 ⟨Nat.le_of_ble_eq_true rfl, Nat.le_of_ble_eq_true rfl⟩ ?_
        refine lv_if_ne (tgt := 45) hx hb dX2_claim_38 (by decide) (fun c_5 => ?_) (fun c_5 => ?_)
        · have c_5 : (xIn k 0 3) = true := bI_1 c_5
          refine lv_aload_n hx hb dX2_claim_45 rfl (lv_at hl 0 rfl) ?_
          refine lv_iload_n hx hb dX2_claim_46 rfl (lv_at hl 1 rfl) ?_
          refine lv_aload_n hx hb dX2_claim_47 rfl (lv_at hl 0 rfl) ?_
          refine rd_V (b := hM) (As := []) (rest := [.int q, .ref hM, .ref hM]) ⟨hx, hb, hml, hown, hts⟩ (c_X2_truth l D cI cZ cJ hM hO hW hY th a) (cwV 0 hts gX2_claim_X2_truth rfl rfl rfl (by decide +kernel) ⟨Nat.le_of_ble_eq_true rfl, Nat.le_of_ble_eq_true rfl⟩) (hP.sub (ws' := [cM hM hO hW hY th a]) [0] rfl) hK hN (va_recv hK hP (ci := 2) (q0 := 0) rfl rfl) rfl hl.1 rfl (Nat.le_of_ble_eq_true rfl) dX2_claim_48 ⟨Nat.le_of_ble_eq_true rfl, Nat.le_of_ble_eq_true rfl⟩ ?_
          refine lv_iload_n hx hb dX2_claim_51 rfl (lv_at hl 2 rfl) ?_
          refine lv_iload_n hx hb dX2_claim_52 rfl (lv_at hl 3 rfl) ?_
          refine rd_S (As := [.int (xTr a), .int k, .int r]) (rest := [.int q, .ref hM, .ref hM]) ⟨hx, hb, hml, hown, hts⟩ (c_X2_isTrue l D cI cZ cJ (xTr a) k r) (va_cwS 3 hts gX2_claim_X2_isTrue rfl rfl rfl (by decide +kernel) ⟨Nat.le_of_ble_eq_true rfl, Nat.le_of_ble_eq_true rfl⟩) (hP.sub (ws' := []) [] rfl) hK hN rfl hl.1 rfl (Nat.le_of_ble_eq_true rfl) dX2_claim_53 ⟨Nat.le_of_ble_eq_true rfl, Nat.le_of_ble_eq_true rfl⟩ ?_
          refine rd_V (b := hM) (As := [.int q, .int (bI (xTrue (xTr a) k r))]) (rest := [.ref hM]) ⟨hx, hb, hml, hown, hts⟩ (c_X2_may l D cI cZ cJ hM hO hW hY th a q (xTrue (xTr a) k r)) (cwV 2 hts gX2_claim_X2_may rfl rfl rfl (by decide +kernel) ⟨Nat.le_of_ble_eq_true rfl, Nat.le_of_ble_eq_true rfl⟩) (hP.sub (ws' := [cM hM hO hW hY th a]) [0] rfl) hK hN (va_recv hK hP (ci := 2) (q0 := 0) rfl rfl) rfl hl.1 rfl (Nat.le_of_ble_eq_true rfl) dX2_claim_56 ⟨Nat.le_of_ble_eq_true rfl, Nat.le_of_ble_eq_true rfl⟩ ?_
          refine lv_if_eq (tgt := 66) hx hb dX2_claim_59 (by decide) (fun c_6 => ?_) (fun c_6 => ?_)
          · have c_6 : (xMay a q (xTrue (xTr a) k r)) = false := bI_0 c_6
            refine lv_iconst (v := 4) hx hb dX2_claim_66 (by decide) ?_
            refine va_put (D := D) (cl := vwCl) (ci := 2) (v := .int 4) (ty := .int) (C := RX2) (T := TX2) (N := 16) hx hb hts in_X2_claim_X2 tyX2 tyX2_ok nmX2 hown hK hP hD hS 0 rfl rfl 0 (by decide) (hts (.fieldLink RX2 20 "WitchTrialModel" "thrown" "I") (List.mem_of_getElem? (i := 2) rfl)) (fun _ h9 => h9) rfl (by decide +kernel) rfl rfl (Nat.le_of_ble_eq_true rfl) dX2_claim_67 (fun H locs hP hD hS => ?_)
            have hP : va_P D vwCl [cM hM hO hW hY 4 a] H := hP
            have hD : va_D A [cM hM hO hW hY 4 a] := hD
            refine lv_aload_n hx hb dX2_claim_70 rfl (lv_at hl 0 rfl) ?_
            refine va_get (D := D) (cl := vwCl) (ci := 2) (v := .int 4) (C := RX2) (T := TX2) (N := 16) hx hb hts in_X2_claim_X2 hown hK hP 0 rfl rfl 0 (by decide) (hts (.fieldLink RX2 20 "WitchTrialModel" "thrown" "I") (List.mem_of_getElem? (i := 2) rfl)) (fun _ h9 => h9) rfl dX2_claim_71 ?_
            refine lv_if_le (tgt := 79) hx hb dX2_claim_74 (by decide) (fun c_7 => ?_) (fun c_7 => ?_)
            · exact absurd c_7 (by decide)
            · refine lv_iconst (v := 0) hx hb dX2_claim_77 (by decide) ?_
              have hP9 : va_P D vwCl [cM hM hO hW hY (kCl a q k r) a] H := by
                have e9_0 : (kCl a q k r) = 4 := by (first | rfl | (simp only [kCl, bI, c_1, c_2, c_4, c_5, c_6, eq_self, ↓reduceIte]; done) | (simp only [kCl, bI, c_1, c_2, c_4, c_5, c_6, eq_self, ↓reduceIte]; rfl) | simp [kCl, bI, c_1, c_2, c_4, c_5, c_6])
                rw [e9_0]
                exact hP
              exact mi_iret hx hb hr hlocks hS (by rfl) hP9 dX2_claim_78
          · have c_6 : (xMay a q (xTrue (xTr a) k r)) = true := bI_1 c_6
            refine lv_iconst (v := 0) hx hb dX2_claim_62 (by decide) ?_
            refine lv_goto (tgt := 67) hx hb dX2_claim_63 (by decide) ?_
            refine va_put (D := D) (cl := vwCl) (ci := 2) (v := .int 0) (ty := .int) (C := RX2) (T := TX2) (N := 16) hx hb hts in_X2_claim_X2 tyX2 tyX2_ok nmX2 hown hK hP hD hS 0 rfl rfl 0 (by decide) (hts (.fieldLink RX2 20 "WitchTrialModel" "thrown" "I") (List.mem_of_getElem? (i := 2) rfl)) (fun _ h9 => h9) rfl (by decide +kernel) rfl rfl (Nat.le_of_ble_eq_true rfl) dX2_claim_67 (fun H locs hP hD hS => ?_)
            have hP : va_P D vwCl [cM hM hO hW hY 0 a] H := hP
            have hD : va_D A [cM hM hO hW hY 0 a] := hD
            refine lv_aload_n hx hb dX2_claim_70 rfl (lv_at hl 0 rfl) ?_
            refine va_get (D := D) (cl := vwCl) (ci := 2) (v := .int 0) (C := RX2) (T := TX2) (N := 16) hx hb hts in_X2_claim_X2 hown hK hP 0 rfl rfl 0 (by decide) (hts (.fieldLink RX2 20 "WitchTrialModel" "thrown" "I") (List.mem_of_getElem? (i := 2) rfl)) (fun _ h9 => h9) rfl dX2_claim_71 ?_
            refine lv_if_le (tgt := 79) hx hb dX2_claim_74 (by decide) (fun c_8 => ?_) (fun c_8 => ?_)
            · exact absurd hk (by simp [kCl, bI, c_1, c_2, c_4, c_5, c_6])
            · exact absurd c_8 (by decide)
        · have c_5 : (xIn k 0 3) = false := bI_0 c_5
          refine lv_iconst (v := 3) hx hb dX2_claim_41 (by decide) ?_
          refine lv_goto (tgt := 67) hx hb dX2_claim_42 (by decide) ?_
          refine va_put (D := D) (cl := vwCl) (ci := 2) (v := .int 3) (ty := .int) (C := RX2) (T := TX2) (N := 16) hx hb hts in_X2_claim_X2 tyX2 tyX2_ok nmX2 hown hK hP hD hS 0 rfl rfl 0 (by decide) (hts (.fieldLink RX2 20 "WitchTrialModel" "thrown" "I") (List.mem_of_getElem? (i := 2) rfl)) (fun _ h9 => h9) rfl (by decide +kernel) rfl rfl (Nat.le_of_ble_eq_true rfl) dX2_claim_67 (fun H locs hP hD hS => ?_)
          have hP : va_P D vwCl [cM hM hO hW hY 3 a] H := hP
          have hD : va_D A [cM hM hO hW hY 3 a] := hD
          refine lv_aload_n hx hb dX2_claim_70 rfl (lv_at hl 0 rfl) ?_
          refine va_get (D := D) (cl := vwCl) (ci := 2) (v := .int 3) (C := RX2) (T := TX2) (N := 16) hx hb hts in_X2_claim_X2 hown hK hP 0 rfl rfl 0 (by decide) (hts (.fieldLink RX2 20 "WitchTrialModel" "thrown" "I") (List.mem_of_getElem? (i := 2) rfl)) (fun _ h9 => h9) rfl dX2_claim_71 ?_
          refine lv_if_le (tgt := 79) hx hb dX2_claim_74 (by decide) (fun c_9 => ?_) (fun c_9 => ?_)
          · exact absurd c_9 (by decide)
          · refine lv_iconst (v := 0) hx hb dX2_claim_77 (by decide) ?_
            have hP9 : va_P D vwCl [cM hM hO hW hY (kCl a q k r) a] H := by
              have e9_0 : (kCl a q k r) = 3 := by (first | rfl | (simp only [kCl, bI, c_1, c_2, c_4, c_5, eq_self, ↓reduceIte]; done) | (simp only [kCl, bI, c_1, c_2, c_4, c_5, eq_self, ↓reduceIte]; rfl) | simp [kCl, bI, c_1, c_2, c_4, c_5])
              rw [e9_0]
              exact hP
            exact mi_iret hx hb hr hlocks hS (by rfl) hP9 dX2_claim_78
      · have c_4 : (xPl a r) = false := bI_0 c_4
        refine lv_iconst (v := 2) hx hb dX2_claim_28 (by decide) ?_
        refine lv_goto (tgt := 67) hx hb dX2_claim_29 (by decide) ?_
        refine va_put (D := D) (cl := vwCl) (ci := 2) (v := .int 2) (ty := .int) (C := RX2) (T := TX2) (N := 16) hx hb hts in_X2_claim_X2 tyX2 tyX2_ok nmX2 hown hK hP hD hS 0 rfl rfl 0 (by decide) (hts (.fieldLink RX2 20 "WitchTrialModel" "thrown" "I") (List.mem_of_getElem? (i := 2) rfl)) (fun _ h9 => h9) rfl (by decide +kernel) rfl rfl (Nat.le_of_ble_eq_true rfl) dX2_claim_67 (fun H locs hP hD hS => ?_)
        have hP : va_P D vwCl [cM hM hO hW hY 2 a] H := hP
        have hD : va_D A [cM hM hO hW hY 2 a] := hD
        refine lv_aload_n hx hb dX2_claim_70 rfl (lv_at hl 0 rfl) ?_
        refine va_get (D := D) (cl := vwCl) (ci := 2) (v := .int 2) (C := RX2) (T := TX2) (N := 16) hx hb hts in_X2_claim_X2 hown hK hP 0 rfl rfl 0 (by decide) (hts (.fieldLink RX2 20 "WitchTrialModel" "thrown" "I") (List.mem_of_getElem? (i := 2) rfl)) (fun _ h9 => h9) rfl dX2_claim_71 ?_
        refine lv_if_le (tgt := 79) hx hb dX2_claim_74 (by decide) (fun c_10 => ?_) (fun c_10 => ?_)
        · exact absurd c_10 (by decide)
        · refine lv_iconst (v := 0) hx hb dX2_claim_77 (by decide) ?_
          have hP9 : va_P D vwCl [cM hM hO hW hY (kCl a q k r) a] H := by
            have e9_0 : (kCl a q k r) = 2 := by (first | rfl | (simp only [kCl, bI, c_1, c_2, c_4, eq_self, ↓reduceIte]; done) | (simp only [kCl, bI, c_1, c_2, c_4, eq_self, ↓reduceIte]; rfl) | simp [kCl, bI, c_1, c_2, c_4])
            rw [e9_0]
            exact hP
          exact mi_iret hx hb hr hlocks hS (by rfl) hP9 dX2_claim_78
  · refine lv_iconst (v := 1) hx hb dX2_claim_8 (by decide) ?_
    refine lv_goto (tgt := 67) hx hb dX2_claim_9 (by decide) ?_
    refine va_put (D := D) (cl := vwCl) (ci := 2) (v := .int 1) (ty := .int) (C := RX2) (T := TX2) (N := 16) hx hb hts in_X2_claim_X2 tyX2 tyX2_ok nmX2 hown hK hP hD hS 0 rfl rfl 0 (by decide) (hts (.fieldLink RX2 20 "WitchTrialModel" "thrown" "I") (List.mem_of_getElem? (i := 2) rfl)) (fun _ h9 => h9) rfl (by decide +kernel) rfl rfl (Nat.le_of_ble_eq_true rfl) dX2_claim_67 (fun H locs hP hD hS => ?_)
    have hP : va_P D vwCl [cM hM hO hW hY 1 a] H := hP
    have hD : va_D A [cM hM hO hW hY 1 a] := hD
    refine lv_aload_n hx hb dX2_claim_70 rfl (lv_at hl 0 rfl) ?_
    refine va_get (D := D) (cl := vwCl) (ci := 2) (v := .int 1) (C := RX2) (T := TX2) (N := 16) hx hb hts in_X2_claim_X2 hown hK hP 0 rfl rfl 0 (by decide) (hts (.fieldLink RX2 20 "WitchTrialModel" "thrown" "I") (List.mem_of_getElem? (i := 2) rfl)) (fun _ h9 => h9) rfl dX2_claim_71 ?_
    refine lv_if_le (tgt := 79) hx hb dX2_claim_74 (by decide) (fun c_11 => ?_) (fun c_11 => ?_)
    · exact absurd c_11 (by decide)
    · refine lv_iconst (v := 0) hx hb dX2_claim_77 (by decide) ?_
      have hP9 : va_P D vwCl [cM hM hO hW hY (kCl a q k r) a] H := by
        have e9_0 : (kCl a q k r) = 1 := by (first | rfl | (simp only [kCl, bI, c_1, eq_self, ↓reduceIte]; done) | (simp only [kCl, bI, c_1, eq_self, ↓reduceIte]; rfl) | (simp only [kCl, bI, eq_true c_1, eq_self, ↓reduceIte]; done) | (simp only [kCl, bI, eq_true c_1, eq_self, ↓reduceIte]; rfl) | (simp [kCl, bI, eq_true c_1]; done) | simp [kCl, bI, c_1])
        rw [e9_0]
        exact hP
      exact mi_iret hx hb hr hlocks hS (by rfl) hP9 dX2_claim_78

theorem in_X2_claimAmong_X2 : ∀ w ∈ wsX20, w ∈ wsX2_claimAmong := by decide +kernel
set_option maxHeartbeats 2000000 in
set_option maxRecDepth 100000 in
theorem c_X2_claimAmong (l : Launch) (D : va_G) (cI cZ cJ : ClassId) (sz : Nat) (hM : Nat) (hO : Nat) (hW : Nat) (hY : Nat) (th : Int32) (a : Nat → Int32) (o : Nat → Bool) (q : Int32) (st : Int32) (hk : kAm a q st = 0) : Mi l D cI cZ cJ yX2_claimAmong wsX2_claimAmong 2 43 sz [.ref hM, .int q, .int st] [cM hM hO hW hY th a, cA cZ hO 16384 (fun w => bI (o w))] [cM hM hO hW hY 0 a, cA cZ hO 16384 (fun w => bI ((oUp (nAm o q st) o 16384) w))] (xCnt (oUp (nAm o q st) o 16384) 16384) := by
  refine mi_of (by decide) rfl (Nat.le_of_ble_eq_true rfl) (fun p e s m below meth c ls A hx hb hr hml hts hown hlocks hin hP hK hN hD hA hS hl => ?_)
  have hl : lv_has ls 4 [(0, .ref hM), (1, .int q), (2, .int st)] := hl
  refine lv_aload_n hx hb dX2_claimAmong_0 rfl (lv_at hl 0 rfl) ?_
  refine lv_aload_n hx hb dX2_claimAmong_1 rfl (lv_at hl 0 rfl) ?_
  refine va_get (D := D) (cl := vwCl) (ci := 2) (v := .int (a 0)) (C := RX2) (T := TX2) (N := 16) hx hb hts in_X2_claimAmong_X2 hown hK hP 0 rfl rfl 1 (by decide) (hts (.fieldLink RX2 70 "WitchTrialModel" "phase" "I") (List.mem_of_getElem? (i := 1) rfl)) (fun _ h9 => h9) rfl dX2_claimAmong_2 ?_
  refine lv_if_ne (tgt := 12) hx hb dX2_claimAmong_5 (by decide) (fun c_1 => ?_) (fun c_1 => ?_)
  · refine lv_aload_n hx hb dX2_claimAmong_12 rfl (lv_at hl 0 rfl) ?_
    refine lv_iload_n hx hb dX2_claimAmong_13 rfl (lv_at hl 1 rfl) ?_
    refine rd_V (b := hM) (As := [.int q]) (rest := [.ref hM]) ⟨hx, hb, hml, hown, hts⟩ (c_X2_isPlayer l D cI cZ cJ hM hO hW hY th a q) (cwV 1 hts gX2_claimAmong_X2_isPlayer rfl rfl rfl (by decide +kernel) ⟨Nat.le_of_ble_eq_true rfl, Nat.le_of_ble_eq_true rfl⟩) (hP.sub (ws' := [cM hM hO hW hY th a]) [0] rfl) hK hN (va_recv hK hP (ci := 2) (q0 := 0) rfl rfl) rfl hl.1 rfl (Nat.le_of_ble_eq_true rfl) dX2_claimAmong_14 ⟨Nat.le_of_ble_eq_true rfl, Nat.le_of_ble_eq_true rfl⟩ ?_
    refine lv_if_ne (tgt := 24) hx hb dX2_claimAmong_17 (by decide) (fun c_2 => ?_) (fun c_2 => ?_)
    · have c_2 : (xPl a q) = true := bI_1 c_2
      refine lv_iload_n hx hb dX2_claimAmong_24 rfl (lv_at hl 2 rfl) ?_
      refine lv_iconst (v := 0) hx hb dX2_claimAmong_25 (by decide) ?_
      refine lv_iconst (v := 1) hx hb dX2_claimAmong_26 (by decide) ?_
      refine lv_aload_n hx hb dX2_claimAmong_27 rfl (lv_at hl 0 rfl) ?_
      refine va_get (D := D) (cl := vwCl) (ci := 2) (v := .int (a 2)) (C := RX2) (T := TX2) (N := 16) hx hb hts in_X2_claimAmong_X2 hown hK hP 0 rfl rfl 2 (by decide) (hts (.fieldLink RX2 24 "WitchTrialModel" "players" "I") (List.mem_of_getElem? (i := 2) rfl)) (fun _ h9 => h9) rfl dX2_claimAmong_28 ?_
      refine lv_ishl hx hb dX2_claimAmong_31 ?_
      refine lv_iconst (v := 1) hx hb dX2_claimAmong_32 (by decide) ?_
      refine lv_isub hx hb dX2_claimAmong_33 ?_
      refine rd_S (As := [.int st, .int 0, .int (((1 : Int32) <<< ((a 2) &&& 31)) - 1)]) (rest := [.ref hM]) ⟨hx, hb, hml, hown, hts⟩ (c_X2_in l D cI cZ cJ st 0 (((1 : Int32) <<< ((a 2) &&& 31)) - 1)) (va_cwS 3 hts gX2_claimAmong_X2_in rfl rfl rfl (by decide +kernel) ⟨Nat.le_of_ble_eq_true rfl, Nat.le_of_ble_eq_true rfl⟩) (hP.sub (ws' := []) [] rfl) hK hN rfl hl.1 rfl (Nat.le_of_ble_eq_true rfl) dX2_claimAmong_34 ⟨Nat.le_of_ble_eq_true rfl, Nat.le_of_ble_eq_true rfl⟩ ?_
      refine lv_if_ne (tgt := 44) hx hb dX2_claimAmong_37 (by decide) (fun c_3 => ?_) (fun c_3 => ?_)
      · have c_3 : (xIn st 0 (((1 : Int32) <<< ((a 2) &&& 31)) - 1)) = true := bI_1 c_3
        refine lv_aload_n hx hb dX2_claimAmong_44 rfl (lv_at hl 0 rfl) ?_
        refine lv_iload_n hx hb dX2_claimAmong_45 rfl (lv_at hl 1 rfl) ?_
        refine lv_aload_n hx hb dX2_claimAmong_46 rfl (lv_at hl 0 rfl) ?_
        refine va_get (D := D) (cl := vwCl) (ci := 2) (v := .int (a 3)) (C := RX2) (T := TX2) (N := 16) hx hb hts in_X2_claimAmong_X2 hown hK hP 0 rfl rfl 3 (by decide) (hts (.fieldLink RX2 43 "WitchTrialModel" "witches" "I") (List.mem_of_getElem? (i := 3) rfl)) (fun _ h9 => h9) rfl dX2_claimAmong_47 ?_
        refine lv_iload_n hx hb dX2_claimAmong_50 rfl (lv_at hl 2 rfl) ?_
        refine lv_iand hx hb dX2_claimAmong_51 ?_
        refine lv_if_eq (tgt := 59) hx hb dX2_claimAmong_52 (by decide) (fun c_4 => ?_) (fun c_4 => ?_)
        · refine lv_iconst (v := 0) hx hb dX2_claimAmong_59 (by decide) ?_
          refine rd_V (b := hM) (As := [.int q, .int 0]) (rest := [.ref hM]) ⟨hx, hb, hml, hown, hts⟩ (c_X2_may l D cI cZ cJ hM hO hW hY th a q false) (cwV 2 hts gX2_claimAmong_X2_may rfl rfl rfl (by decide +kernel) ⟨Nat.le_of_ble_eq_true rfl, Nat.le_of_ble_eq_true rfl⟩) (hP.sub (ws' := [cM hM hO hW hY th a]) [0] rfl) hK hN (va_recv hK hP (ci := 2) (q0 := 0) rfl rfl) rfl hl.1 rfl (Nat.le_of_ble_eq_true rfl) dX2_claimAmong_60 ⟨Nat.le_of_ble_eq_true rfl, Nat.le_of_ble_eq_true rfl⟩ ?_
          refine lv_if_eq (tgt := 70) hx hb dX2_claimAmong_63 (by decide) (fun c_5 => ?_) (fun c_5 => ?_)
          · have c_5 : (xMay a q false) = false := bI_0 c_5
            refine lv_iconst (v := 4) hx hb dX2_claimAmong_70 (by decide) ?_
            refine va_put (D := D) (cl := vwCl) (ci := 2) (v := .int 4) (ty := .int) (C := RX2) (T := TX2) (N := 16) hx hb hts in_X2_claimAmong_X2 tyX2 tyX2_ok nmX2 hown hK hP hD hS 0 rfl rfl 0 (by decide) (hts (.fieldLink RX2 20 "WitchTrialModel" "thrown" "I") (List.mem_of_getElem? (i := 4) rfl)) (fun _ h9 => h9) rfl (by decide +kernel) rfl rfl (Nat.le_of_ble_eq_true rfl) dX2_claimAmong_71 (fun H locs hP hD hS => ?_)
            have hP : va_P D vwCl [cM hM hO hW hY 4 a, cA cZ hO 16384 (fun w => bI (o w))] H := hP
            have hD : va_D A [cM hM hO hW hY 4 a, cA cZ hO 16384 (fun w => bI (o w))] := hD
            refine lv_aload_n hx hb dX2_claimAmong_74 rfl (lv_at hl 0 rfl) ?_
            refine va_get (D := D) (cl := vwCl) (ci := 2) (v := .int 4) (C := RX2) (T := TX2) (N := 16) hx hb hts in_X2_claimAmong_X2 hown hK hP 0 rfl rfl 0 (by decide) (hts (.fieldLink RX2 20 "WitchTrialModel" "thrown" "I") (List.mem_of_getElem? (i := 4) rfl)) (fun _ h9 => h9) rfl dX2_claimAmong_75 ?_
            refine lv_if_le (tgt := 83) hx hb dX2_claimAmong_78 (by decide) (fun c_6 => ?_) (fun c_6 => ?_)
            · exact absurd c_6 (by decide)
            · exact absurd hk (by simp [kAm, nAm, bI, c_1, c_2, c_3, c_4, c_5])
          · have c_5 : (xMay a q false) = true := bI_1 c_5
            refine lv_iconst (v := 0) hx hb dX2_claimAmong_66 (by decide) ?_
            refine lv_goto (tgt := 71) hx hb dX2_claimAmong_67 (by decide) ?_
            refine va_put (D := D) (cl := vwCl) (ci := 2) (v := .int 0) (ty := .int) (C := RX2) (T := TX2) (N := 16) hx hb hts in_X2_claimAmong_X2 tyX2 tyX2_ok nmX2 hown hK hP hD hS 0 rfl rfl 0 (by decide) (hts (.fieldLink RX2 20 "WitchTrialModel" "thrown" "I") (List.mem_of_getElem? (i := 4) rfl)) (fun _ h9 => h9) rfl (by decide +kernel) rfl rfl (Nat.le_of_ble_eq_true rfl) dX2_claimAmong_71 (fun H locs hP hD hS => ?_)
            have hP : va_P D vwCl [cM hM hO hW hY 0 a, cA cZ hO 16384 (fun w => bI (o w))] H := hP
            have hD : va_D A [cM hM hO hW hY 0 a, cA cZ hO 16384 (fun w => bI (o w))] := hD
            refine lv_aload_n hx hb dX2_claimAmong_74 rfl (lv_at hl 0 rfl) ?_
            refine va_get (D := D) (cl := vwCl) (ci := 2) (v := .int 0) (C := RX2) (T := TX2) (N := 16) hx hb hts in_X2_claimAmong_X2 hown hK hP 0 rfl rfl 0 (by decide) (hts (.fieldLink RX2 20 "WitchTrialModel" "thrown" "I") (List.mem_of_getElem? (i := 4) rfl)) (fun _ h9 => h9) rfl dX2_claimAmong_75 ?_
            refine lv_if_le (tgt := 83) hx hb dX2_claimAmong_78 (by decide) (fun c_7 => ?_) (fun c_7 => ?_)
            · refine lv_iconst (v := 0) hx hb dX2_claimAmong_83 (by decide) ?_
              refine lv_istore_n (lv' := [(3, .int 0), (0, .ref hM), (1, .int q), (2, .int st)]) hx hb dX2_claimAmong_84 rfl hl (by decide) rfl (fun ls hl => ?_)
              refine loop_M (D := D) (nL := 4) (h := 85) 16384 (fun i => [(0, .ref hM), (1, .int q), (2, .int st), (3, .int (nI i))]) (fun i => [cM hM hO hW hY 0 a, cA cZ hO 16384 (fun w => bI ((oUp (nAm o q st) o i) w))]) (fun _ => True) (fun i hi hI ih_i H locs ls hP hD hS hl => ?_) 0 (by omega) trivial _ _ ls ?_ ?_ hS ?_
              · have hl : lv_has ls 4 [(0, .ref hM), (1, .int q), (2, .int st), (3, .int (nI i))] := hl
                have hP : va_P D vwCl [cM hM hO hW hY 0 a, cA cZ hO 16384 (fun w => bI ((oUp (nAm o q st) o i) w))] H := hP
                have hD : va_D A [cM hM hO hW hY 0 a, cA cZ hO 16384 (fun w => bI ((oUp (nAm o q st) o i) w))] := hD
                refine lv_iload_n hx hb dX2_claimAmong_85 rfl (lv_at hl 3 rfl) ?_
                refine lv_sipush (v := 16384) hx hb dX2_claimAmong_86 (by decide) ?_
                refine lv_icmp_ge (tgt := 138) hx hb dX2_claimAmong_89 (by decide) (fun c_9 => ?_) (fun c_9 => ?_)
                · have hi9 : 16384 = i := (geN hi (by omega) rfl c_9).symm
                  subst hi9
                  refine lv_aload_n hx hb dX2_claimAmong_138 rfl (lv_at hl 0 rfl) ?_
                  refine rd_V (b := hM) (As := []) (rest := []) ⟨hx, hb, hml, hown, hts⟩ (c_X2_manyOpen l D cI cZ cJ hM hO hW hY 0 a (oUp (nAm o q st) o 16384)) (cwV 0 hts gX2_claimAmong_X2_manyOpen rfl rfl rfl (by decide +kernel) ⟨Nat.le_of_ble_eq_true rfl, Nat.le_of_ble_eq_true rfl⟩) (hP.sub (ws' := [cM hM hO hW hY 0 a, cA cZ hO 16384 (fun w => bI ((oUp (nAm o q st) o 16384) w))]) [0, 1] rfl) hK hN (va_recv hK hP (ci := 2) (q0 := 0) rfl rfl) rfl hl.1 rfl (Nat.le_of_ble_eq_true rfl) dX2_claimAmong_139 ⟨Nat.le_of_ble_eq_true rfl, Nat.le_of_ble_eq_true rfl⟩ ?_
                  have hP9 : va_P D vwCl [cM hM hO hW hY 0 a, cA cZ hO 16384 (fun w => bI ((oUp (nAm o q st) o 16384) w))] H := by
                    exact hP
                  exact mi_iret hx hb hr hlocks hS (by rfl) hP9 dX2_claimAmong_142
                · have hlt : i < 16384 := ltN hi (by omega) rfl c_9
                  refine lv_aload_n hx hb dX2_claimAmong_92 rfl (lv_at hl 0 rfl) ?_
                  refine va_get (D := D) (cl := vwCl) (ci := 2) (v := .ref hO) (C := RX2) (T := TX2) (N := 16) hx hb hts in_X2_claimAmong_X2 hown hK hP 0 rfl rfl 6 (by decide) (hts (.fieldLink RX2 7 "WitchTrialModel" "isOpen" "[Z") (List.mem_of_getElem? (i := 5) rfl)) (fun _ h9 => h9) rfl dX2_claimAmong_93 ?_
                  refine lv_iload_n hx hb dX2_claimAmong_96 rfl (lv_at hl 3 rfl) ?_
                  refine lv_aload_n hx hb dX2_claimAmong_97 rfl (lv_at hl 0 rfl) ?_
                  refine va_get (D := D) (cl := vwCl) (ci := 2) (v := .ref hO) (C := RX2) (T := TX2) (N := 16) hx hb hts in_X2_claimAmong_X2 hown hK hP 0 rfl rfl 6 (by decide) (hts (.fieldLink RX2 7 "WitchTrialModel" "isOpen" "[Z") (List.mem_of_getElem? (i := 5) rfl)) (fun _ h9 => h9) rfl dX2_claimAmong_98 ?_
                  refine lv_iload_n hx hb dX2_claimAmong_101 rfl (lv_at hl 3 rfl) ?_
                  refine q_zald (D := D) (j := i) (v := (bI (o i))) hx hb hK hP 1 1 rfl rfl (by omega) (Nat.le_of_ble_eq_true rfl) (congrArg bI (oUp_at _ _ _)) dX2_claimAmong_102 ?_
                  refine lv_if_eq (tgt := 130) hx hb dX2_claimAmong_103 (by decide) (fun c_10 => ?_) (fun c_10 => ?_)
                  · have c_10 : (o i) = false := bI_0 c_10
                    refine lv_iconst (v := 0) hx hb dX2_claimAmong_130 (by decide) ?_
                    refine q_zast (D := D) (j := i) hx hb hK hP hD hS 1 1 rfl rfl (by omega) (Nat.le_of_ble_eq_true rfl) dX2_claimAmong_131 (fun H locs hP hD hS => ?_)
                    have hP : va_P D vwCl [cM hM hO hW hY 0 a, cA cZ hO 16384 (upd (fun w => bI ((oUp (nAm o q st) o i) w)) i (vp_nar .boolean 0))] H := hP
                    have hD : va_D A [cM hM hO hW hY 0 a, cA cZ hO 16384 (upd (fun w => bI ((oUp (nAm o q st) o i) w)) i (vp_nar .boolean 0))] := hD
                    refine lv_iinc (v := (nI (i + 1))) (lv' := [(3, .int (nI (i + 1))), (0, .ref hM), (1, .int q), (2, .int st)]) hx hb dX2_claimAmong_132 hl (k := 3) rfl (nI_1 i) (by decide) rfl (fun ls hl => ?_)
                    refine lv_goto (tgt := 85) hx hb dX2_claimAmong_135 (by decide) ?_
                    have ew_0 : (fun w => bI ((oUp (nAm o q st) o (i + 1)) w)) = (upd (fun w => bI ((oUp (nAm o q st) o i) w)) i (vp_nar .boolean 0)) := by exact oUp_step (by (first | rfl | (simp only [kAm, nAm, bI, oUp_at, c_1, c_2, c_3, c_4, c_5, c_9, c_10, eq_self, ↓reduceIte]; done) | (simp only [kAm, nAm, bI, oUp_at, c_1, c_2, c_3, c_4, c_5, c_9, c_10, eq_self, ↓reduceIte]; rfl) | (simp only [kAm, nAm, bI, oUp_at, c_1, c_2, c_3, eq_true c_4, c_5, c_9, c_10, eq_self, ↓reduceIte]; done) | (simp only [kAm, nAm, bI, oUp_at, c_1, c_2, c_3, eq_true c_4, c_5, c_9, c_10, eq_self, ↓reduceIte]; rfl) | (simp [kAm, nAm, bI, oUp_at, c_1, c_2, c_3, eq_true c_4, c_5, c_9, c_10]; done) | simp [kAm, nAm, bI, oUp_at, c_1, c_2, c_3, c_4, c_5, c_9, c_10]))
                    exact ih_i (by omega) trivial _ _ ls (by show va_P D vwCl [cM hM hO hW hY 0 a, cA cZ hO 16384 (fun w => bI ((oUp (nAm o q st) o (i + 1)) w))] _; rw [ew_0]; exact hP) (by show va_D A [cM hM hO hW hY 0 a, cA cZ hO 16384 (fun w => bI ((oUp (nAm o q st) o (i + 1)) w))]; rw [ew_0]; exact hD) hS (by show lv_has ls 4 [(0, .ref hM), (1, .int q), (2, .int st), (3, .int (nI (i + 1)))]; exact lv_sub hl [1, 2, 3, 0] rfl)
                  · have c_10 : (o i) = true := bI_1 c_10
                    refine lv_iload_n hx hb dX2_claimAmong_106 rfl (lv_at hl 3 rfl) ?_
                    refine lv_bipush (v := 64) hx hb dX2_claimAmong_107 (by decide) ?_
                    refine lv_idiv hx hb dX2_claimAmong_109 (by decide) ?_
                    refine lv_iload_n hx hb dX2_claimAmong_110 rfl (lv_at hl 1 rfl) ?_
                    refine rd_S (As := [.int ((nI i) / 64), .int q]) (rest := [.int (nI i), .ref hO]) ⟨hx, hb, hml, hown, hts⟩ (c_X2_has l D cI cZ cJ ((nI i) / 64) q) (va_cwS 2 hts gX2_claimAmong_X2_has rfl rfl rfl (by decide +kernel) ⟨Nat.le_of_ble_eq_true rfl, Nat.le_of_ble_eq_true rfl⟩) (hP.sub (ws' := []) [] rfl) hK hN rfl hl.1 rfl (Nat.le_of_ble_eq_true rfl) dX2_claimAmong_111 ⟨Nat.le_of_ble_eq_true rfl, Nat.le_of_ble_eq_true rfl⟩ ?_
                    refine lv_if_ne (tgt := 126) hx hb dX2_claimAmong_114 (by decide) (fun c_11 => ?_) (fun c_11 => ?_)
                    · have c_11 : (xHas ((nI i) / 64) q) = true := bI_1 c_11
                      refine lv_iconst (v := 1) hx hb dX2_claimAmong_126 (by decide) ?_
                      refine lv_goto (tgt := 131) hx hb dX2_claimAmong_127 (by decide) ?_
                      refine q_zast (D := D) (j := i) hx hb hK hP hD hS 1 1 rfl rfl (by omega) (Nat.le_of_ble_eq_true rfl) dX2_claimAmong_131 (fun H locs hP hD hS => ?_)
                      have hP : va_P D vwCl [cM hM hO hW hY 0 a, cA cZ hO 16384 (upd (fun w => bI ((oUp (nAm o q st) o i) w)) i (vp_nar .boolean 1))] H := hP
                      have hD : va_D A [cM hM hO hW hY 0 a, cA cZ hO 16384 (upd (fun w => bI ((oUp (nAm o q st) o i) w)) i (vp_nar .boolean 1))] := hD
                      refine lv_iinc (v := (nI (i + 1))) (lv' := [(3, .int (nI (i + 1))), (0, .ref hM), (1, .int q), (2, .int st)]) hx hb dX2_claimAmong_132 hl (k := 3) rfl (nI_1 i) (by decide) rfl (fun ls hl => ?_)
                      refine lv_goto (tgt := 85) hx hb dX2_claimAmong_135 (by decide) ?_
                      have ew_0 : (fun w => bI ((oUp (nAm o q st) o (i + 1)) w)) = (upd (fun w => bI ((oUp (nAm o q st) o i) w)) i (vp_nar .boolean 1)) := by exact oUp_step (by (first | rfl | (simp only [kAm, nAm, bI, oUp_at, c_1, c_2, c_3, c_4, c_5, c_9, c_10, c_11, eq_self, ↓reduceIte]; done) | (simp only [kAm, nAm, bI, oUp_at, c_1, c_2, c_3, c_4, c_5, c_9, c_10, c_11, eq_self, ↓reduceIte]; rfl) | (simp only [kAm, nAm, bI, oUp_at, c_1, c_2, c_3, eq_true c_4, c_5, c_9, c_10, c_11, eq_self, ↓reduceIte]; done) | (simp only [kAm, nAm, bI, oUp_at, c_1, c_2, c_3, eq_true c_4, c_5, c_9, c_10, c_11, eq_self, ↓reduceIte]; rfl) | (simp [kAm, nAm, bI, oUp_at, c_1, c_2, c_3, eq_true c_4, c_5, c_9, c_10, c_11]; done) | simp [kAm, nAm, bI, oUp_at, c_1, c_2, c_3, c_4, c_5, c_9, c_10, c_11]))
                      exact ih_i (by omega) trivial _ _ ls (by show va_P D vwCl [cM hM hO hW hY 0 a, cA cZ hO 16384 (fun w => bI ((oUp (nAm o q st) o (i + 1)) w))] _; rw [ew_0]; exact hP) (by show va_D A [cM hM hO hW hY 0 a, cA cZ hO 16384 (fun w => bI ((oUp (nAm o q st) o (i + 1)) w))]; rw [ew_0]; exact hD) hS (by show lv_has ls 4 [(0, .ref hM), (1, .int q), (2, .int st), (3, .int (nI (i + 1)))]; exact lv_sub hl [1, 2, 3, 0] rfl)
                    · have c_11 : (xHas ((nI i) / 64) q) = false := bI_0 c_11
                      refine lv_iload_n hx hb dX2_claimAmong_117 rfl (lv_at hl 3 rfl) ?_
                      refine lv_bipush (v := 64) hx hb dX2_claimAmong_118 (by decide) ?_
                      refine lv_idiv hx hb dX2_claimAmong_120 (by decide) ?_
                      refine lv_iload_n hx hb dX2_claimAmong_121 rfl (lv_at hl 2 rfl) ?_
                      refine lv_iand hx hb dX2_claimAmong_122 ?_
                      refine lv_if_eq (tgt := 130) hx hb dX2_claimAmong_123 (by decide) (fun c_12 => ?_) (fun c_12 => ?_)
                      · refine lv_iconst (v := 0) hx hb dX2_claimAmong_130 (by decide) ?_
                        refine q_zast (D := D) (j := i) hx hb hK hP hD hS 1 1 rfl rfl (by omega) (Nat.le_of_ble_eq_true rfl) dX2_claimAmong_131 (fun H locs hP hD hS => ?_)
                        have hP : va_P D vwCl [cM hM hO hW hY 0 a, cA cZ hO 16384 (upd (fun w => bI ((oUp (nAm o q st) o i) w)) i (vp_nar .boolean 0))] H := hP
                        have hD : va_D A [cM hM hO hW hY 0 a, cA cZ hO 16384 (upd (fun w => bI ((oUp (nAm o q st) o i) w)) i (vp_nar .boolean 0))] := hD
                        refine lv_iinc (v := (nI (i + 1))) (lv' := [(3, .int (nI (i + 1))), (0, .ref hM), (1, .int q), (2, .int st)]) hx hb dX2_claimAmong_132 hl (k := 3) rfl (nI_1 i) (by decide) rfl (fun ls hl => ?_)
                        refine lv_goto (tgt := 85) hx hb dX2_claimAmong_135 (by decide) ?_
                        have ew_0 : (fun w => bI ((oUp (nAm o q st) o (i + 1)) w)) = (upd (fun w => bI ((oUp (nAm o q st) o i) w)) i (vp_nar .boolean 0)) := by exact oUp_step (by (first | rfl | (simp only [kAm, nAm, bI, oUp_at, c_1, c_2, c_3, c_4, c_5, c_9, c_10, c_11, c_12, eq_self, ↓reduceIte]; done) | (simp only [kAm, nAm, bI, oUp_at, c_1, c_2, c_3, c_4, c_5, c_9, c_10, c_11, c_12, eq_self, ↓reduceIte]; rfl) | (simp only [kAm, nAm, bI, oUp_at, c_1, c_2, c_3, eq_true c_4, c_5, c_9, c_10, c_11, eq_true c_12, eq_self, ↓reduceIte]; done) | (simp only [kAm, nAm, bI, oUp_at, c_1, c_2, c_3, eq_true c_4, c_5, c_9, c_10, c_11, eq_true c_12, eq_self, ↓reduceIte]; rfl) | (simp [kAm, nAm, bI, oUp_at, c_1, c_2, c_3, eq_true c_4, c_5, c_9, c_10, c_11, eq_true c_12]; done) | simp [kAm, nAm, bI, oUp_at, c_1, c_2, c_3, c_4, c_5, c_9, c_10, c_11, c_12]))
                        exact ih_i (by omega) trivial _ _ ls (by show va_P D vwCl [cM hM hO hW hY 0 a, cA cZ hO 16384 (fun w => bI ((oUp (nAm o q st) o (i + 1)) w))] _; rw [ew_0]; exact hP) (by show va_D A [cM hM hO hW hY 0 a, cA cZ hO 16384 (fun w => bI ((oUp (nAm o q st) o (i + 1)) w))]; rw [ew_0]; exact hD) hS (by show lv_has ls 4 [(0, .ref hM), (1, .int q), (2, .int st), (3, .int (nI (i + 1)))]; exact lv_sub hl [1, 2, 3, 0] rfl)
                      · refine lv_iconst (v := 1) hx hb dX2_claimAmong_126 (by decide) ?_
                        refine lv_goto (tgt := 131) hx hb dX2_claimAmong_127 (by decide) ?_
                        refine q_zast (D := D) (j := i) hx hb hK hP hD hS 1 1 rfl rfl (by omega) (Nat.le_of_ble_eq_true rfl) dX2_claimAmong_131 (fun H locs hP hD hS => ?_)
                        have hP : va_P D vwCl [cM hM hO hW hY 0 a, cA cZ hO 16384 (upd (fun w => bI ((oUp (nAm o q st) o i) w)) i (vp_nar .boolean 1))] H := hP
                        have hD : va_D A [cM hM hO hW hY 0 a, cA cZ hO 16384 (upd (fun w => bI ((oUp (nAm o q st) o i) w)) i (vp_nar .boolean 1))] := hD
                        refine lv_iinc (v := (nI (i + 1))) (lv' := [(3, .int (nI (i + 1))), (0, .ref hM), (1, .int q), (2, .int st)]) hx hb dX2_claimAmong_132 hl (k := 3) rfl (nI_1 i) (by decide) rfl (fun ls hl => ?_)
                        refine lv_goto (tgt := 85) hx hb dX2_claimAmong_135 (by decide) ?_
                        have ew_0 : (fun w => bI ((oUp (nAm o q st) o (i + 1)) w)) = (upd (fun w => bI ((oUp (nAm o q st) o i) w)) i (vp_nar .boolean 1)) := by exact oUp_step (by (first | rfl | (simp only [kAm, nAm, bI, oUp_at, c_1, c_2, c_3, c_4, c_5, c_9, c_10, c_11, c_12, eq_self, ↓reduceIte]; done) | (simp only [kAm, nAm, bI, oUp_at, c_1, c_2, c_3, c_4, c_5, c_9, c_10, c_11, c_12, eq_self, ↓reduceIte]; rfl) | (simp only [kAm, nAm, bI, oUp_at, c_1, c_2, c_3, eq_true c_4, c_5, c_9, c_10, c_11, c_12, eq_self, ↓reduceIte]; done) | (simp only [kAm, nAm, bI, oUp_at, c_1, c_2, c_3, eq_true c_4, c_5, c_9, c_10, c_11, c_12, eq_self, ↓reduceIte]; rfl) | (simp [kAm, nAm, bI, oUp_at, c_1, c_2, c_3, eq_true c_4, c_5, c_9, c_10, c_11, c_12]; done) | simp [kAm, nAm, bI, oUp_at, c_1, c_2, c_3, c_4, c_5, c_9, c_10, c_11, c_12]))
                        exact ih_i (by omega) trivial _ _ ls (by show va_P D vwCl [cM hM hO hW hY 0 a, cA cZ hO 16384 (fun w => bI ((oUp (nAm o q st) o (i + 1)) w))] _; rw [ew_0]; exact hP) (by show va_D A [cM hM hO hW hY 0 a, cA cZ hO 16384 (fun w => bI ((oUp (nAm o q st) o (i + 1)) w))]; rw [ew_0]; exact hD) hS (by show lv_has ls 4 [(0, .ref hM), (1, .int q), (2, .int st), (3, .int (nI (i + 1)))]; exact lv_sub hl [1, 2, 3, 0] rfl)
              · show va_P D vwCl [cM hM hO hW hY 0 a, cA cZ hO 16384 (fun w => bI ((oUp (nAm o q st) o 0) w))] _
                have ez_0 : (fun w => bI ((oUp (nAm o q st) o 0) w)) = (fun w => bI (o w)) := by rw [oUp_0]
                rw [ez_0]
                exact hP
              · show va_D A [cM hM hO hW hY 0 a, cA cZ hO 16384 (fun w => bI ((oUp (nAm o q st) o 0) w))]
                have ez_0 : (fun w => bI ((oUp (nAm o q st) o 0) w)) = (fun w => bI (o w)) := by rw [oUp_0]
                rw [ez_0]
                exact hD
              · show lv_has ls 4 [(0, .ref hM), (1, .int q), (2, .int st), (3, .int (nI 0))]
                have en_0 : (nI 0) = 0 := by exact nI_0
                rw [en_0]
                exact lv_sub hl [1, 2, 3, 0] rfl
            · exact absurd c_7 (by decide)
        · refine lv_iconst (v := 1) hx hb dX2_claimAmong_55 (by decide) ?_
          refine lv_goto (tgt := 60) hx hb dX2_claimAmong_56 (by decide) ?_
          refine rd_V (b := hM) (As := [.int q, .int 1]) (rest := [.ref hM]) ⟨hx, hb, hml, hown, hts⟩ (c_X2_may l D cI cZ cJ hM hO hW hY th a q true) (cwV 2 hts gX2_claimAmong_X2_may rfl rfl rfl (by decide +kernel) ⟨Nat.le_of_ble_eq_true rfl, Nat.le_of_ble_eq_true rfl⟩) (hP.sub (ws' := [cM hM hO hW hY th a]) [0] rfl) hK hN (va_recv hK hP (ci := 2) (q0 := 0) rfl rfl) rfl hl.1 rfl (Nat.le_of_ble_eq_true rfl) dX2_claimAmong_60 ⟨Nat.le_of_ble_eq_true rfl, Nat.le_of_ble_eq_true rfl⟩ ?_
          refine lv_if_eq (tgt := 70) hx hb dX2_claimAmong_63 (by decide) (fun c_13 => ?_) (fun c_13 => ?_)
          · have c_13 : (xMay a q true) = false := bI_0 c_13
            refine lv_iconst (v := 4) hx hb dX2_claimAmong_70 (by decide) ?_
            refine va_put (D := D) (cl := vwCl) (ci := 2) (v := .int 4) (ty := .int) (C := RX2) (T := TX2) (N := 16) hx hb hts in_X2_claimAmong_X2 tyX2 tyX2_ok nmX2 hown hK hP hD hS 0 rfl rfl 0 (by decide) (hts (.fieldLink RX2 20 "WitchTrialModel" "thrown" "I") (List.mem_of_getElem? (i := 4) rfl)) (fun _ h9 => h9) rfl (by decide +kernel) rfl rfl (Nat.le_of_ble_eq_true rfl) dX2_claimAmong_71 (fun H locs hP hD hS => ?_)
            have hP : va_P D vwCl [cM hM hO hW hY 4 a, cA cZ hO 16384 (fun w => bI (o w))] H := hP
            have hD : va_D A [cM hM hO hW hY 4 a, cA cZ hO 16384 (fun w => bI (o w))] := hD
            refine lv_aload_n hx hb dX2_claimAmong_74 rfl (lv_at hl 0 rfl) ?_
            refine va_get (D := D) (cl := vwCl) (ci := 2) (v := .int 4) (C := RX2) (T := TX2) (N := 16) hx hb hts in_X2_claimAmong_X2 hown hK hP 0 rfl rfl 0 (by decide) (hts (.fieldLink RX2 20 "WitchTrialModel" "thrown" "I") (List.mem_of_getElem? (i := 4) rfl)) (fun _ h9 => h9) rfl dX2_claimAmong_75 ?_
            refine lv_if_le (tgt := 83) hx hb dX2_claimAmong_78 (by decide) (fun c_14 => ?_) (fun c_14 => ?_)
            · exact absurd c_14 (by decide)
            · exact absurd hk (by simp [kAm, nAm, bI, c_1, c_2, c_3, c_4, c_13])
          · have c_13 : (xMay a q true) = true := bI_1 c_13
            refine lv_iconst (v := 0) hx hb dX2_claimAmong_66 (by decide) ?_
            refine lv_goto (tgt := 71) hx hb dX2_claimAmong_67 (by decide) ?_
            refine va_put (D := D) (cl := vwCl) (ci := 2) (v := .int 0) (ty := .int) (C := RX2) (T := TX2) (N := 16) hx hb hts in_X2_claimAmong_X2 tyX2 tyX2_ok nmX2 hown hK hP hD hS 0 rfl rfl 0 (by decide) (hts (.fieldLink RX2 20 "WitchTrialModel" "thrown" "I") (List.mem_of_getElem? (i := 4) rfl)) (fun _ h9 => h9) rfl (by decide +kernel) rfl rfl (Nat.le_of_ble_eq_true rfl) dX2_claimAmong_71 (fun H locs hP hD hS => ?_)
            have hP : va_P D vwCl [cM hM hO hW hY 0 a, cA cZ hO 16384 (fun w => bI (o w))] H := hP
            have hD : va_D A [cM hM hO hW hY 0 a, cA cZ hO 16384 (fun w => bI (o w))] := hD
            refine lv_aload_n hx hb dX2_claimAmong_74 rfl (lv_at hl 0 rfl) ?_
            refine va_get (D := D) (cl := vwCl) (ci := 2) (v := .int 0) (C := RX2) (T := TX2) (N := 16) hx hb hts in_X2_claimAmong_X2 hown hK hP 0 rfl rfl 0 (by decide) (hts (.fieldLink RX2 20 "WitchTrialModel" "thrown" "I") (List.mem_of_getElem? (i := 4) rfl)) (fun _ h9 => h9) rfl dX2_claimAmong_75 ?_
            refine lv_if_le (tgt := 83) hx hb dX2_claimAmong_78 (by decide) (fun c_15 => ?_) (fun c_15 => ?_)
            · refine lv_iconst (v := 0) hx hb dX2_claimAmong_83 (by decide) ?_
              refine lv_istore_n (lv' := [(3, .int 0), (0, .ref hM), (1, .int q), (2, .int st)]) hx hb dX2_claimAmong_84 rfl hl (by decide) rfl (fun ls hl => ?_)
              refine loop_M (D := D) (nL := 4) (h := 85) 16384 (fun i => [(0, .ref hM), (1, .int q), (2, .int st), (3, .int (nI i))]) (fun i => [cM hM hO hW hY 0 a, cA cZ hO 16384 (fun w => bI ((oUp (nAm o q st) o i) w))]) (fun _ => True) (fun i hi hI ih_i H locs ls hP hD hS hl => ?_) 0 (by omega) trivial _ _ ls ?_ ?_ hS ?_
              · have hl : lv_has ls 4 [(0, .ref hM), (1, .int q), (2, .int st), (3, .int (nI i))] := hl
                have hP : va_P D vwCl [cM hM hO hW hY 0 a, cA cZ hO 16384 (fun w => bI ((oUp (nAm o q st) o i) w))] H := hP
                have hD : va_D A [cM hM hO hW hY 0 a, cA cZ hO 16384 (fun w => bI ((oUp (nAm o q st) o i) w))] := hD
                refine lv_iload_n hx hb dX2_claimAmong_85 rfl (lv_at hl 3 rfl) ?_
                refine lv_sipush (v := 16384) hx hb dX2_claimAmong_86 (by decide) ?_
                refine lv_icmp_ge (tgt := 138) hx hb dX2_claimAmong_89 (by decide) (fun c_17 => ?_) (fun c_17 => ?_)
                · have hi9 : 16384 = i := (geN hi (by omega) rfl c_17).symm
                  subst hi9
                  refine lv_aload_n hx hb dX2_claimAmong_138 rfl (lv_at hl 0 rfl) ?_
                  refine rd_V (b := hM) (As := []) (rest := []) ⟨hx, hb, hml, hown, hts⟩ (c_X2_manyOpen l D cI cZ cJ hM hO hW hY 0 a (oUp (nAm o q st) o 16384)) (cwV 0 hts gX2_claimAmong_X2_manyOpen rfl rfl rfl (by decide +kernel) ⟨Nat.le_of_ble_eq_true rfl, Nat.le_of_ble_eq_true rfl⟩) (hP.sub (ws' := [cM hM hO hW hY 0 a, cA cZ hO 16384 (fun w => bI ((oUp (nAm o q st) o 16384) w))]) [0, 1] rfl) hK hN (va_recv hK hP (ci := 2) (q0 := 0) rfl rfl) rfl hl.1 rfl (Nat.le_of_ble_eq_true rfl) dX2_claimAmong_139 ⟨Nat.le_of_ble_eq_true rfl, Nat.le_of_ble_eq_true rfl⟩ ?_
                  have hP9 : va_P D vwCl [cM hM hO hW hY 0 a, cA cZ hO 16384 (fun w => bI ((oUp (nAm o q st) o 16384) w))] H := by
                    exact hP
                  exact mi_iret hx hb hr hlocks hS (by rfl) hP9 dX2_claimAmong_142
                · have hlt : i < 16384 := ltN hi (by omega) rfl c_17
                  refine lv_aload_n hx hb dX2_claimAmong_92 rfl (lv_at hl 0 rfl) ?_
                  refine va_get (D := D) (cl := vwCl) (ci := 2) (v := .ref hO) (C := RX2) (T := TX2) (N := 16) hx hb hts in_X2_claimAmong_X2 hown hK hP 0 rfl rfl 6 (by decide) (hts (.fieldLink RX2 7 "WitchTrialModel" "isOpen" "[Z") (List.mem_of_getElem? (i := 5) rfl)) (fun _ h9 => h9) rfl dX2_claimAmong_93 ?_
                  refine lv_iload_n hx hb dX2_claimAmong_96 rfl (lv_at hl 3 rfl) ?_
                  refine lv_aload_n hx hb dX2_claimAmong_97 rfl (lv_at hl 0 rfl) ?_
                  refine va_get (D := D) (cl := vwCl) (ci := 2) (v := .ref hO) (C := RX2) (T := TX2) (N := 16) hx hb hts in_X2_claimAmong_X2 hown hK hP 0 rfl rfl 6 (by decide) (hts (.fieldLink RX2 7 "WitchTrialModel" "isOpen" "[Z") (List.mem_of_getElem? (i := 5) rfl)) (fun _ h9 => h9) rfl dX2_claimAmong_98 ?_
                  refine lv_iload_n hx hb dX2_claimAmong_101 rfl (lv_at hl 3 rfl) ?_
                  refine q_zald (D := D) (j := i) (v := (bI (o i))) hx hb hK hP 1 1 rfl rfl (by omega) (Nat.le_of_ble_eq_true rfl) (congrArg bI (oUp_at _ _ _)) dX2_claimAmong_102 ?_
                  refine lv_if_eq (tgt := 130) hx hb dX2_claimAmong_103 (by decide) (fun c_18 => ?_) (fun c_18 => ?_)
                  · have c_18 : (o i) = false := bI_0 c_18
                    refine lv_iconst (v := 0) hx hb dX2_claimAmong_130 (by decide) ?_
                    refine q_zast (D := D) (j := i) hx hb hK hP hD hS 1 1 rfl rfl (by omega) (Nat.le_of_ble_eq_true rfl) dX2_claimAmong_131 (fun H locs hP hD hS => ?_)
                    have hP : va_P D vwCl [cM hM hO hW hY 0 a, cA cZ hO 16384 (upd (fun w => bI ((oUp (nAm o q st) o i) w)) i (vp_nar .boolean 0))] H := hP
                    have hD : va_D A [cM hM hO hW hY 0 a, cA cZ hO 16384 (upd (fun w => bI ((oUp (nAm o q st) o i) w)) i (vp_nar .boolean 0))] := hD
                    refine lv_iinc (v := (nI (i + 1))) (lv' := [(3, .int (nI (i + 1))), (0, .ref hM), (1, .int q), (2, .int st)]) hx hb dX2_claimAmong_132 hl (k := 3) rfl (nI_1 i) (by decide) rfl (fun ls hl => ?_)
                    refine lv_goto (tgt := 85) hx hb dX2_claimAmong_135 (by decide) ?_
                    have ew_0 : (fun w => bI ((oUp (nAm o q st) o (i + 1)) w)) = (upd (fun w => bI ((oUp (nAm o q st) o i) w)) i (vp_nar .boolean 0)) := by exact oUp_step (by (first | rfl | (simp only [kAm, nAm, bI, oUp_at, c_1, c_2, c_3, c_4, c_13, c_17, c_18, eq_self, ↓reduceIte]; done) | (simp only [kAm, nAm, bI, oUp_at, c_1, c_2, c_3, c_4, c_13, c_17, c_18, eq_self, ↓reduceIte]; rfl) | simp [kAm, nAm, bI, oUp_at, c_1, c_2, c_3, c_4, c_13, c_17, c_18]))
                    exact ih_i (by omega) trivial _ _ ls (by show va_P D vwCl [cM hM hO hW hY 0 a, cA cZ hO 16384 (fun w => bI ((oUp (nAm o q st) o (i + 1)) w))] _; rw [ew_0]; exact hP) (by show va_D A [cM hM hO hW hY 0 a, cA cZ hO 16384 (fun w => bI ((oUp (nAm o q st) o (i + 1)) w))]; rw [ew_0]; exact hD) hS (by show lv_has ls 4 [(0, .ref hM), (1, .int q), (2, .int st), (3, .int (nI (i + 1)))]; exact lv_sub hl [1, 2, 3, 0] rfl)
                  · have c_18 : (o i) = true := bI_1 c_18
                    refine lv_iload_n hx hb dX2_claimAmong_106 rfl (lv_at hl 3 rfl) ?_
                    refine lv_bipush (v := 64) hx hb dX2_claimAmong_107 (by decide) ?_
                    refine lv_idiv hx hb dX2_claimAmong_109 (by decide) ?_
                    refine lv_iload_n hx hb dX2_claimAmong_110 rfl (lv_at hl 1 rfl) ?_
                    refine rd_S (As := [.int ((nI i) / 64), .int q]) (rest := [.int (nI i), .ref hO]) ⟨hx, hb, hml, hown, hts⟩ (c_X2_has l D cI cZ cJ ((nI i) / 64) q) (va_cwS 2 hts gX2_claimAmong_X2_has rfl rfl rfl (by decide +kernel) ⟨Nat.le_of_ble_eq_true rfl, Nat.le_of_ble_eq_true rfl⟩) (hP.sub (ws' := []) [] rfl) hK hN rfl hl.1 rfl (Nat.le_of_ble_eq_true rfl) dX2_claimAmong_111 ⟨Nat.le_of_ble_eq_true rfl, Nat.le_of_ble_eq_true rfl⟩ ?_
                    refine lv_if_ne (tgt := 126) hx hb dX2_claimAmong_114 (by decide) (fun c_19 => ?_) (fun c_19 => ?_)
                    · have c_19 : (xHas ((nI i) / 64) q) = true := bI_1 c_19
                      refine lv_iconst (v := 1) hx hb dX2_claimAmong_126 (by decide) ?_
                      refine lv_goto (tgt := 131) hx hb dX2_claimAmong_127 (by decide) ?_
                      refine q_zast (D := D) (j := i) hx hb hK hP hD hS 1 1 rfl rfl (by omega) (Nat.le_of_ble_eq_true rfl) dX2_claimAmong_131 (fun H locs hP hD hS => ?_)
                      have hP : va_P D vwCl [cM hM hO hW hY 0 a, cA cZ hO 16384 (upd (fun w => bI ((oUp (nAm o q st) o i) w)) i (vp_nar .boolean 1))] H := hP
                      have hD : va_D A [cM hM hO hW hY 0 a, cA cZ hO 16384 (upd (fun w => bI ((oUp (nAm o q st) o i) w)) i (vp_nar .boolean 1))] := hD
                      refine lv_iinc (v := (nI (i + 1))) (lv' := [(3, .int (nI (i + 1))), (0, .ref hM), (1, .int q), (2, .int st)]) hx hb dX2_claimAmong_132 hl (k := 3) rfl (nI_1 i) (by decide) rfl (fun ls hl => ?_)
                      refine lv_goto (tgt := 85) hx hb dX2_claimAmong_135 (by decide) ?_
                      have ew_0 : (fun w => bI ((oUp (nAm o q st) o (i + 1)) w)) = (upd (fun w => bI ((oUp (nAm o q st) o i) w)) i (vp_nar .boolean 1)) := by exact oUp_step (by (first | rfl | (simp only [kAm, nAm, bI, oUp_at, c_1, c_2, c_3, c_4, c_13, c_17, c_18, c_19, eq_self, ↓reduceIte]; done) | (simp only [kAm, nAm, bI, oUp_at, c_1, c_2, c_3, c_4, c_13, c_17, c_18, c_19, eq_self, ↓reduceIte]; rfl) | simp [kAm, nAm, bI, oUp_at, c_1, c_2, c_3, c_4, c_13, c_17, c_18, c_19]))
                      exact ih_i (by omega) trivial _ _ ls (by show va_P D vwCl [cM hM hO hW hY 0 a, cA cZ hO 16384 (fun w => bI ((oUp (nAm o q st) o (i + 1)) w))] _; rw [ew_0]; exact hP) (by show va_D A [cM hM hO hW hY 0 a, cA cZ hO 16384 (fun w => bI ((oUp (nAm o q st) o (i + 1)) w))]; rw [ew_0]; exact hD) hS (by show lv_has ls 4 [(0, .ref hM), (1, .int q), (2, .int st), (3, .int (nI (i + 1)))]; exact lv_sub hl [1, 2, 3, 0] rfl)
                    · have c_19 : (xHas ((nI i) / 64) q) = false := bI_0 c_19
                      refine lv_iload_n hx hb dX2_claimAmong_117 rfl (lv_at hl 3 rfl) ?_
                      refine lv_bipush (v := 64) hx hb dX2_claimAmong_118 (by decide) ?_
                      refine lv_idiv hx hb dX2_claimAmong_120 (by decide) ?_
                      refine lv_iload_n hx hb dX2_claimAmong_121 rfl (lv_at hl 2 rfl) ?_
                      refine lv_iand hx hb dX2_claimAmong_122 ?_
                      refine lv_if_eq (tgt := 130) hx hb dX2_claimAmong_123 (by decide) (fun c_20 => ?_) (fun c_20 => ?_)
                      · refine lv_iconst (v := 0) hx hb dX2_claimAmong_130 (by decide) ?_
                        refine q_zast (D := D) (j := i) hx hb hK hP hD hS 1 1 rfl rfl (by omega) (Nat.le_of_ble_eq_true rfl) dX2_claimAmong_131 (fun H locs hP hD hS => ?_)
                        have hP : va_P D vwCl [cM hM hO hW hY 0 a, cA cZ hO 16384 (upd (fun w => bI ((oUp (nAm o q st) o i) w)) i (vp_nar .boolean 0))] H := hP
                        have hD : va_D A [cM hM hO hW hY 0 a, cA cZ hO 16384 (upd (fun w => bI ((oUp (nAm o q st) o i) w)) i (vp_nar .boolean 0))] := hD
                        refine lv_iinc (v := (nI (i + 1))) (lv' := [(3, .int (nI (i + 1))), (0, .ref hM), (1, .int q), (2, .int st)]) hx hb dX2_claimAmong_132 hl (k := 3) rfl (nI_1 i) (by decide) rfl (fun ls hl => ?_)
                        refine lv_goto (tgt := 85) hx hb dX2_claimAmong_135 (by decide) ?_
                        have ew_0 : (fun w => bI ((oUp (nAm o q st) o (i + 1)) w)) = (upd (fun w => bI ((oUp (nAm o q st) o i) w)) i (vp_nar .boolean 0)) := by exact oUp_step (by (first | rfl | (simp only [kAm, nAm, bI, oUp_at, c_1, c_2, c_3, c_4, c_13, c_17, c_18, c_19, c_20, eq_self, ↓reduceIte]; done) | (simp only [kAm, nAm, bI, oUp_at, c_1, c_2, c_3, c_4, c_13, c_17, c_18, c_19, c_20, eq_self, ↓reduceIte]; rfl) | (simp only [kAm, nAm, bI, oUp_at, c_1, c_2, c_3, c_4, c_13, c_17, c_18, c_19, eq_true c_20, eq_self, ↓reduceIte]; done) | (simp only [kAm, nAm, bI, oUp_at, c_1, c_2, c_3, c_4, c_13, c_17, c_18, c_19, eq_true c_20, eq_self, ↓reduceIte]; rfl) | (simp [kAm, nAm, bI, oUp_at, c_1, c_2, c_3, c_4, c_13, c_17, c_18, c_19, eq_true c_20]; done) | simp [kAm, nAm, bI, oUp_at, c_1, c_2, c_3, c_4, c_13, c_17, c_18, c_19, c_20]))
                        exact ih_i (by omega) trivial _ _ ls (by show va_P D vwCl [cM hM hO hW hY 0 a, cA cZ hO 16384 (fun w => bI ((oUp (nAm o q st) o (i + 1)) w))] _; rw [ew_0]; exact hP) (by show va_D A [cM hM hO hW hY 0 a, cA cZ hO 16384 (fun w => bI ((oUp (nAm o q st) o (i + 1)) w))]; rw [ew_0]; exact hD) hS (by show lv_has ls 4 [(0, .ref hM), (1, .int q), (2, .int st), (3, .int (nI (i + 1)))]; exact lv_sub hl [1, 2, 3, 0] rfl)
                      · refine lv_iconst (v := 1) hx hb dX2_claimAmong_126 (by decide) ?_
                        refine lv_goto (tgt := 131) hx hb dX2_claimAmong_127 (by decide) ?_
                        refine q_zast (D := D) (j := i) hx hb hK hP hD hS 1 1 rfl rfl (by omega) (Nat.le_of_ble_eq_true rfl) dX2_claimAmong_131 (fun H locs hP hD hS => ?_)
                        have hP : va_P D vwCl [cM hM hO hW hY 0 a, cA cZ hO 16384 (upd (fun w => bI ((oUp (nAm o q st) o i) w)) i (vp_nar .boolean 1))] H := hP
                        have hD : va_D A [cM hM hO hW hY 0 a, cA cZ hO 16384 (upd (fun w => bI ((oUp (nAm o q st) o i) w)) i (vp_nar .boolean 1))] := hD
                        refine lv_iinc (v := (nI (i + 1))) (lv' := [(3, .int (nI (i + 1))), (0, .ref hM), (1, .int q), (2, .int st)]) hx hb dX2_claimAmong_132 hl (k := 3) rfl (nI_1 i) (by decide) rfl (fun ls hl => ?_)
                        refine lv_goto (tgt := 85) hx hb dX2_claimAmong_135 (by decide) ?_
                        have ew_0 : (fun w => bI ((oUp (nAm o q st) o (i + 1)) w)) = (upd (fun w => bI ((oUp (nAm o q st) o i) w)) i (vp_nar .boolean 1)) := by exact oUp_step (by (first | rfl | (simp only [kAm, nAm, bI, oUp_at, c_1, c_2, c_3, c_4, c_13, c_17, c_18, c_19, c_20, eq_self, ↓reduceIte]; done) | (simp only [kAm, nAm, bI, oUp_at, c_1, c_2, c_3, c_4, c_13, c_17, c_18, c_19, c_20, eq_self, ↓reduceIte]; rfl) | simp [kAm, nAm, bI, oUp_at, c_1, c_2, c_3, c_4, c_13, c_17, c_18, c_19, c_20]))
                        exact ih_i (by omega) trivial _ _ ls (by show va_P D vwCl [cM hM hO hW hY 0 a, cA cZ hO 16384 (fun w => bI ((oUp (nAm o q st) o (i + 1)) w))] _; rw [ew_0]; exact hP) (by show va_D A [cM hM hO hW hY 0 a, cA cZ hO 16384 (fun w => bI ((oUp (nAm o q st) o (i + 1)) w))]; rw [ew_0]; exact hD) hS (by show lv_has ls 4 [(0, .ref hM), (1, .int q), (2, .int st), (3, .int (nI (i + 1)))]; exact lv_sub hl [1, 2, 3, 0] rfl)
              · show va_P D vwCl [cM hM hO hW hY 0 a, cA cZ hO 16384 (fun w => bI ((oUp (nAm o q st) o 0) w))] _
                have ez_0 : (fun w => bI ((oUp (nAm o q st) o 0) w)) = (fun w => bI (o w)) := by rw [oUp_0]
                rw [ez_0]
                exact hP
              · show va_D A [cM hM hO hW hY 0 a, cA cZ hO 16384 (fun w => bI ((oUp (nAm o q st) o 0) w))]
                have ez_0 : (fun w => bI ((oUp (nAm o q st) o 0) w)) = (fun w => bI (o w)) := by rw [oUp_0]
                rw [ez_0]
                exact hD
              · show lv_has ls 4 [(0, .ref hM), (1, .int q), (2, .int st), (3, .int (nI 0))]
                have en_0 : (nI 0) = 0 := by exact nI_0
                rw [en_0]
                exact lv_sub hl [1, 2, 3, 0] rfl
            · exact absurd c_15 (by decide)
      · have c_3 : (xIn st 0 (((1 : Int32) <<< ((a 2) &&& 31)) - 1)) = false := bI_0 c_3
        refine lv_iconst (v := 3) hx hb dX2_claimAmong_40 (by decide) ?_
        refine lv_goto (tgt := 71) hx hb dX2_claimAmong_41 (by decide) ?_
        refine va_put (D := D) (cl := vwCl) (ci := 2) (v := .int 3) (ty := .int) (C := RX2) (T := TX2) (N := 16) hx hb hts in_X2_claimAmong_X2 tyX2 tyX2_ok nmX2 hown hK hP hD hS 0 rfl rfl 0 (by decide) (hts (.fieldLink RX2 20 "WitchTrialModel" "thrown" "I") (List.mem_of_getElem? (i := 4) rfl)) (fun _ h9 => h9) rfl (by decide +kernel) rfl rfl (Nat.le_of_ble_eq_true rfl) dX2_claimAmong_71 (fun H locs hP hD hS => ?_)
        have hP : va_P D vwCl [cM hM hO hW hY 3 a, cA cZ hO 16384 (fun w => bI (o w))] H := hP
        have hD : va_D A [cM hM hO hW hY 3 a, cA cZ hO 16384 (fun w => bI (o w))] := hD
        refine lv_aload_n hx hb dX2_claimAmong_74 rfl (lv_at hl 0 rfl) ?_
        refine va_get (D := D) (cl := vwCl) (ci := 2) (v := .int 3) (C := RX2) (T := TX2) (N := 16) hx hb hts in_X2_claimAmong_X2 hown hK hP 0 rfl rfl 0 (by decide) (hts (.fieldLink RX2 20 "WitchTrialModel" "thrown" "I") (List.mem_of_getElem? (i := 4) rfl)) (fun _ h9 => h9) rfl dX2_claimAmong_75 ?_
        refine lv_if_le (tgt := 83) hx hb dX2_claimAmong_78 (by decide) (fun c_21 => ?_) (fun c_21 => ?_)
        · exact absurd c_21 (by decide)
        · exact absurd hk (by simp [kAm, nAm, bI, c_1, c_2, c_3])
    · have c_2 : (xPl a q) = false := bI_0 c_2
      refine lv_iconst (v := 2) hx hb dX2_claimAmong_20 (by decide) ?_
      refine lv_goto (tgt := 71) hx hb dX2_claimAmong_21 (by decide) ?_
      refine va_put (D := D) (cl := vwCl) (ci := 2) (v := .int 2) (ty := .int) (C := RX2) (T := TX2) (N := 16) hx hb hts in_X2_claimAmong_X2 tyX2 tyX2_ok nmX2 hown hK hP hD hS 0 rfl rfl 0 (by decide) (hts (.fieldLink RX2 20 "WitchTrialModel" "thrown" "I") (List.mem_of_getElem? (i := 4) rfl)) (fun _ h9 => h9) rfl (by decide +kernel) rfl rfl (Nat.le_of_ble_eq_true rfl) dX2_claimAmong_71 (fun H locs hP hD hS => ?_)
      have hP : va_P D vwCl [cM hM hO hW hY 2 a, cA cZ hO 16384 (fun w => bI (o w))] H := hP
      have hD : va_D A [cM hM hO hW hY 2 a, cA cZ hO 16384 (fun w => bI (o w))] := hD
      refine lv_aload_n hx hb dX2_claimAmong_74 rfl (lv_at hl 0 rfl) ?_
      refine va_get (D := D) (cl := vwCl) (ci := 2) (v := .int 2) (C := RX2) (T := TX2) (N := 16) hx hb hts in_X2_claimAmong_X2 hown hK hP 0 rfl rfl 0 (by decide) (hts (.fieldLink RX2 20 "WitchTrialModel" "thrown" "I") (List.mem_of_getElem? (i := 4) rfl)) (fun _ h9 => h9) rfl dX2_claimAmong_75 ?_
      refine lv_if_le (tgt := 83) hx hb dX2_claimAmong_78 (by decide) (fun c_22 => ?_) (fun c_22 => ?_)
      · exact absurd c_22 (by decide)
      · exact absurd hk (by simp [kAm, nAm, bI, c_1, c_2])
  · refine lv_iconst (v := 1) hx hb dX2_claimAmong_8 (by decide) ?_
    refine lv_goto (tgt := 71) hx hb dX2_claimAmong_9 (by decide) ?_
    refine va_put (D := D) (cl := vwCl) (ci := 2) (v := .int 1) (ty := .int) (C := RX2) (T := TX2) (N := 16) hx hb hts in_X2_claimAmong_X2 tyX2 tyX2_ok nmX2 hown hK hP hD hS 0 rfl rfl 0 (by decide) (hts (.fieldLink RX2 20 "WitchTrialModel" "thrown" "I") (List.mem_of_getElem? (i := 4) rfl)) (fun _ h9 => h9) rfl (by decide +kernel) rfl rfl (Nat.le_of_ble_eq_true rfl) dX2_claimAmong_71 (fun H locs hP hD hS => ?_)
    have hP : va_P D vwCl [cM hM hO hW hY 1 a, cA cZ hO 16384 (fun w => bI (o w))] H := hP
    have hD : va_D A [cM hM hO hW hY 1 a, cA cZ hO 16384 (fun w => bI (o w))] := hD
    refine lv_aload_n hx hb dX2_claimAmong_74 rfl (lv_at hl 0 rfl) ?_
    refine va_get (D := D) (cl := vwCl) (ci := 2) (v := .int 1) (C := RX2) (T := TX2) (N := 16) hx hb hts in_X2_claimAmong_X2 hown hK hP 0 rfl rfl 0 (by decide) (hts (.fieldLink RX2 20 "WitchTrialModel" "thrown" "I") (List.mem_of_getElem? (i := 4) rfl)) (fun _ h9 => h9) rfl dX2_claimAmong_75 ?_
    refine lv_if_le (tgt := 83) hx hb dX2_claimAmong_78 (by decide) (fun c_23 => ?_) (fun c_23 => ?_)
    · exact absurd c_23 (by decide)
    · exact absurd hk (by simp [kAm, nAm, bI, c_1])

set_option maxHeartbeats 2000000 in
set_option maxRecDepth 100000 in
theorem f_X2_claimAmong (l : Launch) (D : va_G) (cI cZ cJ : ClassId) (sz : Nat) (hM : Nat) (hO : Nat) (hW : Nat) (hY : Nat) (th : Int32) (a : Nat → Int32) (q : Int32) (st : Int32) (hk : ¬ kAm a q st = 0) : Mi l D cI cZ cJ yX2_claimAmong wsX2_claimAmong 2 43 sz [.ref hM, .int q, .int st] [cM hM hO hW hY th a] [cM hM hO hW hY (kAm a q st) a] (0) := by
  refine mi_of (by decide) rfl (Nat.le_of_ble_eq_true rfl) (fun p e s m below meth c ls A hx hb hr hml hts hown hlocks hin hP hK hN hD hA hS hl => ?_)
  have hl : lv_has ls 4 [(0, .ref hM), (1, .int q), (2, .int st)] := hl
  refine lv_aload_n hx hb dX2_claimAmong_0 rfl (lv_at hl 0 rfl) ?_
  refine lv_aload_n hx hb dX2_claimAmong_1 rfl (lv_at hl 0 rfl) ?_
  refine va_get (D := D) (cl := vwCl) (ci := 2) (v := .int (a 0)) (C := RX2) (T := TX2) (N := 16) hx hb hts in_X2_claimAmong_X2 hown hK hP 0 rfl rfl 1 (by decide) (hts (.fieldLink RX2 70 "WitchTrialModel" "phase" "I") (List.mem_of_getElem? (i := 1) rfl)) (fun _ h9 => h9) rfl dX2_claimAmong_2 ?_
  refine lv_if_ne (tgt := 12) hx hb dX2_claimAmong_5 (by decide) (fun c_1 => ?_) (fun c_1 => ?_)
  · refine lv_aload_n hx hb dX2_claimAmong_12 rfl (lv_at hl 0 rfl) ?_
    refine lv_iload_n hx hb dX2_claimAmong_13 rfl (lv_at hl 1 rfl) ?_
    refine rd_V (b := hM) (As := [.int q]) (rest := [.ref hM]) ⟨hx, hb, hml, hown, hts⟩ (c_X2_isPlayer l D cI cZ cJ hM hO hW hY th a q) (cwV 1 hts gX2_claimAmong_X2_isPlayer rfl rfl rfl (by decide +kernel) ⟨Nat.le_of_ble_eq_true rfl, Nat.le_of_ble_eq_true rfl⟩) (hP.sub (ws' := [cM hM hO hW hY th a]) [0] rfl) hK hN (va_recv hK hP (ci := 2) (q0 := 0) rfl rfl) rfl hl.1 rfl (Nat.le_of_ble_eq_true rfl) dX2_claimAmong_14 ⟨Nat.le_of_ble_eq_true rfl, Nat.le_of_ble_eq_true rfl⟩ ?_
    refine lv_if_ne (tgt := 24) hx hb dX2_claimAmong_17 (by decide) (fun c_2 => ?_) (fun c_2 => ?_)
    · have c_2 : (xPl a q) = true := bI_1 c_2
      refine lv_iload_n hx hb dX2_claimAmong_24 rfl (lv_at hl 2 rfl) ?_
      refine lv_iconst (v := 0) hx hb dX2_claimAmong_25 (by decide) ?_
      refine lv_iconst (v := 1) hx hb dX2_claimAmong_26 (by decide) ?_
      refine lv_aload_n hx hb dX2_claimAmong_27 rfl (lv_at hl 0 rfl) ?_
      refine va_get (D := D) (cl := vwCl) (ci := 2) (v := .int (a 2)) (C := RX2) (T := TX2) (N := 16) hx hb hts in_X2_claimAmong_X2 hown hK hP 0 rfl rfl 2 (by decide) (hts (.fieldLink RX2 24 "WitchTrialModel" "players" "I") (List.mem_of_getElem? (i := 2) rfl)) (fun _ h9 => h9) rfl dX2_claimAmong_28 ?_
      refine lv_ishl hx hb dX2_claimAmong_31 ?_
      refine lv_iconst (v := 1) hx hb dX2_claimAmong_32 (by decide) ?_
      refine lv_isub hx hb dX2_claimAmong_33 ?_
      refine rd_S (As := [.int st, .int 0, .int (((1 : Int32) <<< ((a 2) &&& 31)) - 1)]) (rest := [.ref hM]) ⟨hx, hb, hml, hown, hts⟩ (c_X2_in l D cI cZ cJ st 0 (((1 : Int32) <<< ((a 2) &&& 31)) - 1)) (va_cwS 3 hts gX2_claimAmong_X2_in rfl rfl rfl (by decide +kernel) ⟨Nat.le_of_ble_eq_true rfl, Nat.le_of_ble_eq_true rfl⟩) (hP.sub (ws' := []) [] rfl) hK hN rfl hl.1 rfl (Nat.le_of_ble_eq_true rfl) dX2_claimAmong_34 ⟨Nat.le_of_ble_eq_true rfl, Nat.le_of_ble_eq_true rfl⟩ ?_
      refine lv_if_ne (tgt := 44) hx hb dX2_claimAmong_37 (by decide) (fun c_3 => ?_) (fun c_3 => ?_)
      · have c_3 : (xIn st 0 (((1 : Int32) <<< ((a 2) &&& 31)) - 1)) = true := bI_1 c_3
        refine lv_aload_n hx hb dX2_claimAmong_44 rfl (lv_at hl 0 rfl) ?_
        refine lv_iload_n hx hb dX2_claimAmong_45 rfl (lv_at hl 1 rfl) ?_
        refine lv_aload_n hx hb dX2_claimAmong_46 rfl (lv_at hl 0 rfl) ?_
        refine va_get (D := D) (cl := vwCl) (ci := 2) (v := .int (a 3)) (C := RX2) (T := TX2) (N := 16) hx hb hts in_X2_claimAmong_X2 hown hK hP 0 rfl rfl 3 (by decide) (hts (.fieldLink RX2 43 "WitchTrialModel" "witches" "I") (List.mem_of_getElem? (i := 3) rfl)) (fun _ h9 => h9) rfl dX2_claimAmong_47 ?_
        refine lv_iload_n hx hb dX2_claimAmong_50 rfl (lv_at hl 2 rfl) ?_
        refine lv_iand hx hb dX2_claimAmong_51 ?_
        refine lv_if_eq (tgt := 59) hx hb dX2_claimAmong_52 (by decide) (fun c_4 => ?_) (fun c_4 => ?_)
        · refine lv_iconst (v := 0) hx hb dX2_claimAmong_59 (by decide) ?_
          refine rd_V (b := hM) (As := [.int q, .int 0]) (rest := [.ref hM]) ⟨hx, hb, hml, hown, hts⟩ (c_X2_may l D cI cZ cJ hM hO hW hY th a q false) (cwV 2 hts gX2_claimAmong_X2_may rfl rfl rfl (by decide +kernel) ⟨Nat.le_of_ble_eq_true rfl, Nat.le_of_ble_eq_true rfl⟩) (hP.sub (ws' := [cM hM hO hW hY th a]) [0] rfl) hK hN (va_recv hK hP (ci := 2) (q0 := 0) rfl rfl) rfl hl.1 rfl (Nat.le_of_ble_eq_true rfl) dX2_claimAmong_60 ⟨Nat.le_of_ble_eq_true rfl, Nat.le_of_ble_eq_true rfl⟩ ?_
          refine lv_if_eq (tgt := 70) hx hb dX2_claimAmong_63 (by decide) (fun c_5 => ?_) (fun c_5 => ?_)
          · have c_5 : (xMay a q false) = false := bI_0 c_5
            refine lv_iconst (v := 4) hx hb dX2_claimAmong_70 (by decide) ?_
            refine va_put (D := D) (cl := vwCl) (ci := 2) (v := .int 4) (ty := .int) (C := RX2) (T := TX2) (N := 16) hx hb hts in_X2_claimAmong_X2 tyX2 tyX2_ok nmX2 hown hK hP hD hS 0 rfl rfl 0 (by decide) (hts (.fieldLink RX2 20 "WitchTrialModel" "thrown" "I") (List.mem_of_getElem? (i := 4) rfl)) (fun _ h9 => h9) rfl (by decide +kernel) rfl rfl (Nat.le_of_ble_eq_true rfl) dX2_claimAmong_71 (fun H locs hP hD hS => ?_)
            have hP : va_P D vwCl [cM hM hO hW hY 4 a] H := hP
            have hD : va_D A [cM hM hO hW hY 4 a] := hD
            refine lv_aload_n hx hb dX2_claimAmong_74 rfl (lv_at hl 0 rfl) ?_
            refine va_get (D := D) (cl := vwCl) (ci := 2) (v := .int 4) (C := RX2) (T := TX2) (N := 16) hx hb hts in_X2_claimAmong_X2 hown hK hP 0 rfl rfl 0 (by decide) (hts (.fieldLink RX2 20 "WitchTrialModel" "thrown" "I") (List.mem_of_getElem? (i := 4) rfl)) (fun _ h9 => h9) rfl dX2_claimAmong_75 ?_
            refine lv_if_le (tgt := 83) hx hb dX2_claimAmong_78 (by decide) (fun c_6 => ?_) (fun c_6 => ?_)
            · exact absurd c_6 (by decide)
            · refine lv_iconst (v := 0) hx hb dX2_claimAmong_81 (by decide) ?_
              have hP9 : va_P D vwCl [cM hM hO hW hY (kAm a q st) a] H := by
                have e9_0 : (kAm a q st) = 4 := by (first | rfl | (simp only [kAm, bI, c_1, c_2, c_3, c_4, c_5, eq_self, ↓reduceIte]; done) | (simp only [kAm, bI, c_1, c_2, c_3, c_4, c_5, eq_self, ↓reduceIte]; rfl) | (simp only [kAm, bI, c_1, c_2, c_3, eq_true c_4, c_5, eq_self, ↓reduceIte]; done) | (simp only [kAm, bI, c_1, c_2, c_3, eq_true c_4, c_5, eq_self, ↓reduceIte]; rfl) | (simp [kAm, bI, c_1, c_2, c_3, eq_true c_4, c_5]; done) | simp [kAm, bI, c_1, c_2, c_3, c_4, c_5])
                rw [e9_0]
                exact hP
              exact mi_iret hx hb hr hlocks hS (by rfl) hP9 dX2_claimAmong_82
          · have c_5 : (xMay a q false) = true := bI_1 c_5
            refine lv_iconst (v := 0) hx hb dX2_claimAmong_66 (by decide) ?_
            refine lv_goto (tgt := 71) hx hb dX2_claimAmong_67 (by decide) ?_
            refine va_put (D := D) (cl := vwCl) (ci := 2) (v := .int 0) (ty := .int) (C := RX2) (T := TX2) (N := 16) hx hb hts in_X2_claimAmong_X2 tyX2 tyX2_ok nmX2 hown hK hP hD hS 0 rfl rfl 0 (by decide) (hts (.fieldLink RX2 20 "WitchTrialModel" "thrown" "I") (List.mem_of_getElem? (i := 4) rfl)) (fun _ h9 => h9) rfl (by decide +kernel) rfl rfl (Nat.le_of_ble_eq_true rfl) dX2_claimAmong_71 (fun H locs hP hD hS => ?_)
            have hP : va_P D vwCl [cM hM hO hW hY 0 a] H := hP
            have hD : va_D A [cM hM hO hW hY 0 a] := hD
            refine lv_aload_n hx hb dX2_claimAmong_74 rfl (lv_at hl 0 rfl) ?_
            refine va_get (D := D) (cl := vwCl) (ci := 2) (v := .int 0) (C := RX2) (T := TX2) (N := 16) hx hb hts in_X2_claimAmong_X2 hown hK hP 0 rfl rfl 0 (by decide) (hts (.fieldLink RX2 20 "WitchTrialModel" "thrown" "I") (List.mem_of_getElem? (i := 4) rfl)) (fun _ h9 => h9) rfl dX2_claimAmong_75 ?_
            refine lv_if_le (tgt := 83) hx hb dX2_claimAmong_78 (by decide) (fun c_7 => ?_) (fun c_7 => ?_)
            · exact absurd hk (by simp [kAm, bI, c_1, c_2, c_3, c_4, c_5])
            · exact absurd c_7 (by decide)
        · refine lv_iconst (v := 1) hx hb dX2_claimAmong_55 (by decide) ?_
          refine lv_goto (tgt := 60) hx hb dX2_claimAmong_56 (by decide) ?_
          refine rd_V (b := hM) (As := [.int q, .int 1]) (rest := [.ref hM]) ⟨hx, hb, hml, hown, hts⟩ (c_X2_may l D cI cZ cJ hM hO hW hY th a q true) (cwV 2 hts gX2_claimAmong_X2_may rfl rfl rfl (by decide +kernel) ⟨Nat.le_of_ble_eq_true rfl, Nat.le_of_ble_eq_true rfl⟩) (hP.sub (ws' := [cM hM hO hW hY th a]) [0] rfl) hK hN (va_recv hK hP (ci := 2) (q0 := 0) rfl rfl) rfl hl.1 rfl (Nat.le_of_ble_eq_true rfl) dX2_claimAmong_60 ⟨Nat.le_of_ble_eq_true rfl, Nat.le_of_ble_eq_true rfl⟩ ?_
          refine lv_if_eq (tgt := 70) hx hb dX2_claimAmong_63 (by decide) (fun c_8 => ?_) (fun c_8 => ?_)
          · have c_8 : (xMay a q true) = false := bI_0 c_8
            refine lv_iconst (v := 4) hx hb dX2_claimAmong_70 (by decide) ?_
            refine va_put (D := D) (cl := vwCl) (ci := 2) (v := .int 4) (ty := .int) (C := RX2) (T := TX2) (N := 16) hx hb hts in_X2_claimAmong_X2 tyX2 tyX2_ok nmX2 hown hK hP hD hS 0 rfl rfl 0 (by decide) (hts (.fieldLink RX2 20 "WitchTrialModel" "thrown" "I") (List.mem_of_getElem? (i := 4) rfl)) (fun _ h9 => h9) rfl (by decide +kernel) rfl rfl (Nat.le_of_ble_eq_true rfl) dX2_claimAmong_71 (fun H locs hP hD hS => ?_)
            have hP : va_P D vwCl [cM hM hO hW hY 4 a] H := hP
            have hD : va_D A [cM hM hO hW hY 4 a] := hD
            refine lv_aload_n hx hb dX2_claimAmong_74 rfl (lv_at hl 0 rfl) ?_
            refine va_get (D := D) (cl := vwCl) (ci := 2) (v := .int 4) (C := RX2) (T := TX2) (N := 16) hx hb hts in_X2_claimAmong_X2 hown hK hP 0 rfl rfl 0 (by decide) (hts (.fieldLink RX2 20 "WitchTrialModel" "thrown" "I") (List.mem_of_getElem? (i := 4) rfl)) (fun _ h9 => h9) rfl dX2_claimAmong_75 ?_
            refine lv_if_le (tgt := 83) hx hb dX2_claimAmong_78 (by decide) (fun c_9 => ?_) (fun c_9 => ?_)
            · exact absurd c_9 (by decide)
            · refine lv_iconst (v := 0) hx hb dX2_claimAmong_81 (by decide) ?_
              have hP9 : va_P D vwCl [cM hM hO hW hY (kAm a q st) a] H := by
                have e9_0 : (kAm a q st) = 4 := by (first | rfl | (simp only [kAm, bI, c_1, c_2, c_3, c_4, c_8, eq_self, ↓reduceIte]; done) | (simp only [kAm, bI, c_1, c_2, c_3, c_4, c_8, eq_self, ↓reduceIte]; rfl) | simp [kAm, bI, c_1, c_2, c_3, c_4, c_8])
                rw [e9_0]
                exact hP
              exact mi_iret hx hb hr hlocks hS (by rfl) hP9 dX2_claimAmong_82
          · have c_8 : (xMay a q true) = true := bI_1 c_8
            refine lv_iconst (v := 0) hx hb dX2_claimAmong_66 (by decide) ?_
            refine lv_goto (tgt := 71) hx hb dX2_claimAmong_67 (by decide) ?_
            refine va_put (D := D) (cl := vwCl) (ci := 2) (v := .int 0) (ty := .int) (C := RX2) (T := TX2) (N := 16) hx hb hts in_X2_claimAmong_X2 tyX2 tyX2_ok nmX2 hown hK hP hD hS 0 rfl rfl 0 (by decide) (hts (.fieldLink RX2 20 "WitchTrialModel" "thrown" "I") (List.mem_of_getElem? (i := 4) rfl)) (fun _ h9 => h9) rfl (by decide +kernel) rfl rfl (Nat.le_of_ble_eq_true rfl) dX2_claimAmong_71 (fun H locs hP hD hS => ?_)
            have hP : va_P D vwCl [cM hM hO hW hY 0 a] H := hP
            have hD : va_D A [cM hM hO hW hY 0 a] := hD
            refine lv_aload_n hx hb dX2_claimAmong_74 rfl (lv_at hl 0 rfl) ?_
            refine va_get (D := D) (cl := vwCl) (ci := 2) (v := .int 0) (C := RX2) (T := TX2) (N := 16) hx hb hts in_X2_claimAmong_X2 hown hK hP 0 rfl rfl 0 (by decide) (hts (.fieldLink RX2 20 "WitchTrialModel" "thrown" "I") (List.mem_of_getElem? (i := 4) rfl)) (fun _ h9 => h9) rfl dX2_claimAmong_75 ?_
            refine lv_if_le (tgt := 83) hx hb dX2_claimAmong_78 (by decide) (fun c_10 => ?_) (fun c_10 => ?_)
            · exact absurd hk (by simp [kAm, bI, c_1, c_2, c_3, c_4, c_8])
            · exact absurd c_10 (by decide)
      · have c_3 : (xIn st 0 (((1 : Int32) <<< ((a 2) &&& 31)) - 1)) = false := bI_0 c_3
        refine lv_iconst (v := 3) hx hb dX2_claimAmong_40 (by decide) ?_
        refine lv_goto (tgt := 71) hx hb dX2_claimAmong_41 (by decide) ?_
        refine va_put (D := D) (cl := vwCl) (ci := 2) (v := .int 3) (ty := .int) (C := RX2) (T := TX2) (N := 16) hx hb hts in_X2_claimAmong_X2 tyX2 tyX2_ok nmX2 hown hK hP hD hS 0 rfl rfl 0 (by decide) (hts (.fieldLink RX2 20 "WitchTrialModel" "thrown" "I") (List.mem_of_getElem? (i := 4) rfl)) (fun _ h9 => h9) rfl (by decide +kernel) rfl rfl (Nat.le_of_ble_eq_true rfl) dX2_claimAmong_71 (fun H locs hP hD hS => ?_)
        have hP : va_P D vwCl [cM hM hO hW hY 3 a] H := hP
        have hD : va_D A [cM hM hO hW hY 3 a] := hD
        refine lv_aload_n hx hb dX2_claimAmong_74 rfl (lv_at hl 0 rfl) ?_
        refine va_get (D := D) (cl := vwCl) (ci := 2) (v := .int 3) (C := RX2) (T := TX2) (N := 16) hx hb hts in_X2_claimAmong_X2 hown hK hP 0 rfl rfl 0 (by decide) (hts (.fieldLink RX2 20 "WitchTrialModel" "thrown" "I") (List.mem_of_getElem? (i := 4) rfl)) (fun _ h9 => h9) rfl dX2_claimAmong_75 ?_
        refine lv_if_le (tgt := 83) hx hb dX2_claimAmong_78 (by decide) (fun c_11 => ?_) (fun c_11 => ?_)
        · exact absurd c_11 (by decide)
        · refine lv_iconst (v := 0) hx hb dX2_claimAmong_81 (by decide) ?_
          have hP9 : va_P D vwCl [cM hM hO hW hY (kAm a q st) a] H := by
            have e9_0 : (kAm a q st) = 3 := by (first | rfl | (simp only [kAm, bI, c_1, c_2, c_3, eq_self, ↓reduceIte]; done) | (simp only [kAm, bI, c_1, c_2, c_3, eq_self, ↓reduceIte]; rfl) | simp [kAm, bI, c_1, c_2, c_3])
            rw [e9_0]
            exact hP
          exact mi_iret hx hb hr hlocks hS (by rfl) hP9 dX2_claimAmong_82
    · have c_2 : (xPl a q) = false := bI_0 c_2
      refine lv_iconst (v := 2) hx hb dX2_claimAmong_20 (by decide) ?_
      refine lv_goto (tgt := 71) hx hb dX2_claimAmong_21 (by decide) ?_
      refine va_put (D := D) (cl := vwCl) (ci := 2) (v := .int 2) (ty := .int) (C := RX2) (T := TX2) (N := 16) hx hb hts in_X2_claimAmong_X2 tyX2 tyX2_ok nmX2 hown hK hP hD hS 0 rfl rfl 0 (by decide) (hts (.fieldLink RX2 20 "WitchTrialModel" "thrown" "I") (List.mem_of_getElem? (i := 4) rfl)) (fun _ h9 => h9) rfl (by decide +kernel) rfl rfl (Nat.le_of_ble_eq_true rfl) dX2_claimAmong_71 (fun H locs hP hD hS => ?_)
      have hP : va_P D vwCl [cM hM hO hW hY 2 a] H := hP
      have hD : va_D A [cM hM hO hW hY 2 a] := hD
      refine lv_aload_n hx hb dX2_claimAmong_74 rfl (lv_at hl 0 rfl) ?_
      refine va_get (D := D) (cl := vwCl) (ci := 2) (v := .int 2) (C := RX2) (T := TX2) (N := 16) hx hb hts in_X2_claimAmong_X2 hown hK hP 0 rfl rfl 0 (by decide) (hts (.fieldLink RX2 20 "WitchTrialModel" "thrown" "I") (List.mem_of_getElem? (i := 4) rfl)) (fun _ h9 => h9) rfl dX2_claimAmong_75 ?_
      refine lv_if_le (tgt := 83) hx hb dX2_claimAmong_78 (by decide) (fun c_12 => ?_) (fun c_12 => ?_)
      · exact absurd c_12 (by decide)
      · refine lv_iconst (v := 0) hx hb dX2_claimAmong_81 (by decide) ?_
        have hP9 : va_P D vwCl [cM hM hO hW hY (kAm a q st) a] H := by
          have e9_0 : (kAm a q st) = 2 := by (first | rfl | (simp only [kAm, bI, c_1, c_2, eq_self, ↓reduceIte]; done) | (simp only [kAm, bI, c_1, c_2, eq_self, ↓reduceIte]; rfl) | simp [kAm, bI, c_1, c_2])
          rw [e9_0]
          exact hP
        exact mi_iret hx hb hr hlocks hS (by rfl) hP9 dX2_claimAmong_82
  · refine lv_iconst (v := 1) hx hb dX2_claimAmong_8 (by decide) ?_
    refine lv_goto (tgt := 71) hx hb dX2_claimAmong_9 (by decide) ?_
    refine va_put (D := D) (cl := vwCl) (ci := 2) (v := .int 1) (ty := .int) (C := RX2) (T := TX2) (N := 16) hx hb hts in_X2_claimAmong_X2 tyX2 tyX2_ok nmX2 hown hK hP hD hS 0 rfl rfl 0 (by decide) (hts (.fieldLink RX2 20 "WitchTrialModel" "thrown" "I") (List.mem_of_getElem? (i := 4) rfl)) (fun _ h9 => h9) rfl (by decide +kernel) rfl rfl (Nat.le_of_ble_eq_true rfl) dX2_claimAmong_71 (fun H locs hP hD hS => ?_)
    have hP : va_P D vwCl [cM hM hO hW hY 1 a] H := hP
    have hD : va_D A [cM hM hO hW hY 1 a] := hD
    refine lv_aload_n hx hb dX2_claimAmong_74 rfl (lv_at hl 0 rfl) ?_
    refine va_get (D := D) (cl := vwCl) (ci := 2) (v := .int 1) (C := RX2) (T := TX2) (N := 16) hx hb hts in_X2_claimAmong_X2 hown hK hP 0 rfl rfl 0 (by decide) (hts (.fieldLink RX2 20 "WitchTrialModel" "thrown" "I") (List.mem_of_getElem? (i := 4) rfl)) (fun _ h9 => h9) rfl dX2_claimAmong_75 ?_
    refine lv_if_le (tgt := 83) hx hb dX2_claimAmong_78 (by decide) (fun c_13 => ?_) (fun c_13 => ?_)
    · exact absurd c_13 (by decide)
    · refine lv_iconst (v := 0) hx hb dX2_claimAmong_81 (by decide) ?_
      have hP9 : va_P D vwCl [cM hM hO hW hY (kAm a q st) a] H := by
        have e9_0 : (kAm a q st) = 1 := by (first | rfl | (simp only [kAm, bI, c_1, eq_self, ↓reduceIte]; done) | (simp only [kAm, bI, c_1, eq_self, ↓reduceIte]; rfl) | (simp only [kAm, bI, eq_true c_1, eq_self, ↓reduceIte]; done) | (simp only [kAm, bI, eq_true c_1, eq_self, ↓reduceIte]; rfl) | (simp [kAm, bI, eq_true c_1]; done) | simp [kAm, bI, c_1])
        rw [e9_0]
        exact hP
      exact mi_iret hx hb hr hlocks hS (by rfl) hP9 dX2_claimAmong_82

theorem in_X2_manyVotes_X2 : ∀ w ∈ wsX20, w ∈ wsX2_manyVotes := by decide +kernel
set_option maxHeartbeats 2000000 in
set_option maxRecDepth 100000 in
theorem c_X2_manyVotes (l : Launch) (D : va_G) (cI cZ cJ : ClassId) (hM : Nat) (hO : Nat) (hW : Nat) (hY : Nat) (th : Int32) (a : Nat → Int32) (v : Nat → Int32) (q : Int32)  : Rd l D cI cZ cJ yX2_manyVotes wsX2_manyVotes 0 0 [.ref hM, .int q] [cM hM hO hW hY th a, cA cI hW 8 v] (xMv v q 8) := by
  refine rd_of (by decide) rfl (Nat.le_of_ble_eq_true rfl) (fun p e s m below meth c ls hx hb hr hml hts hown hlocks hP hK hN hl => ?_)
  have hl : lv_has ls 4 [(0, .ref hM), (1, .int q)] := hl
  refine lv_iconst (v := 0) hx hb dX2_manyVotes_0 (by decide) ?_
  refine lv_istore_n (lv' := [(2, .int 0), (0, .ref hM), (1, .int q)]) hx hb dX2_manyVotes_1 rfl hl (by decide) rfl (fun ls hl => ?_)
  refine lv_iconst (v := 0) hx hb dX2_manyVotes_2 (by decide) ?_
  refine lv_istore_n (lv' := [(3, .int 0), (2, .int 0), (0, .ref hM), (1, .int q)]) hx hb dX2_manyVotes_3 rfl hl (by decide) rfl (fun ls hl => ?_)
  refine loop_R (nL := 4) (h := 4) 8 (fun i => [(0, .ref hM), (1, .int q), (2, .int (xMv v q i)), (3, .int (nI i))]) (fun _ => True) (fun i hi hI ih_i ls hl => ?_) 0 (by omega) trivial ls ?_
  · have hl : lv_has ls 4 [(0, .ref hM), (1, .int q), (2, .int (xMv v q i)), (3, .int (nI i))] := hl
    refine lv_iload_n hx hb dX2_manyVotes_4 rfl (lv_at hl 3 rfl) ?_
    refine lv_bipush (v := 8) hx hb dX2_manyVotes_5 (by decide) ?_
    refine lv_icmp_ge (tgt := 34) hx hb dX2_manyVotes_7 (by decide) (fun c_2 => ?_) (fun c_2 => ?_)
    · have hi9 : 8 = i := (geN hi (by omega) rfl c_2).symm
      subst hi9
      refine lv_iload_n hx hb dX2_manyVotes_34 rfl (lv_at hl 2 rfl) ?_
      exact rd_iret hx hb hr hlocks (by rfl) dX2_manyVotes_35
    · have hlt : i < 8 := ltN hi (by omega) rfl c_2
      refine lv_iload_n hx hb dX2_manyVotes_10 rfl (lv_at hl 2 rfl) ?_
      refine lv_aload_n hx hb dX2_manyVotes_11 rfl (lv_at hl 0 rfl) ?_
      refine va_get (D := D) (cl := vwCl) (ci := 2) (v := .ref hW) (C := RX2) (T := TX2) (N := 16) hx hb hts in_X2_manyVotes_X2 hown hK hP 0 rfl rfl 10 (by decide) (hts (.fieldLink RX2 13 "WitchTrialModel" "votes" "[I") (List.mem_of_getElem? (i := 1) rfl)) (fun _ h9 => h9) rfl dX2_manyVotes_12 ?_
      refine lv_iload_n hx hb dX2_manyVotes_15 rfl (lv_at hl 3 rfl) ?_
      refine q_iald (D := D) (j := i) (v := (v i)) hx hb hK hP 1 0 rfl rfl (by omega) (Nat.le_of_ble_eq_true rfl) rfl dX2_manyVotes_16 ?_
      refine lv_iload_n hx hb dX2_manyVotes_17 rfl (lv_at hl 1 rfl) ?_
      refine lv_icmp_ne (tgt := 25) hx hb dX2_manyVotes_18 (by decide) (fun c_3 => ?_) (fun c_3 => ?_)
      · refine lv_iconst (v := 0) hx hb dX2_manyVotes_25 (by decide) ?_
        refine lv_iadd hx hb dX2_manyVotes_26 ?_
        refine lv_istore_n (lv' := [(2, .int ((xMv v q i) + 0)), (0, .ref hM), (1, .int q), (3, .int (nI i))]) hx hb dX2_manyVotes_27 rfl hl (by decide) rfl (fun ls hl => ?_)
        refine lv_iinc (v := (nI (i + 1))) (lv' := [(3, .int (nI (i + 1))), (2, .int ((xMv v q i) + 0)), (0, .ref hM), (1, .int q)]) hx hb dX2_manyVotes_28 hl (k := 3) rfl (nI_1 i) (by decide) rfl (fun ls hl => ?_)
        refine lv_goto (tgt := 4) hx hb dX2_manyVotes_31 (by decide) ?_
        have eb_0 : (xMv v q (i + 1)) = ((xMv v q i) + 0) := by (first | rfl | (simp only [bI, xMv, c_2, c_3, eq_self, ↓reduceIte]; done) | (simp only [bI, xMv, c_2, c_3, eq_self, ↓reduceIte]; rfl) | simp [bI, xMv, c_2, c_3])
        exact ih_i (by omega) trivial ls (by show lv_has ls 4 [(0, .ref hM), (1, .int q), (2, .int (xMv v q (i + 1))), (3, .int (nI (i + 1)))]; rw [eb_0]; exact lv_sub hl [2, 3, 1, 0] rfl)
      · refine lv_iconst (v := 1) hx hb dX2_manyVotes_21 (by decide) ?_
        refine lv_goto (tgt := 26) hx hb dX2_manyVotes_22 (by decide) ?_
        refine lv_iadd hx hb dX2_manyVotes_26 ?_
        refine lv_istore_n (lv' := [(2, .int ((xMv v q i) + 1)), (0, .ref hM), (1, .int q), (3, .int (nI i))]) hx hb dX2_manyVotes_27 rfl hl (by decide) rfl (fun ls hl => ?_)
        refine lv_iinc (v := (nI (i + 1))) (lv' := [(3, .int (nI (i + 1))), (2, .int ((xMv v q i) + 1)), (0, .ref hM), (1, .int q)]) hx hb dX2_manyVotes_28 hl (k := 3) rfl (nI_1 i) (by decide) rfl (fun ls hl => ?_)
        refine lv_goto (tgt := 4) hx hb dX2_manyVotes_31 (by decide) ?_
        have eb_0 : (xMv v q (i + 1)) = ((xMv v q i) + 1) := by (first | rfl | (simp only [bI, xMv, c_2, c_3, eq_self, ↓reduceIte]; done) | (simp only [bI, xMv, c_2, c_3, eq_self, ↓reduceIte]; rfl) | (simp only [bI, xMv, c_2, eq_true c_3, eq_self, ↓reduceIte]; done) | (simp only [bI, xMv, c_2, eq_true c_3, eq_self, ↓reduceIte]; rfl) | (simp [bI, xMv, c_2, eq_true c_3]; done) | simp [bI, xMv, c_2, c_3])
        exact ih_i (by omega) trivial ls (by show lv_has ls 4 [(0, .ref hM), (1, .int q), (2, .int (xMv v q (i + 1))), (3, .int (nI (i + 1)))]; rw [eb_0]; exact lv_sub hl [2, 3, 1, 0] rfl)
  · show lv_has ls 4 [(0, .ref hM), (1, .int q), (2, .int (xMv v q 0)), (3, .int (nI 0))]
    have en_0 : (xMv v q 0) = 0 := by rfl
    rw [en_0]
    have en_1 : (nI 0) = 0 := by exact nI_0
    rw [en_1]
    exact lv_sub hl [2, 3, 1, 0] rfl

theorem in_X2_vote_X2 : ∀ w ∈ wsX20, w ∈ wsX2_vote := by decide +kernel
set_option maxHeartbeats 2000000 in
set_option maxRecDepth 100000 in
theorem c_X2_vote (l : Launch) (D : va_G) (cI cZ cJ : ClassId) (sz : Nat) (hM : Nat) (hO : Nat) (hW : Nat) (hY : Nat) (th : Int32) (a : Nat → Int32) (v : Nat → Int32) (q : Nat) (r : Int32) (hq : q < 8) (hk : kVo a (nI q) r = 0) : Mi l D cI cZ cJ yX2_vote wsX2_vote 2 43 sz [.ref hM, .int (nI q), .int r] [cM hM hO hW hY th a, cA cI hW 8 v] [cM hM hO hW hY 0 a, cA cI hW 8 (upd v q r)] (xMv (upd v q r) r 8) := by
  refine mi_of (by decide) rfl (Nat.le_of_ble_eq_true rfl) (fun p e s m below meth c ls A hx hb hr hml hts hown hlocks hin hP hK hN hD hA hS hl => ?_)
  have hl : lv_has ls 3 [(0, .ref hM), (1, .int (nI q)), (2, .int r)] := hl
  refine lv_aload_n hx hb dX2_vote_0 rfl (lv_at hl 0 rfl) ?_
  refine lv_aload_n hx hb dX2_vote_1 rfl (lv_at hl 0 rfl) ?_
  refine va_get (D := D) (cl := vwCl) (ci := 2) (v := .int (a 0)) (C := RX2) (T := TX2) (N := 16) hx hb hts in_X2_vote_X2 hown hK hP 0 rfl rfl 1 (by decide) (hts (.fieldLink RX2 70 "WitchTrialModel" "phase" "I") (List.mem_of_getElem? (i := 1) rfl)) (fun _ h9 => h9) rfl dX2_vote_2 ?_
  refine lv_iconst (v := 1) hx hb dX2_vote_5 (by decide) ?_
  refine lv_icmp_eq (tgt := 13) hx hb dX2_vote_6 (by decide) (fun c_1 => ?_) (fun c_1 => ?_)
  · refine lv_aload_n hx hb dX2_vote_13 rfl (lv_at hl 0 rfl) ?_
    refine lv_iload_n hx hb dX2_vote_14 rfl (lv_at hl 1 rfl) ?_
    refine rd_V (b := hM) (As := [.int (nI q)]) (rest := [.ref hM]) ⟨hx, hb, hml, hown, hts⟩ (c_X2_isPlayer l D cI cZ cJ hM hO hW hY th a (nI q)) (cwV 1 hts gX2_vote_X2_isPlayer rfl rfl rfl (by decide +kernel) ⟨Nat.le_of_ble_eq_true rfl, Nat.le_of_ble_eq_true rfl⟩) (hP.sub (ws' := [cM hM hO hW hY th a]) [0] rfl) hK hN (va_recv hK hP (ci := 2) (q0 := 0) rfl rfl) rfl hl.1 rfl (Nat.le_of_ble_eq_true rfl) dX2_vote_15 ⟨Nat.le_of_ble_eq_true rfl, Nat.le_of_ble_eq_true rfl⟩ ?_
    refine lv_if_eq (tgt := 29) hx hb dX2_vote_18 (by decide) (fun c_2 => ?_) (fun c_2 => ?_)
    · have c_2 : (xPl a (nI q)) = false := bI_0 c_2
      refine lv_iconst (v := 2) hx hb dX2_vote_29 (by decide) ?_
      refine lv_goto (tgt := 60) hx hb dX2_vote_30 (by decide) ?_
      refine va_put (D := D) (cl := vwCl) (ci := 2) (v := .int 2) (ty := .int) (C := RX2) (T := TX2) (N := 16) hx hb hts in_X2_vote_X2 tyX2 tyX2_ok nmX2 hown hK hP hD hS 0 rfl rfl 0 (by decide) (hts (.fieldLink RX2 20 "WitchTrialModel" "thrown" "I") (List.mem_of_getElem? (i := 3) rfl)) (fun _ h9 => h9) rfl (by decide +kernel) rfl rfl (Nat.le_of_ble_eq_true rfl) dX2_vote_60 (fun H locs hP hD hS => ?_)
      have hP : va_P D vwCl [cM hM hO hW hY 2 a, cA cI hW 8 v] H := hP
      have hD : va_D A [cM hM hO hW hY 2 a, cA cI hW 8 v] := hD
      refine lv_aload_n hx hb dX2_vote_63 rfl (lv_at hl 0 rfl) ?_
      refine va_get (D := D) (cl := vwCl) (ci := 2) (v := .int 2) (C := RX2) (T := TX2) (N := 16) hx hb hts in_X2_vote_X2 hown hK hP 0 rfl rfl 0 (by decide) (hts (.fieldLink RX2 20 "WitchTrialModel" "thrown" "I") (List.mem_of_getElem? (i := 3) rfl)) (fun _ h9 => h9) rfl dX2_vote_64 ?_
      refine lv_if_le (tgt := 72) hx hb dX2_vote_67 (by decide) (fun c_3 => ?_) (fun c_3 => ?_)
      · exact absurd c_3 (by decide)
      · exact absurd hk (by simp [kVo, bI, c_1, c_2])
    · have c_2 : (xPl a (nI q)) = true := bI_1 c_2
      refine lv_aload_n hx hb dX2_vote_21 rfl (lv_at hl 0 rfl) ?_
      refine lv_iload_n hx hb dX2_vote_22 rfl (lv_at hl 2 rfl) ?_
      refine rd_V (b := hM) (As := [.int r]) (rest := [.ref hM]) ⟨hx, hb, hml, hown, hts⟩ (c_X2_isPlayer l D cI cZ cJ hM hO hW hY th a r) (cwV 1 hts gX2_vote_X2_isPlayer rfl rfl rfl (by decide +kernel) ⟨Nat.le_of_ble_eq_true rfl, Nat.le_of_ble_eq_true rfl⟩) (hP.sub (ws' := [cM hM hO hW hY th a]) [0] rfl) hK hN (va_recv hK hP (ci := 2) (q0 := 0) rfl rfl) rfl hl.1 rfl (Nat.le_of_ble_eq_true rfl) dX2_vote_23 ⟨Nat.le_of_ble_eq_true rfl, Nat.le_of_ble_eq_true rfl⟩ ?_
      refine lv_if_ne (tgt := 33) hx hb dX2_vote_26 (by decide) (fun c_4 => ?_) (fun c_4 => ?_)
      · have c_4 : (xPl a r) = true := bI_1 c_4
        refine lv_aload_n hx hb dX2_vote_33 rfl (lv_at hl 0 rfl) ?_
        refine va_get (D := D) (cl := vwCl) (ci := 2) (v := .int (a 6)) (C := RX2) (T := TX2) (N := 16) hx hb hts in_X2_vote_X2 hown hK hP 0 rfl rfl 7 (by decide) (hts (.fieldLink RX2 67 "WitchTrialModel" "alive" "I") (List.mem_of_getElem? (i := 2) rfl)) (fun _ h9 => h9) rfl dX2_vote_34 ?_
        refine lv_iload_n hx hb dX2_vote_37 rfl (lv_at hl 1 rfl) ?_
        refine rd_S (As := [.int (a 6), .int (nI q)]) (rest := [.ref hM]) ⟨hx, hb, hml, hown, hts⟩ (c_X2_has l D cI cZ cJ (a 6) (nI q)) (va_cwS 2 hts gX2_vote_X2_has rfl rfl rfl (by decide +kernel) ⟨Nat.le_of_ble_eq_true rfl, Nat.le_of_ble_eq_true rfl⟩) (hP.sub (ws' := []) [] rfl) hK hN rfl hl.1 rfl (Nat.le_of_ble_eq_true rfl) dX2_vote_38 ⟨Nat.le_of_ble_eq_true rfl, Nat.le_of_ble_eq_true rfl⟩ ?_
        refine lv_if_eq (tgt := 59) hx hb dX2_vote_41 (by decide) (fun c_5 => ?_) (fun c_5 => ?_)
        · have c_5 : (xHas (a 6) (nI q)) = false := bI_0 c_5
          refine lv_iconst (v := 3) hx hb dX2_vote_59 (by decide) ?_
          refine va_put (D := D) (cl := vwCl) (ci := 2) (v := .int 3) (ty := .int) (C := RX2) (T := TX2) (N := 16) hx hb hts in_X2_vote_X2 tyX2 tyX2_ok nmX2 hown hK hP hD hS 0 rfl rfl 0 (by decide) (hts (.fieldLink RX2 20 "WitchTrialModel" "thrown" "I") (List.mem_of_getElem? (i := 3) rfl)) (fun _ h9 => h9) rfl (by decide +kernel) rfl rfl (Nat.le_of_ble_eq_true rfl) dX2_vote_60 (fun H locs hP hD hS => ?_)
          have hP : va_P D vwCl [cM hM hO hW hY 3 a, cA cI hW 8 v] H := hP
          have hD : va_D A [cM hM hO hW hY 3 a, cA cI hW 8 v] := hD
          refine lv_aload_n hx hb dX2_vote_63 rfl (lv_at hl 0 rfl) ?_
          refine va_get (D := D) (cl := vwCl) (ci := 2) (v := .int 3) (C := RX2) (T := TX2) (N := 16) hx hb hts in_X2_vote_X2 hown hK hP 0 rfl rfl 0 (by decide) (hts (.fieldLink RX2 20 "WitchTrialModel" "thrown" "I") (List.mem_of_getElem? (i := 3) rfl)) (fun _ h9 => h9) rfl dX2_vote_64 ?_
          refine lv_if_le (tgt := 72) hx hb dX2_vote_67 (by decide) (fun c_6 => ?_) (fun c_6 => ?_)
          · exact absurd c_6 (by decide)
          · exact absurd hk (by simp [kVo, bI, c_1, c_2, c_4, c_5])
        · have c_5 : (xHas (a 6) (nI q)) = true := bI_1 c_5
          refine lv_aload_n hx hb dX2_vote_44 rfl (lv_at hl 0 rfl) ?_
          refine va_get (D := D) (cl := vwCl) (ci := 2) (v := .int (a 6)) (C := RX2) (T := TX2) (N := 16) hx hb hts in_X2_vote_X2 hown hK hP 0 rfl rfl 7 (by decide) (hts (.fieldLink RX2 67 "WitchTrialModel" "alive" "I") (List.mem_of_getElem? (i := 2) rfl)) (fun _ h9 => h9) rfl dX2_vote_45 ?_
          refine lv_iload_n hx hb dX2_vote_48 rfl (lv_at hl 2 rfl) ?_
          refine rd_S (As := [.int (a 6), .int r]) (rest := [.ref hM]) ⟨hx, hb, hml, hown, hts⟩ (c_X2_has l D cI cZ cJ (a 6) r) (va_cwS 2 hts gX2_vote_X2_has rfl rfl rfl (by decide +kernel) ⟨Nat.le_of_ble_eq_true rfl, Nat.le_of_ble_eq_true rfl⟩) (hP.sub (ws' := []) [] rfl) hK hN rfl hl.1 rfl (Nat.le_of_ble_eq_true rfl) dX2_vote_49 ⟨Nat.le_of_ble_eq_true rfl, Nat.le_of_ble_eq_true rfl⟩ ?_
          refine lv_if_eq (tgt := 59) hx hb dX2_vote_52 (by decide) (fun c_7 => ?_) (fun c_7 => ?_)
          · have c_7 : (xHas (a 6) r) = false := bI_0 c_7
            refine lv_iconst (v := 3) hx hb dX2_vote_59 (by decide) ?_
            refine va_put (D := D) (cl := vwCl) (ci := 2) (v := .int 3) (ty := .int) (C := RX2) (T := TX2) (N := 16) hx hb hts in_X2_vote_X2 tyX2 tyX2_ok nmX2 hown hK hP hD hS 0 rfl rfl 0 (by decide) (hts (.fieldLink RX2 20 "WitchTrialModel" "thrown" "I") (List.mem_of_getElem? (i := 3) rfl)) (fun _ h9 => h9) rfl (by decide +kernel) rfl rfl (Nat.le_of_ble_eq_true rfl) dX2_vote_60 (fun H locs hP hD hS => ?_)
            have hP : va_P D vwCl [cM hM hO hW hY 3 a, cA cI hW 8 v] H := hP
            have hD : va_D A [cM hM hO hW hY 3 a, cA cI hW 8 v] := hD
            refine lv_aload_n hx hb dX2_vote_63 rfl (lv_at hl 0 rfl) ?_
            refine va_get (D := D) (cl := vwCl) (ci := 2) (v := .int 3) (C := RX2) (T := TX2) (N := 16) hx hb hts in_X2_vote_X2 hown hK hP 0 rfl rfl 0 (by decide) (hts (.fieldLink RX2 20 "WitchTrialModel" "thrown" "I") (List.mem_of_getElem? (i := 3) rfl)) (fun _ h9 => h9) rfl dX2_vote_64 ?_
            refine lv_if_le (tgt := 72) hx hb dX2_vote_67 (by decide) (fun c_8 => ?_) (fun c_8 => ?_)
            · exact absurd c_8 (by decide)
            · exact absurd hk (by simp [kVo, bI, c_1, c_2, c_4, c_5, c_7])
          · have c_7 : (xHas (a 6) r) = true := bI_1 c_7
            refine lv_iconst (v := 0) hx hb dX2_vote_55 (by decide) ?_
            refine lv_goto (tgt := 60) hx hb dX2_vote_56 (by decide) ?_
            refine va_put (D := D) (cl := vwCl) (ci := 2) (v := .int 0) (ty := .int) (C := RX2) (T := TX2) (N := 16) hx hb hts in_X2_vote_X2 tyX2 tyX2_ok nmX2 hown hK hP hD hS 0 rfl rfl 0 (by decide) (hts (.fieldLink RX2 20 "WitchTrialModel" "thrown" "I") (List.mem_of_getElem? (i := 3) rfl)) (fun _ h9 => h9) rfl (by decide +kernel) rfl rfl (Nat.le_of_ble_eq_true rfl) dX2_vote_60 (fun H locs hP hD hS => ?_)
            have hP : va_P D vwCl [cM hM hO hW hY 0 a, cA cI hW 8 v] H := hP
            have hD : va_D A [cM hM hO hW hY 0 a, cA cI hW 8 v] := hD
            refine lv_aload_n hx hb dX2_vote_63 rfl (lv_at hl 0 rfl) ?_
            refine va_get (D := D) (cl := vwCl) (ci := 2) (v := .int 0) (C := RX2) (T := TX2) (N := 16) hx hb hts in_X2_vote_X2 hown hK hP 0 rfl rfl 0 (by decide) (hts (.fieldLink RX2 20 "WitchTrialModel" "thrown" "I") (List.mem_of_getElem? (i := 3) rfl)) (fun _ h9 => h9) rfl dX2_vote_64 ?_
            refine lv_if_le (tgt := 72) hx hb dX2_vote_67 (by decide) (fun c_9 => ?_) (fun c_9 => ?_)
            · refine lv_aload_n hx hb dX2_vote_72 rfl (lv_at hl 0 rfl) ?_
              refine va_get (D := D) (cl := vwCl) (ci := 2) (v := .ref hW) (C := RX2) (T := TX2) (N := 16) hx hb hts in_X2_vote_X2 hown hK hP 0 rfl rfl 10 (by decide) (hts (.fieldLink RX2 13 "WitchTrialModel" "votes" "[I") (List.mem_of_getElem? (i := 4) rfl)) (fun _ h9 => h9) rfl dX2_vote_73 ?_
              refine lv_iload_n hx hb dX2_vote_76 rfl (lv_at hl 1 rfl) ?_
              refine lv_iload_n hx hb dX2_vote_77 rfl (lv_at hl 2 rfl) ?_
              refine q_iast (D := D) (j := q) hx hb hK hP hD hS 1 0 rfl rfl hq (Nat.le_of_ble_eq_true rfl) dX2_vote_78 (fun H locs hP hD hS => ?_)
              have hP : va_P D vwCl [cM hM hO hW hY 0 a, cA cI hW 8 (upd v q r)] H := hP
              have hD : va_D A [cM hM hO hW hY 0 a, cA cI hW 8 (upd v q r)] := hD
              refine lv_aload_n hx hb dX2_vote_79 rfl (lv_at hl 0 rfl) ?_
              refine lv_iload_n hx hb dX2_vote_80 rfl (lv_at hl 2 rfl) ?_
              refine rd_V (b := hM) (As := [.int r]) (rest := []) ⟨hx, hb, hml, hown, hts⟩ (c_X2_manyVotes l D cI cZ cJ hM hO hW hY 0 a (upd v q r) r) (cwV 1 hts gX2_vote_X2_manyVotes rfl rfl rfl (by decide +kernel) ⟨Nat.le_of_ble_eq_true rfl, Nat.le_of_ble_eq_true rfl⟩) (hP.sub (ws' := [cM hM hO hW hY 0 a, cA cI hW 8 (upd v q r)]) [0, 1] rfl) hK hN (va_recv hK hP (ci := 2) (q0 := 0) rfl rfl) rfl hl.1 rfl (Nat.le_of_ble_eq_true rfl) dX2_vote_81 ⟨Nat.le_of_ble_eq_true rfl, Nat.le_of_ble_eq_true rfl⟩ ?_
              have hP9 : va_P D vwCl [cM hM hO hW hY 0 a, cA cI hW 8 (upd v q r)] H := by
                exact hP
              exact mi_iret hx hb hr hlocks hS (by rfl) hP9 dX2_vote_84
            · exact absurd c_9 (by decide)
      · have c_4 : (xPl a r) = false := bI_0 c_4
        refine lv_iconst (v := 2) hx hb dX2_vote_29 (by decide) ?_
        refine lv_goto (tgt := 60) hx hb dX2_vote_30 (by decide) ?_
        refine va_put (D := D) (cl := vwCl) (ci := 2) (v := .int 2) (ty := .int) (C := RX2) (T := TX2) (N := 16) hx hb hts in_X2_vote_X2 tyX2 tyX2_ok nmX2 hown hK hP hD hS 0 rfl rfl 0 (by decide) (hts (.fieldLink RX2 20 "WitchTrialModel" "thrown" "I") (List.mem_of_getElem? (i := 3) rfl)) (fun _ h9 => h9) rfl (by decide +kernel) rfl rfl (Nat.le_of_ble_eq_true rfl) dX2_vote_60 (fun H locs hP hD hS => ?_)
        have hP : va_P D vwCl [cM hM hO hW hY 2 a, cA cI hW 8 v] H := hP
        have hD : va_D A [cM hM hO hW hY 2 a, cA cI hW 8 v] := hD
        refine lv_aload_n hx hb dX2_vote_63 rfl (lv_at hl 0 rfl) ?_
        refine va_get (D := D) (cl := vwCl) (ci := 2) (v := .int 2) (C := RX2) (T := TX2) (N := 16) hx hb hts in_X2_vote_X2 hown hK hP 0 rfl rfl 0 (by decide) (hts (.fieldLink RX2 20 "WitchTrialModel" "thrown" "I") (List.mem_of_getElem? (i := 3) rfl)) (fun _ h9 => h9) rfl dX2_vote_64 ?_
        refine lv_if_le (tgt := 72) hx hb dX2_vote_67 (by decide) (fun c_10 => ?_) (fun c_10 => ?_)
        · exact absurd c_10 (by decide)
        · exact absurd hk (by simp [kVo, bI, c_1, c_2, c_4])
  · refine lv_iconst (v := 1) hx hb dX2_vote_9 (by decide) ?_
    refine lv_goto (tgt := 60) hx hb dX2_vote_10 (by decide) ?_
    refine va_put (D := D) (cl := vwCl) (ci := 2) (v := .int 1) (ty := .int) (C := RX2) (T := TX2) (N := 16) hx hb hts in_X2_vote_X2 tyX2 tyX2_ok nmX2 hown hK hP hD hS 0 rfl rfl 0 (by decide) (hts (.fieldLink RX2 20 "WitchTrialModel" "thrown" "I") (List.mem_of_getElem? (i := 3) rfl)) (fun _ h9 => h9) rfl (by decide +kernel) rfl rfl (Nat.le_of_ble_eq_true rfl) dX2_vote_60 (fun H locs hP hD hS => ?_)
    have hP : va_P D vwCl [cM hM hO hW hY 1 a, cA cI hW 8 v] H := hP
    have hD : va_D A [cM hM hO hW hY 1 a, cA cI hW 8 v] := hD
    refine lv_aload_n hx hb dX2_vote_63 rfl (lv_at hl 0 rfl) ?_
    refine va_get (D := D) (cl := vwCl) (ci := 2) (v := .int 1) (C := RX2) (T := TX2) (N := 16) hx hb hts in_X2_vote_X2 hown hK hP 0 rfl rfl 0 (by decide) (hts (.fieldLink RX2 20 "WitchTrialModel" "thrown" "I") (List.mem_of_getElem? (i := 3) rfl)) (fun _ h9 => h9) rfl dX2_vote_64 ?_
    refine lv_if_le (tgt := 72) hx hb dX2_vote_67 (by decide) (fun c_11 => ?_) (fun c_11 => ?_)
    · exact absurd c_11 (by decide)
    · exact absurd hk (by simp [kVo, bI, c_1])

set_option maxHeartbeats 2000000 in
set_option maxRecDepth 100000 in
theorem f_X2_vote (l : Launch) (D : va_G) (cI cZ cJ : ClassId) (sz : Nat) (hM : Nat) (hO : Nat) (hW : Nat) (hY : Nat) (th : Int32) (a : Nat → Int32) (q : Int32) (r : Int32) (hk : ¬ kVo a q r = 0) : Mi l D cI cZ cJ yX2_vote wsX2_vote 2 43 sz [.ref hM, .int q, .int r] [cM hM hO hW hY th a] [cM hM hO hW hY (kVo a q r) a] (0) := by
  refine mi_of (by decide) rfl (Nat.le_of_ble_eq_true rfl) (fun p e s m below meth c ls A hx hb hr hml hts hown hlocks hin hP hK hN hD hA hS hl => ?_)
  have hl : lv_has ls 3 [(0, .ref hM), (1, .int q), (2, .int r)] := hl
  refine lv_aload_n hx hb dX2_vote_0 rfl (lv_at hl 0 rfl) ?_
  refine lv_aload_n hx hb dX2_vote_1 rfl (lv_at hl 0 rfl) ?_
  refine va_get (D := D) (cl := vwCl) (ci := 2) (v := .int (a 0)) (C := RX2) (T := TX2) (N := 16) hx hb hts in_X2_vote_X2 hown hK hP 0 rfl rfl 1 (by decide) (hts (.fieldLink RX2 70 "WitchTrialModel" "phase" "I") (List.mem_of_getElem? (i := 1) rfl)) (fun _ h9 => h9) rfl dX2_vote_2 ?_
  refine lv_iconst (v := 1) hx hb dX2_vote_5 (by decide) ?_
  refine lv_icmp_eq (tgt := 13) hx hb dX2_vote_6 (by decide) (fun c_1 => ?_) (fun c_1 => ?_)
  · refine lv_aload_n hx hb dX2_vote_13 rfl (lv_at hl 0 rfl) ?_
    refine lv_iload_n hx hb dX2_vote_14 rfl (lv_at hl 1 rfl) ?_
    refine rd_V (b := hM) (As := [.int q]) (rest := [.ref hM]) ⟨hx, hb, hml, hown, hts⟩ (c_X2_isPlayer l D cI cZ cJ hM hO hW hY th a q) (cwV 1 hts gX2_vote_X2_isPlayer rfl rfl rfl (by decide +kernel) ⟨Nat.le_of_ble_eq_true rfl, Nat.le_of_ble_eq_true rfl⟩) (hP.sub (ws' := [cM hM hO hW hY th a]) [0] rfl) hK hN (va_recv hK hP (ci := 2) (q0 := 0) rfl rfl) rfl hl.1 rfl (Nat.le_of_ble_eq_true rfl) dX2_vote_15 ⟨Nat.le_of_ble_eq_true rfl, Nat.le_of_ble_eq_true rfl⟩ ?_
    refine lv_if_eq (tgt := 29) hx hb dX2_vote_18 (by decide) (fun c_2 => ?_) (fun c_2 => ?_)
    · have c_2 : (xPl a q) = false := bI_0 c_2
      refine lv_iconst (v := 2) hx hb dX2_vote_29 (by decide) ?_
      refine lv_goto (tgt := 60) hx hb dX2_vote_30 (by decide) ?_
      refine va_put (D := D) (cl := vwCl) (ci := 2) (v := .int 2) (ty := .int) (C := RX2) (T := TX2) (N := 16) hx hb hts in_X2_vote_X2 tyX2 tyX2_ok nmX2 hown hK hP hD hS 0 rfl rfl 0 (by decide) (hts (.fieldLink RX2 20 "WitchTrialModel" "thrown" "I") (List.mem_of_getElem? (i := 3) rfl)) (fun _ h9 => h9) rfl (by decide +kernel) rfl rfl (Nat.le_of_ble_eq_true rfl) dX2_vote_60 (fun H locs hP hD hS => ?_)
      have hP : va_P D vwCl [cM hM hO hW hY 2 a] H := hP
      have hD : va_D A [cM hM hO hW hY 2 a] := hD
      refine lv_aload_n hx hb dX2_vote_63 rfl (lv_at hl 0 rfl) ?_
      refine va_get (D := D) (cl := vwCl) (ci := 2) (v := .int 2) (C := RX2) (T := TX2) (N := 16) hx hb hts in_X2_vote_X2 hown hK hP 0 rfl rfl 0 (by decide) (hts (.fieldLink RX2 20 "WitchTrialModel" "thrown" "I") (List.mem_of_getElem? (i := 3) rfl)) (fun _ h9 => h9) rfl dX2_vote_64 ?_
      refine lv_if_le (tgt := 72) hx hb dX2_vote_67 (by decide) (fun c_3 => ?_) (fun c_3 => ?_)
      · exact absurd c_3 (by decide)
      · refine lv_iconst (v := 0) hx hb dX2_vote_70 (by decide) ?_
        have hP9 : va_P D vwCl [cM hM hO hW hY (kVo a q r) a] H := by
          have e9_0 : (kVo a q r) = 2 := by (first | rfl | (simp only [kVo, bI, c_1, c_2, eq_self, ↓reduceIte]; done) | (simp only [kVo, bI, c_1, c_2, eq_self, ↓reduceIte]; rfl) | (simp only [kVo, bI, eq_true c_1, c_2, eq_self, ↓reduceIte]; done) | (simp only [kVo, bI, eq_true c_1, c_2, eq_self, ↓reduceIte]; rfl) | (simp [kVo, bI, eq_true c_1, c_2]; done) | simp [kVo, bI, c_1, c_2])
          rw [e9_0]
          exact hP
        exact mi_iret hx hb hr hlocks hS (by rfl) hP9 dX2_vote_71
    · have c_2 : (xPl a q) = true := bI_1 c_2
      refine lv_aload_n hx hb dX2_vote_21 rfl (lv_at hl 0 rfl) ?_
      refine lv_iload_n hx hb dX2_vote_22 rfl (lv_at hl 2 rfl) ?_
      refine rd_V (b := hM) (As := [.int r]) (rest := [.ref hM]) ⟨hx, hb, hml, hown, hts⟩ (c_X2_isPlayer l D cI cZ cJ hM hO hW hY th a r) (cwV 1 hts gX2_vote_X2_isPlayer rfl rfl rfl (by decide +kernel) ⟨Nat.le_of_ble_eq_true rfl, Nat.le_of_ble_eq_true rfl⟩) (hP.sub (ws' := [cM hM hO hW hY th a]) [0] rfl) hK hN (va_recv hK hP (ci := 2) (q0 := 0) rfl rfl) rfl hl.1 rfl (Nat.le_of_ble_eq_true rfl) dX2_vote_23 ⟨Nat.le_of_ble_eq_true rfl, Nat.le_of_ble_eq_true rfl⟩ ?_
      refine lv_if_ne (tgt := 33) hx hb dX2_vote_26 (by decide) (fun c_4 => ?_) (fun c_4 => ?_)
      · have c_4 : (xPl a r) = true := bI_1 c_4
        refine lv_aload_n hx hb dX2_vote_33 rfl (lv_at hl 0 rfl) ?_
        refine va_get (D := D) (cl := vwCl) (ci := 2) (v := .int (a 6)) (C := RX2) (T := TX2) (N := 16) hx hb hts in_X2_vote_X2 hown hK hP 0 rfl rfl 7 (by decide) (hts (.fieldLink RX2 67 "WitchTrialModel" "alive" "I") (List.mem_of_getElem? (i := 2) rfl)) (fun _ h9 => h9) rfl dX2_vote_34 ?_
        refine lv_iload_n hx hb dX2_vote_37 rfl (lv_at hl 1 rfl) ?_
        refine rd_S (As := [.int (a 6), .int q]) (rest := [.ref hM]) ⟨hx, hb, hml, hown, hts⟩ (c_X2_has l D cI cZ cJ (a 6) q) (va_cwS 2 hts gX2_vote_X2_has rfl rfl rfl (by decide +kernel) ⟨Nat.le_of_ble_eq_true rfl, Nat.le_of_ble_eq_true rfl⟩) (hP.sub (ws' := []) [] rfl) hK hN rfl hl.1 rfl (Nat.le_of_ble_eq_true rfl) dX2_vote_38 ⟨Nat.le_of_ble_eq_true rfl, Nat.le_of_ble_eq_true rfl⟩ ?_
        refine lv_if_eq (tgt := 59) hx hb dX2_vote_41 (by decide) (fun c_5 => ?_) (fun c_5 => ?_)
        · have c_5 : (xHas (a 6) q) = false := bI_0 c_5
          refine lv_iconst (v := 3) hx hb dX2_vote_59 (by decide) ?_
          refine va_put (D := D) (cl := vwCl) (ci := 2) (v := .int 3) (ty := .int) (C := RX2) (T := TX2) (N := 16) hx hb hts in_X2_vote_X2 tyX2 tyX2_ok nmX2 hown hK hP hD hS 0 rfl rfl 0 (by decide) (hts (.fieldLink RX2 20 "WitchTrialModel" "thrown" "I") (List.mem_of_getElem? (i := 3) rfl)) (fun _ h9 => h9) rfl (by decide +kernel) rfl rfl (Nat.le_of_ble_eq_true rfl) dX2_vote_60 (fun H locs hP hD hS => ?_)
          have hP : va_P D vwCl [cM hM hO hW hY 3 a] H := hP
          have hD : va_D A [cM hM hO hW hY 3 a] := hD
          refine lv_aload_n hx hb dX2_vote_63 rfl (lv_at hl 0 rfl) ?_
          refine va_get (D := D) (cl := vwCl) (ci := 2) (v := .int 3) (C := RX2) (T := TX2) (N := 16) hx hb hts in_X2_vote_X2 hown hK hP 0 rfl rfl 0 (by decide) (hts (.fieldLink RX2 20 "WitchTrialModel" "thrown" "I") (List.mem_of_getElem? (i := 3) rfl)) (fun _ h9 => h9) rfl dX2_vote_64 ?_
          refine lv_if_le (tgt := 72) hx hb dX2_vote_67 (by decide) (fun c_6 => ?_) (fun c_6 => ?_)
          · exact absurd c_6 (by decide)
          · refine lv_iconst (v := 0) hx hb dX2_vote_70 (by decide) ?_
            have hP9 : va_P D vwCl [cM hM hO hW hY (kVo a q r) a] H := by
              have e9_0 : (kVo a q r) = 3 := by (first | rfl | (simp only [kVo, bI, c_1, c_2, c_4, c_5, eq_self, ↓reduceIte]; done) | (simp only [kVo, bI, c_1, c_2, c_4, c_5, eq_self, ↓reduceIte]; rfl) | (simp only [kVo, bI, eq_true c_1, c_2, c_4, c_5, eq_self, ↓reduceIte]; done) | (simp only [kVo, bI, eq_true c_1, c_2, c_4, c_5, eq_self, ↓reduceIte]; rfl) | (simp [kVo, bI, eq_true c_1, c_2, c_4, c_5]; done) | simp [kVo, bI, c_1, c_2, c_4, c_5])
              rw [e9_0]
              exact hP
            exact mi_iret hx hb hr hlocks hS (by rfl) hP9 dX2_vote_71
        · have c_5 : (xHas (a 6) q) = true := bI_1 c_5
          refine lv_aload_n hx hb dX2_vote_44 rfl (lv_at hl 0 rfl) ?_
          refine va_get (D := D) (cl := vwCl) (ci := 2) (v := .int (a 6)) (C := RX2) (T := TX2) (N := 16) hx hb hts in_X2_vote_X2 hown hK hP 0 rfl rfl 7 (by decide) (hts (.fieldLink RX2 67 "WitchTrialModel" "alive" "I") (List.mem_of_getElem? (i := 2) rfl)) (fun _ h9 => h9) rfl dX2_vote_45 ?_
          refine lv_iload_n hx hb dX2_vote_48 rfl (lv_at hl 2 rfl) ?_
          refine rd_S (As := [.int (a 6), .int r]) (rest := [.ref hM]) ⟨hx, hb, hml, hown, hts⟩ (c_X2_has l D cI cZ cJ (a 6) r) (va_cwS 2 hts gX2_vote_X2_has rfl rfl rfl (by decide +kernel) ⟨Nat.le_of_ble_eq_true rfl, Nat.le_of_ble_eq_true rfl⟩) (hP.sub (ws' := []) [] rfl) hK hN rfl hl.1 rfl (Nat.le_of_ble_eq_true rfl) dX2_vote_49 ⟨Nat.le_of_ble_eq_true rfl, Nat.le_of_ble_eq_true rfl⟩ ?_
          refine lv_if_eq (tgt := 59) hx hb dX2_vote_52 (by decide) (fun c_7 => ?_) (fun c_7 => ?_)
          · have c_7 : (xHas (a 6) r) = false := bI_0 c_7
            refine lv_iconst (v := 3) hx hb dX2_vote_59 (by decide) ?_
            refine va_put (D := D) (cl := vwCl) (ci := 2) (v := .int 3) (ty := .int) (C := RX2) (T := TX2) (N := 16) hx hb hts in_X2_vote_X2 tyX2 tyX2_ok nmX2 hown hK hP hD hS 0 rfl rfl 0 (by decide) (hts (.fieldLink RX2 20 "WitchTrialModel" "thrown" "I") (List.mem_of_getElem? (i := 3) rfl)) (fun _ h9 => h9) rfl (by decide +kernel) rfl rfl (Nat.le_of_ble_eq_true rfl) dX2_vote_60 (fun H locs hP hD hS => ?_)
            have hP : va_P D vwCl [cM hM hO hW hY 3 a] H := hP
            have hD : va_D A [cM hM hO hW hY 3 a] := hD
            refine lv_aload_n hx hb dX2_vote_63 rfl (lv_at hl 0 rfl) ?_
            refine va_get (D := D) (cl := vwCl) (ci := 2) (v := .int 3) (C := RX2) (T := TX2) (N := 16) hx hb hts in_X2_vote_X2 hown hK hP 0 rfl rfl 0 (by decide) (hts (.fieldLink RX2 20 "WitchTrialModel" "thrown" "I") (List.mem_of_getElem? (i := 3) rfl)) (fun _ h9 => h9) rfl dX2_vote_64 ?_
            refine lv_if_le (tgt := 72) hx hb dX2_vote_67 (by decide) (fun c_8 => ?_) (fun c_8 => ?_)
            · exact absurd c_8 (by decide)
            · refine lv_iconst (v := 0) hx hb dX2_vote_70 (by decide) ?_
              have hP9 : va_P D vwCl [cM hM hO hW hY (kVo a q r) a] H := by
                have e9_0 : (kVo a q r) = 3 := by (first | rfl | (simp only [kVo, bI, c_1, c_2, c_4, c_5, c_7, eq_self, ↓reduceIte]; done) | (simp only [kVo, bI, c_1, c_2, c_4, c_5, c_7, eq_self, ↓reduceIte]; rfl) | (simp only [kVo, bI, eq_true c_1, c_2, c_4, c_5, c_7, eq_self, ↓reduceIte]; done) | (simp only [kVo, bI, eq_true c_1, c_2, c_4, c_5, c_7, eq_self, ↓reduceIte]; rfl) | (simp [kVo, bI, eq_true c_1, c_2, c_4, c_5, c_7]; done) | simp [kVo, bI, c_1, c_2, c_4, c_5, c_7])
                rw [e9_0]
                exact hP
              exact mi_iret hx hb hr hlocks hS (by rfl) hP9 dX2_vote_71
          · have c_7 : (xHas (a 6) r) = true := bI_1 c_7
            refine lv_iconst (v := 0) hx hb dX2_vote_55 (by decide) ?_
            refine lv_goto (tgt := 60) hx hb dX2_vote_56 (by decide) ?_
            refine va_put (D := D) (cl := vwCl) (ci := 2) (v := .int 0) (ty := .int) (C := RX2) (T := TX2) (N := 16) hx hb hts in_X2_vote_X2 tyX2 tyX2_ok nmX2 hown hK hP hD hS 0 rfl rfl 0 (by decide) (hts (.fieldLink RX2 20 "WitchTrialModel" "thrown" "I") (List.mem_of_getElem? (i := 3) rfl)) (fun _ h9 => h9) rfl (by decide +kernel) rfl rfl (Nat.le_of_ble_eq_true rfl) dX2_vote_60 (fun H locs hP hD hS => ?_)
            have hP : va_P D vwCl [cM hM hO hW hY 0 a] H := hP
            have hD : va_D A [cM hM hO hW hY 0 a] := hD
            refine lv_aload_n hx hb dX2_vote_63 rfl (lv_at hl 0 rfl) ?_
            refine va_get (D := D) (cl := vwCl) (ci := 2) (v := .int 0) (C := RX2) (T := TX2) (N := 16) hx hb hts in_X2_vote_X2 hown hK hP 0 rfl rfl 0 (by decide) (hts (.fieldLink RX2 20 "WitchTrialModel" "thrown" "I") (List.mem_of_getElem? (i := 3) rfl)) (fun _ h9 => h9) rfl dX2_vote_64 ?_
            refine lv_if_le (tgt := 72) hx hb dX2_vote_67 (by decide) (fun c_9 => ?_) (fun c_9 => ?_)
            · exact absurd hk (by simp [kVo, bI, c_1, c_2, c_4, c_5, c_7])
            · exact absurd c_9 (by decide)
      · have c_4 : (xPl a r) = false := bI_0 c_4
        refine lv_iconst (v := 2) hx hb dX2_vote_29 (by decide) ?_
        refine lv_goto (tgt := 60) hx hb dX2_vote_30 (by decide) ?_
        refine va_put (D := D) (cl := vwCl) (ci := 2) (v := .int 2) (ty := .int) (C := RX2) (T := TX2) (N := 16) hx hb hts in_X2_vote_X2 tyX2 tyX2_ok nmX2 hown hK hP hD hS 0 rfl rfl 0 (by decide) (hts (.fieldLink RX2 20 "WitchTrialModel" "thrown" "I") (List.mem_of_getElem? (i := 3) rfl)) (fun _ h9 => h9) rfl (by decide +kernel) rfl rfl (Nat.le_of_ble_eq_true rfl) dX2_vote_60 (fun H locs hP hD hS => ?_)
        have hP : va_P D vwCl [cM hM hO hW hY 2 a] H := hP
        have hD : va_D A [cM hM hO hW hY 2 a] := hD
        refine lv_aload_n hx hb dX2_vote_63 rfl (lv_at hl 0 rfl) ?_
        refine va_get (D := D) (cl := vwCl) (ci := 2) (v := .int 2) (C := RX2) (T := TX2) (N := 16) hx hb hts in_X2_vote_X2 hown hK hP 0 rfl rfl 0 (by decide) (hts (.fieldLink RX2 20 "WitchTrialModel" "thrown" "I") (List.mem_of_getElem? (i := 3) rfl)) (fun _ h9 => h9) rfl dX2_vote_64 ?_
        refine lv_if_le (tgt := 72) hx hb dX2_vote_67 (by decide) (fun c_10 => ?_) (fun c_10 => ?_)
        · exact absurd c_10 (by decide)
        · refine lv_iconst (v := 0) hx hb dX2_vote_70 (by decide) ?_
          have hP9 : va_P D vwCl [cM hM hO hW hY (kVo a q r) a] H := by
            have e9_0 : (kVo a q r) = 2 := by (first | rfl | (simp only [kVo, bI, c_1, c_2, c_4, eq_self, ↓reduceIte]; done) | (simp only [kVo, bI, c_1, c_2, c_4, eq_self, ↓reduceIte]; rfl) | (simp only [kVo, bI, eq_true c_1, c_2, c_4, eq_self, ↓reduceIte]; done) | (simp only [kVo, bI, eq_true c_1, c_2, c_4, eq_self, ↓reduceIte]; rfl) | (simp [kVo, bI, eq_true c_1, c_2, c_4]; done) | simp [kVo, bI, c_1, c_2, c_4])
            rw [e9_0]
            exact hP
          exact mi_iret hx hb hr hlocks hS (by rfl) hP9 dX2_vote_71
  · refine lv_iconst (v := 1) hx hb dX2_vote_9 (by decide) ?_
    refine lv_goto (tgt := 60) hx hb dX2_vote_10 (by decide) ?_
    refine va_put (D := D) (cl := vwCl) (ci := 2) (v := .int 1) (ty := .int) (C := RX2) (T := TX2) (N := 16) hx hb hts in_X2_vote_X2 tyX2 tyX2_ok nmX2 hown hK hP hD hS 0 rfl rfl 0 (by decide) (hts (.fieldLink RX2 20 "WitchTrialModel" "thrown" "I") (List.mem_of_getElem? (i := 3) rfl)) (fun _ h9 => h9) rfl (by decide +kernel) rfl rfl (Nat.le_of_ble_eq_true rfl) dX2_vote_60 (fun H locs hP hD hS => ?_)
    have hP : va_P D vwCl [cM hM hO hW hY 1 a] H := hP
    have hD : va_D A [cM hM hO hW hY 1 a] := hD
    refine lv_aload_n hx hb dX2_vote_63 rfl (lv_at hl 0 rfl) ?_
    refine va_get (D := D) (cl := vwCl) (ci := 2) (v := .int 1) (C := RX2) (T := TX2) (N := 16) hx hb hts in_X2_vote_X2 hown hK hP 0 rfl rfl 0 (by decide) (hts (.fieldLink RX2 20 "WitchTrialModel" "thrown" "I") (List.mem_of_getElem? (i := 3) rfl)) (fun _ h9 => h9) rfl dX2_vote_64 ?_
    refine lv_if_le (tgt := 72) hx hb dX2_vote_67 (by decide) (fun c_11 => ?_) (fun c_11 => ?_)
    · exact absurd c_11 (by decide)
    · refine lv_iconst (v := 0) hx hb dX2_vote_70 (by decide) ?_
      have hP9 : va_P D vwCl [cM hM hO hW hY (kVo a q r) a] H := by
        have e9_0 : (kVo a q r) = 1 := by (first | rfl | (simp only [kVo, bI, c_1, eq_self, ↓reduceIte]; done) | (simp only [kVo, bI, c_1, eq_self, ↓reduceIte]; rfl) | simp [kVo, bI, c_1])
        rw [e9_0]
        exact hP
      exact mi_iret hx hb hr hlocks hS (by rfl) hP9 dX2_vote_71

theorem in_X2_dies_X2 : ∀ w ∈ wsX20, w ∈ wsX2_dies := by decide +kernel
set_option maxHeartbeats 2000000 in
set_option maxRecDepth 100000 in
theorem c_X2_dies (l : Launch) (D : va_G) (cI cZ cJ : ClassId) (sz : Nat) (hM : Nat) (hO : Nat) (hW : Nat) (hY : Nat) (th : Int32) (a : Nat → Int32) (o : Nat → Bool) (q : Int32)  : Mv l D cI cZ cJ yX2_dies wsX2_dies 2 42 sz [.ref hM, .int q] [cM hM hO hW hY th a, cA cZ hO 16384 (fun w => bI (o w))] [cM hM hO hW hY th (aDi a q), cA cZ hO 16384 (fun w => bI ((oUp (nDi a o q) o 16384) w))] := by
  refine mv_of (by decide) rfl (Nat.le_of_ble_eq_true rfl) (fun p e s m below meth c ls A hx hb hr hml hts hown hlocks hin hP hK hN hD hA hS hl => ?_)
  have hl : lv_has ls 4 [(0, .ref hM), (1, .int q)] := hl
  refine lv_aload_n hx hb dX2_dies_0 rfl (lv_at hl 0 rfl) ?_
  refine lv_dup hx hb dX2_dies_1 rfl ?_
  refine va_get (D := D) (cl := vwCl) (ci := 2) (v := .int (a 6)) (C := RX2) (T := TX2) (N := 16) hx hb hts in_X2_dies_X2 hown hK hP 0 rfl rfl 7 (by decide) (hts (.fieldLink RX2 67 "WitchTrialModel" "alive" "I") (List.mem_of_getElem? (i := 1) rfl)) (fun _ h9 => h9) rfl dX2_dies_2 ?_
  refine lv_iconst (v := 1) hx hb dX2_dies_5 (by decide) ?_
  refine lv_iload_n hx hb dX2_dies_6 rfl (lv_at hl 1 rfl) ?_
  refine lv_ishl hx hb dX2_dies_7 ?_
  refine lv_iconst (v := (-1)) hx hb dX2_dies_8 (by decide) ?_
  refine lv_ixor hx hb dX2_dies_9 ?_
  refine lv_iand hx hb dX2_dies_10 ?_
  refine va_put (D := D) (cl := vwCl) (ci := 2) (v := .int ((a 6) &&& (((1 : Int32) <<< (q &&& 31)) ^^^ (-1)))) (ty := .int) (C := RX2) (T := TX2) (N := 16) hx hb hts in_X2_dies_X2 tyX2 tyX2_ok nmX2 hown hK hP hD hS 0 rfl rfl 7 (by decide) (hts (.fieldLink RX2 67 "WitchTrialModel" "alive" "I") (List.mem_of_getElem? (i := 1) rfl)) (fun _ h9 => h9) rfl (by decide +kernel) rfl rfl (Nat.le_of_ble_eq_true rfl) dX2_dies_11 (fun H locs hP hD hS => ?_)
  have hP : va_P D vwCl [cM hM hO hW hY th (upd a 6 ((a 6) &&& (((1 : Int32) <<< (q &&& 31)) ^^^ (-1)))), cA cZ hO 16384 (fun w => bI (o w))] H := hP
  have hD : va_D A [cM hM hO hW hY th (upd a 6 ((a 6) &&& (((1 : Int32) <<< (q &&& 31)) ^^^ (-1)))), cA cZ hO 16384 (fun w => bI (o w))] := hD
  refine lv_aload_n hx hb dX2_dies_14 rfl (lv_at hl 0 rfl) ?_
  refine rd_V (b := hM) (As := []) (rest := []) ⟨hx, hb, hml, hown, hts⟩ (c_X2_truth l D cI cZ cJ hM hO hW hY th (upd a 6 ((a 6) &&& (((1 : Int32) <<< (q &&& 31)) ^^^ (-1))))) (cwV 0 hts gX2_dies_X2_truth rfl rfl rfl (by decide +kernel) ⟨Nat.le_of_ble_eq_true rfl, Nat.le_of_ble_eq_true rfl⟩) (hP.sub (ws' := [cM hM hO hW hY th (upd a 6 ((a 6) &&& (((1 : Int32) <<< (q &&& 31)) ^^^ (-1))))]) [0] rfl) hK hN (va_recv hK hP (ci := 2) (q0 := 0) rfl rfl) rfl hl.1 rfl (Nat.le_of_ble_eq_true rfl) dX2_dies_15 ⟨Nat.le_of_ble_eq_true rfl, Nat.le_of_ble_eq_true rfl⟩ ?_
  refine lv_iload_n hx hb dX2_dies_18 rfl (lv_at hl 1 rfl) ?_
  refine rd_S (As := [.int (xTr (upd a 6 ((a 6) &&& (((1 : Int32) <<< (q &&& 31)) ^^^ (-1))))), .int q]) (rest := []) ⟨hx, hb, hml, hown, hts⟩ (c_X2_roleIn l D cI cZ cJ (xTr (upd a 6 ((a 6) &&& (((1 : Int32) <<< (q &&& 31)) ^^^ (-1))))) q) (va_cwS 2 hts gX2_dies_X2_roleIn rfl rfl rfl (by decide +kernel) ⟨Nat.le_of_ble_eq_true rfl, Nat.le_of_ble_eq_true rfl⟩) (hP.sub (ws' := []) [] rfl) hK hN rfl hl.1 rfl (Nat.le_of_ble_eq_true rfl) dX2_dies_19 ⟨Nat.le_of_ble_eq_true rfl, Nat.le_of_ble_eq_true rfl⟩ ?_
  refine lv_istore_n (lv' := [(2, .int (xRole (xTr (upd a 6 ((a 6) &&& (((1 : Int32) <<< (q &&& 31)) ^^^ (-1))))) q)), (0, .ref hM), (1, .int q)]) hx hb dX2_dies_22 rfl hl (by decide) rfl (fun ls hl => ?_)
  refine lv_iconst (v := 0) hx hb dX2_dies_23 (by decide) ?_
  refine lv_istore_n (lv' := [(3, .int 0), (2, .int (xRole (xTr (upd a 6 ((a 6) &&& (((1 : Int32) <<< (q &&& 31)) ^^^ (-1))))) q)), (0, .ref hM), (1, .int q)]) hx hb dX2_dies_24 rfl hl (by decide) rfl (fun ls hl => ?_)
  refine loop_M (D := D) (nL := 4) (h := 25) 16384 (fun i => [(0, .ref hM), (1, .int q), (2, .int (xRole (xTr a) q)), (3, .int (nI i))]) (fun i => [cM hM hO hW hY th (upd a 6 ((a 6) &&& (((1 : Int32) <<< (q &&& 31)) ^^^ (-1)))), cA cZ hO 16384 (fun w => bI ((oUp (nDi a o q) o i) w))]) (fun _ => True) (fun i hi hI ih_i H locs ls hP hD hS hl => ?_) 0 (by omega) trivial _ _ ls ?_ ?_ hS ?_
  · have hl : lv_has ls 4 [(0, .ref hM), (1, .int q), (2, .int (xRole (xTr a) q)), (3, .int (nI i))] := hl
    have hP : va_P D vwCl [cM hM hO hW hY th (upd a 6 ((a 6) &&& (((1 : Int32) <<< (q &&& 31)) ^^^ (-1)))), cA cZ hO 16384 (fun w => bI ((oUp (nDi a o q) o i) w))] H := hP
    have hD : va_D A [cM hM hO hW hY th (upd a 6 ((a 6) &&& (((1 : Int32) <<< (q &&& 31)) ^^^ (-1)))), cA cZ hO 16384 (fun w => bI ((oUp (nDi a o q) o i) w))] := hD
    refine lv_iload_n hx hb dX2_dies_25 rfl (lv_at hl 3 rfl) ?_
    refine lv_sipush (v := 16384) hx hb dX2_dies_26 (by decide) ?_
    refine lv_icmp_ge (tgt := 67) hx hb dX2_dies_29 (by decide) (fun c_2 => ?_) (fun c_2 => ?_)
    · have hi9 : 16384 = i := (geN hi (by omega) rfl c_2).symm
      subst hi9
      refine lv_aload_n hx hb dX2_dies_67 rfl (lv_at hl 0 rfl) ?_
      refine va_get (D := D) (cl := vwCl) (ci := 2) (v := .int ((a 6) &&& (((1 : Int32) <<< (q &&& 31)) ^^^ (-1)))) (C := RX2) (T := TX2) (N := 16) hx hb hts in_X2_dies_X2 hown hK hP 0 rfl rfl 7 (by decide) (hts (.fieldLink RX2 67 "WitchTrialModel" "alive" "I") (List.mem_of_getElem? (i := 1) rfl)) (fun _ h9 => h9) rfl dX2_dies_68 ?_
      refine lv_aload_n hx hb dX2_dies_71 rfl (lv_at hl 0 rfl) ?_
      refine va_get (D := D) (cl := vwCl) (ci := 2) (v := .int (a 3)) (C := RX2) (T := TX2) (N := 16) hx hb hts in_X2_dies_X2 hown hK hP 0 rfl rfl 3 (by decide) (hts (.fieldLink RX2 43 "WitchTrialModel" "witches" "I") (List.mem_of_getElem? (i := 3) rfl)) (fun _ h9 => h9) rfl dX2_dies_72 ?_
      refine lv_iand hx hb dX2_dies_75 ?_
      refine rd_S (As := [.int (((a 6) &&& (((1 : Int32) <<< (q &&& 31)) ^^^ (-1))) &&& (a 3))]) (rest := []) ⟨hx, hb, hml, hown, hts⟩ (c_X2_bits l D cI cZ cJ (((a 6) &&& (((1 : Int32) <<< (q &&& 31)) ^^^ (-1))) &&& (a 3))) (va_cwS 1 hts gX2_dies_X2_bits rfl rfl rfl (by decide +kernel) ⟨Nat.le_of_ble_eq_true rfl, Nat.le_of_ble_eq_true rfl⟩) (hP.sub (ws' := []) [] rfl) hK hN rfl hl.1 rfl (Nat.le_of_ble_eq_true rfl) dX2_dies_76 ⟨Nat.le_of_ble_eq_true rfl, Nat.le_of_ble_eq_true rfl⟩ ?_
      refine lv_istore_n (lv' := [(3, .int (xBits (((a 6) &&& (((1 : Int32) <<< (q &&& 31)) ^^^ (-1))) &&& (a 3)) 8)), (0, .ref hM), (1, .int q), (2, .int (xRole (xTr a) q))]) hx hb dX2_dies_79 rfl hl (by decide) rfl (fun ls hl => ?_)
      refine lv_aload_n hx hb dX2_dies_80 rfl (lv_at hl 1 rfl) ?_
      refine lv_iload_n hx hb dX2_dies_81 rfl (lv_at hl 0 rfl) ?_
      refine lv_if_ne (tgt := 89) hx hb dX2_dies_82 (by decide) (fun c_3 => ?_) (fun c_3 => ?_)
      · refine lv_iconst (v := 2) hx hb dX2_dies_89 (by decide) ?_
        refine lv_iload_n hx hb dX2_dies_90 rfl (lv_at hl 0 rfl) ?_
        refine lv_imul hx hb dX2_dies_91 ?_
        refine lv_aload_n hx hb dX2_dies_92 rfl (lv_at hl 1 rfl) ?_
        refine va_get (D := D) (cl := vwCl) (ci := 2) (v := .int ((a 6) &&& (((1 : Int32) <<< (q &&& 31)) ^^^ (-1)))) (C := RX2) (T := TX2) (N := 16) hx hb hts in_X2_dies_X2 hown hK hP 0 rfl rfl 7 (by decide) (hts (.fieldLink RX2 67 "WitchTrialModel" "alive" "I") (List.mem_of_getElem? (i := 1) rfl)) (fun _ h9 => h9) rfl dX2_dies_93 ?_
        refine rd_S (As := [.int ((a 6) &&& (((1 : Int32) <<< (q &&& 31)) ^^^ (-1)))]) (rest := [.int (2 * (xBits (((a 6) &&& (((1 : Int32) <<< (q &&& 31)) ^^^ (-1))) &&& (a 3)) 8)), .ref hM]) ⟨hx, hb, hml, hown, hts⟩ (c_X2_bits l D cI cZ cJ ((a 6) &&& (((1 : Int32) <<< (q &&& 31)) ^^^ (-1)))) (va_cwS 1 hts gX2_dies_X2_bits rfl rfl rfl (by decide +kernel) ⟨Nat.le_of_ble_eq_true rfl, Nat.le_of_ble_eq_true rfl⟩) (hP.sub (ws' := []) [] rfl) hK hN rfl hl.1 rfl (Nat.le_of_ble_eq_true rfl) dX2_dies_96 ⟨Nat.le_of_ble_eq_true rfl, Nat.le_of_ble_eq_true rfl⟩ ?_
        refine lv_icmp_lt (tgt := 106) hx hb dX2_dies_99 (by decide) (fun c_4 => ?_) (fun c_4 => ?_)
        · refine lv_aload_n hx hb dX2_dies_106 rfl (lv_at hl 1 rfl) ?_
          refine va_get (D := D) (cl := vwCl) (ci := 2) (v := .int (a 0)) (C := RX2) (T := TX2) (N := 16) hx hb hts in_X2_dies_X2 hown hK hP 0 rfl rfl 1 (by decide) (hts (.fieldLink RX2 70 "WitchTrialModel" "phase" "I") (List.mem_of_getElem? (i := 4) rfl)) (fun _ h9 => h9) rfl dX2_dies_107 ?_
          refine va_put (D := D) (cl := vwCl) (ci := 2) (v := .int (a 0)) (ty := .int) (C := RX2) (T := TX2) (N := 16) hx hb hts in_X2_dies_X2 tyX2 tyX2_ok nmX2 hown hK hP hD hS 0 rfl rfl 1 (by decide) (hts (.fieldLink RX2 70 "WitchTrialModel" "phase" "I") (List.mem_of_getElem? (i := 4) rfl)) (fun _ h9 => h9) rfl (by decide +kernel) rfl rfl (Nat.le_of_ble_eq_true rfl) dX2_dies_110 (fun H locs hP hD hS => ?_)
          have hP : va_P D vwCl [cM hM hO hW hY th (upd (upd a 6 ((a 6) &&& (((1 : Int32) <<< (q &&& 31)) ^^^ (-1)))) 0 (a 0)), cA cZ hO 16384 (fun w => bI ((oUp (nDi a o q) o 16384) w))] H := hP
          have hD : va_D A [cM hM hO hW hY th (upd (upd a 6 ((a 6) &&& (((1 : Int32) <<< (q &&& 31)) ^^^ (-1)))) 0 (a 0)), cA cZ hO 16384 (fun w => bI ((oUp (nDi a o q) o 16384) w))] := hD
          have hP9 : va_P D vwCl [cM hM hO hW hY th (aDi a q), cA cZ hO 16384 (fun w => bI ((oUp (nDi a o q) o 16384) w))] H := by
            have e9_0 : (aDi a q) = (upd (upd a 6 ((a 6) &&& (((1 : Int32) <<< (q &&& 31)) ^^^ (-1)))) 0 (a 0)) := by (first | rfl | (simp only [aDi, aAl, nDi, bI, c_3, c_4, eq_self, ↓reduceIte]; done) | (simp only [aDi, aAl, nDi, bI, c_3, c_4, eq_self, ↓reduceIte]; rfl) | simp [aDi, aAl, nDi, bI, c_3, c_4])
            rw [e9_0]
            exact hP
          exact mv_ret hx hb hr hlocks hS hP9 dX2_dies_113
        · refine lv_iconst (v := 4) hx hb dX2_dies_102 (by decide) ?_
          refine lv_goto (tgt := 110) hx hb dX2_dies_103 (by decide) ?_
          refine va_put (D := D) (cl := vwCl) (ci := 2) (v := .int 4) (ty := .int) (C := RX2) (T := TX2) (N := 16) hx hb hts in_X2_dies_X2 tyX2 tyX2_ok nmX2 hown hK hP hD hS 0 rfl rfl 1 (by decide) (hts (.fieldLink RX2 70 "WitchTrialModel" "phase" "I") (List.mem_of_getElem? (i := 4) rfl)) (fun _ h9 => h9) rfl (by decide +kernel) rfl rfl (Nat.le_of_ble_eq_true rfl) dX2_dies_110 (fun H locs hP hD hS => ?_)
          have hP : va_P D vwCl [cM hM hO hW hY th (upd (upd a 6 ((a 6) &&& (((1 : Int32) <<< (q &&& 31)) ^^^ (-1)))) 0 4), cA cZ hO 16384 (fun w => bI ((oUp (nDi a o q) o 16384) w))] H := hP
          have hD : va_D A [cM hM hO hW hY th (upd (upd a 6 ((a 6) &&& (((1 : Int32) <<< (q &&& 31)) ^^^ (-1)))) 0 4), cA cZ hO 16384 (fun w => bI ((oUp (nDi a o q) o 16384) w))] := hD
          have hP9 : va_P D vwCl [cM hM hO hW hY th (aDi a q), cA cZ hO 16384 (fun w => bI ((oUp (nDi a o q) o 16384) w))] H := by
            have e9_0 : (aDi a q) = (upd (upd a 6 ((a 6) &&& (((1 : Int32) <<< (q &&& 31)) ^^^ (-1)))) 0 4) := by (first | rfl | (simp only [aDi, aAl, nDi, bI, c_3, c_4, eq_self, ↓reduceIte]; done) | (simp only [aDi, aAl, nDi, bI, c_3, c_4, eq_self, ↓reduceIte]; rfl) | simp [aDi, aAl, nDi, bI, c_3, c_4])
            rw [e9_0]
            exact hP
          exact mv_ret hx hb hr hlocks hS hP9 dX2_dies_113
      · refine lv_iconst (v := 3) hx hb dX2_dies_85 (by decide) ?_
        refine lv_goto (tgt := 110) hx hb dX2_dies_86 (by decide) ?_
        refine va_put (D := D) (cl := vwCl) (ci := 2) (v := .int 3) (ty := .int) (C := RX2) (T := TX2) (N := 16) hx hb hts in_X2_dies_X2 tyX2 tyX2_ok nmX2 hown hK hP hD hS 0 rfl rfl 1 (by decide) (hts (.fieldLink RX2 70 "WitchTrialModel" "phase" "I") (List.mem_of_getElem? (i := 4) rfl)) (fun _ h9 => h9) rfl (by decide +kernel) rfl rfl (Nat.le_of_ble_eq_true rfl) dX2_dies_110 (fun H locs hP hD hS => ?_)
        have hP : va_P D vwCl [cM hM hO hW hY th (upd (upd a 6 ((a 6) &&& (((1 : Int32) <<< (q &&& 31)) ^^^ (-1)))) 0 3), cA cZ hO 16384 (fun w => bI ((oUp (nDi a o q) o 16384) w))] H := hP
        have hD : va_D A [cM hM hO hW hY th (upd (upd a 6 ((a 6) &&& (((1 : Int32) <<< (q &&& 31)) ^^^ (-1)))) 0 3), cA cZ hO 16384 (fun w => bI ((oUp (nDi a o q) o 16384) w))] := hD
        have hP9 : va_P D vwCl [cM hM hO hW hY th (aDi a q), cA cZ hO 16384 (fun w => bI ((oUp (nDi a o q) o 16384) w))] H := by
          have e9_0 : (aDi a q) = (upd (upd a 6 ((a 6) &&& (((1 : Int32) <<< (q &&& 31)) ^^^ (-1)))) 0 3) := by (first | rfl | (simp only [aDi, aAl, nDi, bI, c_3, eq_self, ↓reduceIte]; done) | (simp only [aDi, aAl, nDi, bI, c_3, eq_self, ↓reduceIte]; rfl) | (simp only [aDi, aAl, nDi, bI, eq_true c_3, eq_self, ↓reduceIte]; done) | (simp only [aDi, aAl, nDi, bI, eq_true c_3, eq_self, ↓reduceIte]; rfl) | (simp [aDi, aAl, nDi, bI, eq_true c_3]; done) | simp [aDi, aAl, nDi, bI, c_3])
          rw [e9_0]
          exact hP
        exact mv_ret hx hb hr hlocks hS hP9 dX2_dies_113
    · have hlt : i < 16384 := ltN hi (by omega) rfl c_2
      refine lv_aload_n hx hb dX2_dies_32 rfl (lv_at hl 0 rfl) ?_
      refine va_get (D := D) (cl := vwCl) (ci := 2) (v := .ref hO) (C := RX2) (T := TX2) (N := 16) hx hb hts in_X2_dies_X2 hown hK hP 0 rfl rfl 6 (by decide) (hts (.fieldLink RX2 7 "WitchTrialModel" "isOpen" "[Z") (List.mem_of_getElem? (i := 2) rfl)) (fun _ h9 => h9) rfl dX2_dies_33 ?_
      refine lv_iload_n hx hb dX2_dies_36 rfl (lv_at hl 3 rfl) ?_
      refine lv_aload_n hx hb dX2_dies_37 rfl (lv_at hl 0 rfl) ?_
      refine va_get (D := D) (cl := vwCl) (ci := 2) (v := .ref hO) (C := RX2) (T := TX2) (N := 16) hx hb hts in_X2_dies_X2 hown hK hP 0 rfl rfl 6 (by decide) (hts (.fieldLink RX2 7 "WitchTrialModel" "isOpen" "[Z") (List.mem_of_getElem? (i := 2) rfl)) (fun _ h9 => h9) rfl dX2_dies_38 ?_
      refine lv_iload_n hx hb dX2_dies_41 rfl (lv_at hl 3 rfl) ?_
      refine q_zald (D := D) (j := i) (v := (bI (o i))) hx hb hK hP 1 1 rfl rfl (by omega) (Nat.le_of_ble_eq_true rfl) (congrArg bI (oUp_at _ _ _)) dX2_dies_42 ?_
      refine lv_if_eq (tgt := 59) hx hb dX2_dies_43 (by decide) (fun c_5 => ?_) (fun c_5 => ?_)
      · have c_5 : (o i) = false := bI_0 c_5
        refine lv_iconst (v := 0) hx hb dX2_dies_59 (by decide) ?_
        refine q_zast (D := D) (j := i) hx hb hK hP hD hS 1 1 rfl rfl (by omega) (Nat.le_of_ble_eq_true rfl) dX2_dies_60 (fun H locs hP hD hS => ?_)
        have hP : va_P D vwCl [cM hM hO hW hY th (upd a 6 ((a 6) &&& (((1 : Int32) <<< (q &&& 31)) ^^^ (-1)))), cA cZ hO 16384 (upd (fun w => bI ((oUp (nDi a o q) o i) w)) i (vp_nar .boolean 0))] H := hP
        have hD : va_D A [cM hM hO hW hY th (upd a 6 ((a 6) &&& (((1 : Int32) <<< (q &&& 31)) ^^^ (-1)))), cA cZ hO 16384 (upd (fun w => bI ((oUp (nDi a o q) o i) w)) i (vp_nar .boolean 0))] := hD
        refine lv_iinc (v := (nI (i + 1))) (lv' := [(3, .int (nI (i + 1))), (0, .ref hM), (1, .int q), (2, .int (xRole (xTr a) q))]) hx hb dX2_dies_61 hl (k := 3) rfl (nI_1 i) (by decide) rfl (fun ls hl => ?_)
        refine lv_goto (tgt := 25) hx hb dX2_dies_64 (by decide) ?_
        have ew_0 : (fun w => bI ((oUp (nDi a o q) o (i + 1)) w)) = (upd (fun w => bI ((oUp (nDi a o q) o i) w)) i (vp_nar .boolean 0)) := by exact oUp_step (by (first | rfl | (simp only [aDi, aAl, nDi, bI, oUp_at, c_2, c_5, eq_self, ↓reduceIte]; done) | (simp only [aDi, aAl, nDi, bI, oUp_at, c_2, c_5, eq_self, ↓reduceIte]; rfl) | simp [aDi, aAl, nDi, bI, oUp_at, c_2, c_5]))
        exact ih_i (by omega) trivial _ _ ls (by show va_P D vwCl [cM hM hO hW hY th (upd a 6 ((a 6) &&& (((1 : Int32) <<< (q &&& 31)) ^^^ (-1)))), cA cZ hO 16384 (fun w => bI ((oUp (nDi a o q) o (i + 1)) w))] _; rw [ew_0]; exact hP) (by show va_D A [cM hM hO hW hY th (upd a 6 ((a 6) &&& (((1 : Int32) <<< (q &&& 31)) ^^^ (-1)))), cA cZ hO 16384 (fun w => bI ((oUp (nDi a o q) o (i + 1)) w))]; rw [ew_0]; exact hD) hS (by show lv_has ls 4 [(0, .ref hM), (1, .int q), (2, .int (xRole (xTr a) q)), (3, .int (nI (i + 1)))]; exact lv_sub hl [1, 2, 3, 0] rfl)
      · have c_5 : (o i) = true := bI_1 c_5
        refine lv_iload_n hx hb dX2_dies_46 rfl (lv_at hl 3 rfl) ?_
        refine lv_iload_n hx hb dX2_dies_47 rfl (lv_at hl 1 rfl) ?_
        refine rd_S (As := [.int (nI i), .int q]) (rest := [.int (nI i), .ref hO]) ⟨hx, hb, hml, hown, hts⟩ (c_X2_roleIn l D cI cZ cJ (nI i) q) (va_cwS 2 hts gX2_dies_X2_roleIn rfl rfl rfl (by decide +kernel) ⟨Nat.le_of_ble_eq_true rfl, Nat.le_of_ble_eq_true rfl⟩) (hP.sub (ws' := []) [] rfl) hK hN rfl hl.1 rfl (Nat.le_of_ble_eq_true rfl) dX2_dies_48 ⟨Nat.le_of_ble_eq_true rfl, Nat.le_of_ble_eq_true rfl⟩ ?_
        refine lv_iload_n hx hb dX2_dies_51 rfl (lv_at hl 2 rfl) ?_
        refine lv_icmp_ne (tgt := 59) hx hb dX2_dies_52 (by decide) (fun c_6 => ?_) (fun c_6 => ?_)
        · refine lv_iconst (v := 0) hx hb dX2_dies_59 (by decide) ?_
          refine q_zast (D := D) (j := i) hx hb hK hP hD hS 1 1 rfl rfl (by omega) (Nat.le_of_ble_eq_true rfl) dX2_dies_60 (fun H locs hP hD hS => ?_)
          have hP : va_P D vwCl [cM hM hO hW hY th (upd a 6 ((a 6) &&& (((1 : Int32) <<< (q &&& 31)) ^^^ (-1)))), cA cZ hO 16384 (upd (fun w => bI ((oUp (nDi a o q) o i) w)) i (vp_nar .boolean 0))] H := hP
          have hD : va_D A [cM hM hO hW hY th (upd a 6 ((a 6) &&& (((1 : Int32) <<< (q &&& 31)) ^^^ (-1)))), cA cZ hO 16384 (upd (fun w => bI ((oUp (nDi a o q) o i) w)) i (vp_nar .boolean 0))] := hD
          refine lv_iinc (v := (nI (i + 1))) (lv' := [(3, .int (nI (i + 1))), (0, .ref hM), (1, .int q), (2, .int (xRole (xTr a) q))]) hx hb dX2_dies_61 hl (k := 3) rfl (nI_1 i) (by decide) rfl (fun ls hl => ?_)
          refine lv_goto (tgt := 25) hx hb dX2_dies_64 (by decide) ?_
          have ew_0 : (fun w => bI ((oUp (nDi a o q) o (i + 1)) w)) = (upd (fun w => bI ((oUp (nDi a o q) o i) w)) i (vp_nar .boolean 0)) := by exact oUp_step (by (first | rfl | (simp only [aDi, aAl, nDi, bI, oUp_at, c_2, c_5, c_6, eq_self, ↓reduceIte]; done) | (simp only [aDi, aAl, nDi, bI, oUp_at, c_2, c_5, c_6, eq_self, ↓reduceIte]; rfl) | simp [aDi, aAl, nDi, bI, oUp_at, c_2, c_5, c_6]))
          exact ih_i (by omega) trivial _ _ ls (by show va_P D vwCl [cM hM hO hW hY th (upd a 6 ((a 6) &&& (((1 : Int32) <<< (q &&& 31)) ^^^ (-1)))), cA cZ hO 16384 (fun w => bI ((oUp (nDi a o q) o (i + 1)) w))] _; rw [ew_0]; exact hP) (by show va_D A [cM hM hO hW hY th (upd a 6 ((a 6) &&& (((1 : Int32) <<< (q &&& 31)) ^^^ (-1)))), cA cZ hO 16384 (fun w => bI ((oUp (nDi a o q) o (i + 1)) w))]; rw [ew_0]; exact hD) hS (by show lv_has ls 4 [(0, .ref hM), (1, .int q), (2, .int (xRole (xTr a) q)), (3, .int (nI (i + 1)))]; exact lv_sub hl [1, 2, 3, 0] rfl)
        · refine lv_iconst (v := 1) hx hb dX2_dies_55 (by decide) ?_
          refine lv_goto (tgt := 60) hx hb dX2_dies_56 (by decide) ?_
          refine q_zast (D := D) (j := i) hx hb hK hP hD hS 1 1 rfl rfl (by omega) (Nat.le_of_ble_eq_true rfl) dX2_dies_60 (fun H locs hP hD hS => ?_)
          have hP : va_P D vwCl [cM hM hO hW hY th (upd a 6 ((a 6) &&& (((1 : Int32) <<< (q &&& 31)) ^^^ (-1)))), cA cZ hO 16384 (upd (fun w => bI ((oUp (nDi a o q) o i) w)) i (vp_nar .boolean 1))] H := hP
          have hD : va_D A [cM hM hO hW hY th (upd a 6 ((a 6) &&& (((1 : Int32) <<< (q &&& 31)) ^^^ (-1)))), cA cZ hO 16384 (upd (fun w => bI ((oUp (nDi a o q) o i) w)) i (vp_nar .boolean 1))] := hD
          refine lv_iinc (v := (nI (i + 1))) (lv' := [(3, .int (nI (i + 1))), (0, .ref hM), (1, .int q), (2, .int (xRole (xTr a) q))]) hx hb dX2_dies_61 hl (k := 3) rfl (nI_1 i) (by decide) rfl (fun ls hl => ?_)
          refine lv_goto (tgt := 25) hx hb dX2_dies_64 (by decide) ?_
          have ew_0 : (fun w => bI ((oUp (nDi a o q) o (i + 1)) w)) = (upd (fun w => bI ((oUp (nDi a o q) o i) w)) i (vp_nar .boolean 1)) := by exact oUp_step (by (first | rfl | (simp only [aDi, aAl, nDi, bI, oUp_at, c_2, c_5, c_6, eq_self, ↓reduceIte]; done) | (simp only [aDi, aAl, nDi, bI, oUp_at, c_2, c_5, c_6, eq_self, ↓reduceIte]; rfl) | (simp only [aDi, aAl, nDi, bI, oUp_at, c_2, c_5, eq_true c_6, eq_self, ↓reduceIte]; done) | (simp only [aDi, aAl, nDi, bI, oUp_at, c_2, c_5, eq_true c_6, eq_self, ↓reduceIte]; rfl) | (simp [aDi, aAl, nDi, bI, oUp_at, c_2, c_5, eq_true c_6]; done) | simp [aDi, aAl, nDi, bI, oUp_at, c_2, c_5, c_6]))
          exact ih_i (by omega) trivial _ _ ls (by show va_P D vwCl [cM hM hO hW hY th (upd a 6 ((a 6) &&& (((1 : Int32) <<< (q &&& 31)) ^^^ (-1)))), cA cZ hO 16384 (fun w => bI ((oUp (nDi a o q) o (i + 1)) w))] _; rw [ew_0]; exact hP) (by show va_D A [cM hM hO hW hY th (upd a 6 ((a 6) &&& (((1 : Int32) <<< (q &&& 31)) ^^^ (-1)))), cA cZ hO 16384 (fun w => bI ((oUp (nDi a o q) o (i + 1)) w))]; rw [ew_0]; exact hD) hS (by show lv_has ls 4 [(0, .ref hM), (1, .int q), (2, .int (xRole (xTr a) q)), (3, .int (nI (i + 1)))]; exact lv_sub hl [1, 2, 3, 0] rfl)
  · show va_P D vwCl [cM hM hO hW hY th (upd a 6 ((a 6) &&& (((1 : Int32) <<< (q &&& 31)) ^^^ (-1)))), cA cZ hO 16384 (fun w => bI ((oUp (nDi a o q) o 0) w))] _
    have ez_0 : (fun w => bI ((oUp (nDi a o q) o 0) w)) = (fun w => bI (o w)) := by rw [oUp_0]
    rw [ez_0]
    exact hP
  · show va_D A [cM hM hO hW hY th (upd a 6 ((a 6) &&& (((1 : Int32) <<< (q &&& 31)) ^^^ (-1)))), cA cZ hO 16384 (fun w => bI ((oUp (nDi a o q) o 0) w))]
    have ez_0 : (fun w => bI ((oUp (nDi a o q) o 0) w)) = (fun w => bI (o w)) := by rw [oUp_0]
    rw [ez_0]
    exact hD
  · show lv_has ls 4 [(0, .ref hM), (1, .int q), (2, .int (xRole (xTr a) q)), (3, .int (nI 0))]
    have en_0 : (xRole (xTr a) q) = (xRole (xTr (upd a 6 ((a 6) &&& (((1 : Int32) <<< (q &&& 31)) ^^^ (-1))))) q) := by (first | rfl | (simp only [aDi, aAl, nDi, bI, eq_self, ↓reduceIte]; done) | (simp only [aDi, aAl, nDi, bI, eq_self, ↓reduceIte]; rfl) | simp [aDi, aAl, nDi, bI])
    rw [en_0]
    have en_1 : (nI 0) = 0 := by exact nI_0
    rw [en_1]
    exact lv_sub hl [2, 3, 1, 0] rfl

theorem in_X2_closeVote_X2 : ∀ w ∈ wsX20, w ∈ wsX2_closeVote := by decide +kernel
set_option maxHeartbeats 2000000 in
set_option maxRecDepth 100000 in
theorem c_X2_closeVote (l : Launch) (D : va_G) (cI cZ cJ : ClassId) (sz : Nat) (hM : Nat) (hO : Nat) (hW : Nat) (hY : Nat) (th : Int32) (a : Nat → Int32) (o : Nat → Bool) (v : Nat → Int32) (n : Nat) (hn : a 2 = nI n) (hn8 : n ≤ 8) (hk : a 0 = 1) : Mi l D cI cZ cJ yX2_closeVote wsX2_closeVote 3 65 sz [.ref hM] [cM hM hO hW hY th a, cA cZ hO 16384 (fun w => bI (o w)), cA cI hW 8 v] [cM hM hO hW hY 0 (aCv a (xBM v n).1), cA cZ hO 16384 (fun w => bI ((oDi (aF a) o (xBM v n).1) w)), cA cI hW 8 (iUp vM v 8)] ((xBM v n).1) := by
  refine mi_of (by decide) rfl (Nat.le_of_ble_eq_true rfl) (fun p e s m below meth c ls A hx hb hr hml hts hown hlocks hin hP hK hN hD hA hS hl => ?_)
  have hl : lv_has ls 5 [(0, .ref hM)] := hl
  refine lv_aload_n hx hb dX2_closeVote_0 rfl (lv_at hl 0 rfl) ?_
  refine lv_aload_n hx hb dX2_closeVote_1 rfl (lv_at hl 0 rfl) ?_
  refine va_get (D := D) (cl := vwCl) (ci := 2) (v := .int (a 0)) (C := RX2) (T := TX2) (N := 16) hx hb hts in_X2_closeVote_X2 hown hK hP 0 rfl rfl 1 (by decide) (hts (.fieldLink RX2 70 "WitchTrialModel" "phase" "I") (List.mem_of_getElem? (i := 1) rfl)) (fun _ h9 => h9) rfl dX2_closeVote_2 ?_
  refine lv_iconst (v := 1) hx hb dX2_closeVote_5 (by decide) ?_
  refine lv_icmp_ne (tgt := 13) hx hb dX2_closeVote_6 (by decide) (fun c_1 => ?_) (fun c_1 => ?_)
  · refine lv_iconst (v := 1) hx hb dX2_closeVote_13 (by decide) ?_
    refine va_put (D := D) (cl := vwCl) (ci := 2) (v := .int 1) (ty := .int) (C := RX2) (T := TX2) (N := 16) hx hb hts in_X2_closeVote_X2 tyX2 tyX2_ok nmX2 hown hK hP hD hS 0 rfl rfl 0 (by decide) (hts (.fieldLink RX2 20 "WitchTrialModel" "thrown" "I") (List.mem_of_getElem? (i := 2) rfl)) (fun _ h9 => h9) rfl (by decide +kernel) rfl rfl (Nat.le_of_ble_eq_true rfl) dX2_closeVote_14 (fun H locs hP hD hS => ?_)
    have hP : va_P D vwCl [cM hM hO hW hY 1 a, cA cZ hO 16384 (fun w => bI (o w)), cA cI hW 8 v] H := hP
    have hD : va_D A [cM hM hO hW hY 1 a, cA cZ hO 16384 (fun w => bI (o w)), cA cI hW 8 v] := hD
    refine lv_aload_n hx hb dX2_closeVote_17 rfl (lv_at hl 0 rfl) ?_
    refine va_get (D := D) (cl := vwCl) (ci := 2) (v := .int 1) (C := RX2) (T := TX2) (N := 16) hx hb hts in_X2_closeVote_X2 hown hK hP 0 rfl rfl 0 (by decide) (hts (.fieldLink RX2 20 "WitchTrialModel" "thrown" "I") (List.mem_of_getElem? (i := 2) rfl)) (fun _ h9 => h9) rfl dX2_closeVote_18 ?_
    refine lv_if_le (tgt := 26) hx hb dX2_closeVote_21 (by decide) (fun c_2 => ?_) (fun c_2 => ?_)
    · exact absurd c_2 (by decide)
    · exact absurd hk (by simp [aCv, oDi, bI, c_1])
  · refine lv_iconst (v := 0) hx hb dX2_closeVote_9 (by decide) ?_
    refine lv_goto (tgt := 14) hx hb dX2_closeVote_10 (by decide) ?_
    refine va_put (D := D) (cl := vwCl) (ci := 2) (v := .int 0) (ty := .int) (C := RX2) (T := TX2) (N := 16) hx hb hts in_X2_closeVote_X2 tyX2 tyX2_ok nmX2 hown hK hP hD hS 0 rfl rfl 0 (by decide) (hts (.fieldLink RX2 20 "WitchTrialModel" "thrown" "I") (List.mem_of_getElem? (i := 2) rfl)) (fun _ h9 => h9) rfl (by decide +kernel) rfl rfl (Nat.le_of_ble_eq_true rfl) dX2_closeVote_14 (fun H locs hP hD hS => ?_)
    have hP : va_P D vwCl [cM hM hO hW hY 0 a, cA cZ hO 16384 (fun w => bI (o w)), cA cI hW 8 v] H := hP
    have hD : va_D A [cM hM hO hW hY 0 a, cA cZ hO 16384 (fun w => bI (o w)), cA cI hW 8 v] := hD
    refine lv_aload_n hx hb dX2_closeVote_17 rfl (lv_at hl 0 rfl) ?_
    refine va_get (D := D) (cl := vwCl) (ci := 2) (v := .int 0) (C := RX2) (T := TX2) (N := 16) hx hb hts in_X2_closeVote_X2 hown hK hP 0 rfl rfl 0 (by decide) (hts (.fieldLink RX2 20 "WitchTrialModel" "thrown" "I") (List.mem_of_getElem? (i := 2) rfl)) (fun _ h9 => h9) rfl dX2_closeVote_18 ?_
    refine lv_if_le (tgt := 26) hx hb dX2_closeVote_21 (by decide) (fun c_3 => ?_) (fun c_3 => ?_)
    · refine lv_iconst (v := (-1)) hx hb dX2_closeVote_26 (by decide) ?_
      refine lv_istore_n (lv' := [(1, .int (-1)), (0, .ref hM)]) hx hb dX2_closeVote_27 rfl hl (by decide) rfl (fun ls hl => ?_)
      refine lv_iconst (v := 0) hx hb dX2_closeVote_28 (by decide) ?_
      refine lv_istore_n (lv' := [(2, .int 0), (1, .int (-1)), (0, .ref hM)]) hx hb dX2_closeVote_29 rfl hl (by decide) rfl (fun ls hl => ?_)
      refine lv_iconst (v := 0) hx hb dX2_closeVote_30 (by decide) ?_
      refine lv_istore_n (lv' := [(3, .int 0), (2, .int 0), (1, .int (-1)), (0, .ref hM)]) hx hb dX2_closeVote_31 rfl hl (by decide) rfl (fun ls hl => ?_)
      refine loop_R (nL := 5) (h := 32) n (fun i => [(0, .ref hM), (1, .int ((xBM v i).1)), (2, .int ((xBM v i).2)), (3, .int (nI i))]) (fun _ => True) (fun i hi hI ih_i ls hl => ?_) 0 (by omega) trivial ls ?_
      · have hl : lv_has ls 5 [(0, .ref hM), (1, .int ((xBM v i).1)), (2, .int ((xBM v i).2)), (3, .int (nI i))] := hl
        refine lv_iload_n hx hb dX2_closeVote_32 rfl (lv_at hl 3 rfl) ?_
        refine lv_aload_n hx hb dX2_closeVote_33 rfl (lv_at hl 0 rfl) ?_
        refine va_get (D := D) (cl := vwCl) (ci := 2) (v := .int (a 2)) (C := RX2) (T := TX2) (N := 16) hx hb hts in_X2_closeVote_X2 hown hK hP 0 rfl rfl 2 (by decide) (hts (.fieldLink RX2 24 "WitchTrialModel" "players" "I") (List.mem_of_getElem? (i := 3) rfl)) (fun _ h9 => h9) rfl dX2_closeVote_34 ?_
        refine lv_icmp_ge (tgt := 88) hx hb dX2_closeVote_37 (by decide) (fun c_5 => ?_) (fun c_5 => ?_)
        · have hi9 : n = i := (geN hi (by omega) hn c_5).symm
          subst hi9
          refine lv_aload_n hx hb dX2_closeVote_88 rfl (lv_at hl 0 rfl) ?_
          refine mv_V (b := hM) (As := []) (rest := []) (W2 := [cM hM hO hW hY 0 (aF a), cA cZ hO 16384 (fun w => bI (o w)), cA cI hW 8 (iUp vM v 8)]) ⟨hx, hb, hml, hown, hts⟩ (c_X2_forgets l D cI cZ cJ _ hM hO hW hY 0 a v) (cwV 0 hts gX2_closeVote_X2_forgets rfl rfl rfl (by decide +kernel) ⟨Nat.le_of_ble_eq_true rfl, Nat.le_of_ble_eq_true rfl⟩) hP hD hK hN hS hA (va_recv hK hP (ci := 2) (q0 := 0) rfl rfl) rfl hl.1 rfl (Nat.le_of_ble_eq_true rfl) dX2_closeVote_89 ⟨Nat.le_of_ble_eq_true rfl, Nat.le_of_ble_eq_true rfl⟩ [0, 2] [1] rfl rfl rfl (by intro i hi; simp only [List.mem_cons, List.not_mem_nil, or_false] at hi; rcases hi with rfl <;> rfl) rfl 3 rfl (by decide) (by decide) (fun H locs hP hD hS => ?_)
          refine lv_iload_n hx hb dX2_closeVote_92 rfl (lv_at hl 1 rfl) ?_
          refine lv_iconst (v := (-1)) hx hb dX2_closeVote_93 (by decide) ?_
          refine lv_icmp_eq (tgt := 102) hx hb dX2_closeVote_94 (by decide) (fun c_6 => ?_) (fun c_6 => ?_)
          · refine lv_aload_n hx hb dX2_closeVote_102 rfl (lv_at hl 0 rfl) ?_
            refine lv_aload_n hx hb dX2_closeVote_103 rfl (lv_at hl 0 rfl) ?_
            refine va_get (D := D) (cl := vwCl) (ci := 2) (v := .int ((aF a) 0)) (C := RX2) (T := TX2) (N := 16) hx hb hts in_X2_closeVote_X2 hown hK hP 0 rfl rfl 1 (by decide) (hts (.fieldLink RX2 70 "WitchTrialModel" "phase" "I") (List.mem_of_getElem? (i := 1) rfl)) (fun _ h9 => h9) rfl dX2_closeVote_104 ?_
            refine lv_iconst (v := 1) hx hb dX2_closeVote_107 (by decide) ?_
            refine lv_icmp_ne (tgt := 115) hx hb dX2_closeVote_108 (by decide) (fun c_7 => ?_) (fun c_7 => ?_)
            · exact absurd hk c_7
            · refine lv_iconst (v := 2) hx hb dX2_closeVote_111 (by decide) ?_
              refine lv_goto (tgt := 119) hx hb dX2_closeVote_112 (by decide) ?_
              refine va_put (D := D) (cl := vwCl) (ci := 2) (v := .int 2) (ty := .int) (C := RX2) (T := TX2) (N := 16) hx hb hts in_X2_closeVote_X2 tyX2 tyX2_ok nmX2 hown hK hP hD hS 0 rfl rfl 1 (by decide) (hts (.fieldLink RX2 70 "WitchTrialModel" "phase" "I") (List.mem_of_getElem? (i := 1) rfl)) (fun _ h9 => h9) rfl (by decide +kernel) rfl rfl (Nat.le_of_ble_eq_true rfl) dX2_closeVote_119 (fun H locs hP hD hS => ?_)
              have hP : va_P D vwCl [cM hM hO hW hY 0 (upd (aF a) 0 2), cA cZ hO 16384 (fun w => bI (o w)), cA cI hW 8 (iUp vM v 8)] H := hP
              have hD : va_D A [cM hM hO hW hY 0 (upd (aF a) 0 2), cA cZ hO 16384 (fun w => bI (o w)), cA cI hW 8 (iUp vM v 8)] := hD
              refine lv_iload_n hx hb dX2_closeVote_122 rfl (lv_at hl 1 rfl) ?_
              have hP9 : va_P D vwCl [cM hM hO hW hY 0 (aCv a (xBM v n).1), cA cZ hO 16384 (fun w => bI ((oDi (aF a) o (xBM v n).1) w)), cA cI hW 8 (iUp vM v 8)] H := by
                have e9_0 : (aCv a (xBM v n).1) = (upd (aF a) 0 2) := by (first | rfl | (simp only [aCv, oDi, bI, c_1, c_6, c_7, eq_self, ↓reduceIte]; done) | (simp only [aCv, oDi, bI, c_1, c_6, c_7, eq_self, ↓reduceIte]; rfl) | (simp only [aCv, oDi, bI, eq_true c_1, eq_true c_6, eq_true c_7, eq_self, ↓reduceIte]; done) | (simp only [aCv, oDi, bI, eq_true c_1, eq_true c_6, eq_true c_7, eq_self, ↓reduceIte]; rfl) | (simp [aCv, oDi, bI, eq_true c_1, eq_true c_6, eq_true c_7]; done) | simp [aCv, oDi, bI, c_1, c_6, c_7])
                have e9_1 : (fun w => bI ((oDi (aF a) o (xBM v n).1) w)) = (fun w => bI (o w)) := by (first | rfl | (simp only [aCv, oDi, bI, c_1, c_6, c_7, eq_self, ↓reduceIte]; done) | (simp only [aCv, oDi, bI, c_1, c_6, c_7, eq_self, ↓reduceIte]; rfl) | (simp only [aCv, oDi, bI, eq_true c_1, eq_true c_6, eq_true c_7, eq_self, ↓reduceIte]; done) | (simp only [aCv, oDi, bI, eq_true c_1, eq_true c_6, eq_true c_7, eq_self, ↓reduceIte]; rfl) | (simp [aCv, oDi, bI, eq_true c_1, eq_true c_6, eq_true c_7]; done) | simp [aCv, oDi, bI, c_1, c_6, c_7])
                rw [e9_0]
                rw [e9_1]
                exact hP
              exact mi_iret hx hb hr hlocks hS (by rfl) hP9 dX2_closeVote_123
          · refine lv_aload_n hx hb dX2_closeVote_97 rfl (lv_at hl 0 rfl) ?_
            refine lv_iload_n hx hb dX2_closeVote_98 rfl (lv_at hl 1 rfl) ?_
            refine mv_V (b := hM) (As := [.int ((xBM v n).1)]) (rest := []) (W2 := [cM hM hO hW hY 0 (aDi (aF a) ((xBM v n).1)), cA cZ hO 16384 (fun w => bI ((oUp (nDi (aF a) o ((xBM v n).1)) o 16384) w)), cA cI hW 8 (iUp vM v 8)]) ⟨hx, hb, hml, hown, hts⟩ (c_X2_dies l D cI cZ cJ _ hM hO hW hY 0 (aF a) o ((xBM v n).1)) (cwV 1 hts gX2_closeVote_X2_dies rfl rfl rfl (by decide +kernel) ⟨Nat.le_of_ble_eq_true rfl, Nat.le_of_ble_eq_true rfl⟩) hP hD hK hN hS hA (va_recv hK hP (ci := 2) (q0 := 0) rfl rfl) rfl hl.1 rfl (Nat.le_of_ble_eq_true rfl) dX2_closeVote_99 ⟨Nat.le_of_ble_eq_true rfl, Nat.le_of_ble_eq_true rfl⟩ [0, 1] [2] rfl rfl rfl (by intro i hi; simp only [List.mem_cons, List.not_mem_nil, or_false] at hi; rcases hi with rfl <;> rfl) rfl 3 rfl (by decide) (by decide) (fun H locs hP hD hS => ?_)
            refine lv_aload_n hx hb dX2_closeVote_102 rfl (lv_at hl 0 rfl) ?_
            refine lv_aload_n hx hb dX2_closeVote_103 rfl (lv_at hl 0 rfl) ?_
            refine va_get (D := D) (cl := vwCl) (ci := 2) (v := .int ((aDi (aF a) ((xBM v n).1)) 0)) (C := RX2) (T := TX2) (N := 16) hx hb hts in_X2_closeVote_X2 hown hK hP 0 rfl rfl 1 (by decide) (hts (.fieldLink RX2 70 "WitchTrialModel" "phase" "I") (List.mem_of_getElem? (i := 1) rfl)) (fun _ h9 => h9) rfl dX2_closeVote_104 ?_
            refine lv_iconst (v := 1) hx hb dX2_closeVote_107 (by decide) ?_
            refine lv_icmp_ne (tgt := 115) hx hb dX2_closeVote_108 (by decide) (fun c_8 => ?_) (fun c_8 => ?_)
            · refine lv_aload_n hx hb dX2_closeVote_115 rfl (lv_at hl 0 rfl) ?_
              refine va_get (D := D) (cl := vwCl) (ci := 2) (v := .int ((aDi (aF a) ((xBM v n).1)) 0)) (C := RX2) (T := TX2) (N := 16) hx hb hts in_X2_closeVote_X2 hown hK hP 0 rfl rfl 1 (by decide) (hts (.fieldLink RX2 70 "WitchTrialModel" "phase" "I") (List.mem_of_getElem? (i := 1) rfl)) (fun _ h9 => h9) rfl dX2_closeVote_116 ?_
              refine va_put (D := D) (cl := vwCl) (ci := 2) (v := .int ((aDi (aF a) ((xBM v n).1)) 0)) (ty := .int) (C := RX2) (T := TX2) (N := 16) hx hb hts in_X2_closeVote_X2 tyX2 tyX2_ok nmX2 hown hK hP hD hS 0 rfl rfl 1 (by decide) (hts (.fieldLink RX2 70 "WitchTrialModel" "phase" "I") (List.mem_of_getElem? (i := 1) rfl)) (fun _ h9 => h9) rfl (by decide +kernel) rfl rfl (Nat.le_of_ble_eq_true rfl) dX2_closeVote_119 (fun H locs hP hD hS => ?_)
              have hP : va_P D vwCl [cM hM hO hW hY 0 (upd (aDi (aF a) ((xBM v n).1)) 0 ((aDi (aF a) ((xBM v n).1)) 0)), cA cZ hO 16384 (fun w => bI ((oUp (nDi (aF a) o ((xBM v n).1)) o 16384) w)), cA cI hW 8 (iUp vM v 8)] H := hP
              have hD : va_D A [cM hM hO hW hY 0 (upd (aDi (aF a) ((xBM v n).1)) 0 ((aDi (aF a) ((xBM v n).1)) 0)), cA cZ hO 16384 (fun w => bI ((oUp (nDi (aF a) o ((xBM v n).1)) o 16384) w)), cA cI hW 8 (iUp vM v 8)] := hD
              refine lv_iload_n hx hb dX2_closeVote_122 rfl (lv_at hl 1 rfl) ?_
              have hP9 : va_P D vwCl [cM hM hO hW hY 0 (aCv a (xBM v n).1), cA cZ hO 16384 (fun w => bI ((oDi (aF a) o (xBM v n).1) w)), cA cI hW 8 (iUp vM v 8)] H := by
                have e9_0 : (aCv a (xBM v n).1) = (upd (aDi (aF a) ((xBM v n).1)) 0 ((aDi (aF a) ((xBM v n).1)) 0)) := by (first | rfl | (simp only [aCv, oDi, bI, c_1, c_6, c_8, eq_self, ↓reduceIte]; done) | (simp only [aCv, oDi, bI, c_1, c_6, c_8, eq_self, ↓reduceIte]; rfl) | (simp only [aCv, oDi, bI, eq_true c_1, c_6, c_8, eq_self, ↓reduceIte]; done) | (simp only [aCv, oDi, bI, eq_true c_1, c_6, c_8, eq_self, ↓reduceIte]; rfl) | (simp [aCv, oDi, bI, eq_true c_1, c_6, c_8]; done) | simp [aCv, oDi, bI, c_1, c_6, c_8])
                have e9_1 : (fun w => bI ((oDi (aF a) o (xBM v n).1) w)) = (fun w => bI ((oUp (nDi (aF a) o ((xBM v n).1)) o 16384) w)) := by (first | rfl | (simp only [aCv, oDi, bI, c_1, c_6, c_8, eq_self, ↓reduceIte]; done) | (simp only [aCv, oDi, bI, c_1, c_6, c_8, eq_self, ↓reduceIte]; rfl) | (simp only [aCv, oDi, bI, eq_true c_1, c_6, c_8, eq_self, ↓reduceIte]; done) | (simp only [aCv, oDi, bI, eq_true c_1, c_6, c_8, eq_self, ↓reduceIte]; rfl) | (simp [aCv, oDi, bI, eq_true c_1, c_6, c_8]; done) | simp [aCv, oDi, bI, c_1, c_6, c_8])
                rw [e9_0]
                rw [e9_1]
                exact hP
              exact mi_iret hx hb hr hlocks hS (by rfl) hP9 dX2_closeVote_123
            · refine lv_iconst (v := 2) hx hb dX2_closeVote_111 (by decide) ?_
              refine lv_goto (tgt := 119) hx hb dX2_closeVote_112 (by decide) ?_
              refine va_put (D := D) (cl := vwCl) (ci := 2) (v := .int 2) (ty := .int) (C := RX2) (T := TX2) (N := 16) hx hb hts in_X2_closeVote_X2 tyX2 tyX2_ok nmX2 hown hK hP hD hS 0 rfl rfl 1 (by decide) (hts (.fieldLink RX2 70 "WitchTrialModel" "phase" "I") (List.mem_of_getElem? (i := 1) rfl)) (fun _ h9 => h9) rfl (by decide +kernel) rfl rfl (Nat.le_of_ble_eq_true rfl) dX2_closeVote_119 (fun H locs hP hD hS => ?_)
              have hP : va_P D vwCl [cM hM hO hW hY 0 (upd (aDi (aF a) ((xBM v n).1)) 0 2), cA cZ hO 16384 (fun w => bI ((oUp (nDi (aF a) o ((xBM v n).1)) o 16384) w)), cA cI hW 8 (iUp vM v 8)] H := hP
              have hD : va_D A [cM hM hO hW hY 0 (upd (aDi (aF a) ((xBM v n).1)) 0 2), cA cZ hO 16384 (fun w => bI ((oUp (nDi (aF a) o ((xBM v n).1)) o 16384) w)), cA cI hW 8 (iUp vM v 8)] := hD
              refine lv_iload_n hx hb dX2_closeVote_122 rfl (lv_at hl 1 rfl) ?_
              have hP9 : va_P D vwCl [cM hM hO hW hY 0 (aCv a (xBM v n).1), cA cZ hO 16384 (fun w => bI ((oDi (aF a) o (xBM v n).1) w)), cA cI hW 8 (iUp vM v 8)] H := by
                have e9_0 : (aCv a (xBM v n).1) = (upd (aDi (aF a) ((xBM v n).1)) 0 2) := by (first | rfl | (simp only [aCv, oDi, bI, c_1, c_6, c_8, eq_self, ↓reduceIte]; done) | (simp only [aCv, oDi, bI, c_1, c_6, c_8, eq_self, ↓reduceIte]; rfl) | (simp only [aCv, oDi, bI, eq_true c_1, c_6, eq_true c_8, eq_self, ↓reduceIte]; done) | (simp only [aCv, oDi, bI, eq_true c_1, c_6, eq_true c_8, eq_self, ↓reduceIte]; rfl) | (simp [aCv, oDi, bI, eq_true c_1, c_6, eq_true c_8]; done) | simp [aCv, oDi, bI, c_1, c_6, c_8])
                have e9_1 : (fun w => bI ((oDi (aF a) o (xBM v n).1) w)) = (fun w => bI ((oUp (nDi (aF a) o ((xBM v n).1)) o 16384) w)) := by (first | rfl | (simp only [aCv, oDi, bI, c_1, c_6, c_8, eq_self, ↓reduceIte]; done) | (simp only [aCv, oDi, bI, c_1, c_6, c_8, eq_self, ↓reduceIte]; rfl) | (simp only [aCv, oDi, bI, eq_true c_1, c_6, eq_true c_8, eq_self, ↓reduceIte]; done) | (simp only [aCv, oDi, bI, eq_true c_1, c_6, eq_true c_8, eq_self, ↓reduceIte]; rfl) | (simp [aCv, oDi, bI, eq_true c_1, c_6, eq_true c_8]; done) | simp [aCv, oDi, bI, c_1, c_6, c_8])
                rw [e9_0]
                rw [e9_1]
                exact hP
              exact mi_iret hx hb hr hlocks hS (by rfl) hP9 dX2_closeVote_123
        · have hlt : i < n := ltN hi (by omega) hn c_5
          refine lv_aload_n hx hb dX2_closeVote_40 rfl (lv_at hl 0 rfl) ?_
          refine lv_iload_n hx hb dX2_closeVote_41 rfl (lv_at hl 3 rfl) ?_
          refine rd_V (b := hM) (As := [.int (nI i)]) (rest := []) ⟨hx, hb, hml, hown, hts⟩ (c_X2_manyVotes l D cI cZ cJ hM hO hW hY 0 a v (nI i)) (cwV 1 hts gX2_closeVote_X2_manyVotes rfl rfl rfl (by decide +kernel) ⟨Nat.le_of_ble_eq_true rfl, Nat.le_of_ble_eq_true rfl⟩) (hP.sub (ws' := [cM hM hO hW hY 0 a, cA cI hW 8 v]) [0, 2] rfl) hK hN (va_recv hK hP (ci := 2) (q0 := 0) rfl rfl) rfl hl.1 rfl (Nat.le_of_ble_eq_true rfl) dX2_closeVote_42 ⟨Nat.le_of_ble_eq_true rfl, Nat.le_of_ble_eq_true rfl⟩ ?_
          refine lv_istore (lv' := [(4, .int (xMv v (nI i) 8)), (0, .ref hM), (1, .int ((xBM v i).1)), (2, .int ((xBM v i).2)), (3, .int (nI i))]) hx hb dX2_closeVote_45 hl (by decide) rfl (fun ls hl => ?_)
          refine lv_iload hx hb dX2_closeVote_47 (lv_at hl 0 rfl) ?_
          refine lv_iload_n hx hb dX2_closeVote_49 rfl (lv_at hl 3 rfl) ?_
          refine lv_icmp_le (tgt := 57) hx hb dX2_closeVote_50 (by decide) (fun c_9 => ?_) (fun c_9 => ?_)
          · refine lv_iload hx hb dX2_closeVote_57 (lv_at hl 0 rfl) ?_
            refine lv_iload_n hx hb dX2_closeVote_59 rfl (lv_at hl 3 rfl) ?_
            refine lv_icmp_ne (tgt := 67) hx hb dX2_closeVote_60 (by decide) (fun c_10 => ?_) (fun c_10 => ?_)
            · refine lv_iload_n hx hb dX2_closeVote_67 rfl (lv_at hl 2 rfl) ?_
              refine lv_istore_n (lv' := [(1, .int ((xBM v i).1)), (4, .int (xMv v (nI i) 8)), (0, .ref hM), (2, .int ((xBM v i).2)), (3, .int (nI i))]) hx hb dX2_closeVote_68 rfl hl (by decide) rfl (fun ls hl => ?_)
              refine lv_iload hx hb dX2_closeVote_69 (lv_at hl 1 rfl) ?_
              refine lv_iload_n hx hb dX2_closeVote_71 rfl (lv_at hl 3 rfl) ?_
              refine lv_icmp_le (tgt := 80) hx hb dX2_closeVote_72 (by decide) (fun c_11 => ?_) (fun c_11 => ?_)
              · refine lv_iload_n hx hb dX2_closeVote_80 rfl (lv_at hl 3 rfl) ?_
                refine lv_istore_n (lv' := [(2, .int ((xBM v i).2)), (1, .int ((xBM v i).1)), (4, .int (xMv v (nI i) 8)), (0, .ref hM), (3, .int (nI i))]) hx hb dX2_closeVote_81 rfl hl (by decide) rfl (fun ls hl => ?_)
                refine lv_iinc (v := (nI (i + 1))) (lv' := [(3, .int (nI (i + 1))), (2, .int ((xBM v i).2)), (1, .int ((xBM v i).1)), (4, .int (xMv v (nI i) 8)), (0, .ref hM)]) hx hb dX2_closeVote_82 hl (k := 4) rfl (nI_1 i) (by decide) rfl (fun ls hl => ?_)
                refine lv_goto (tgt := 32) hx hb dX2_closeVote_85 (by decide) ?_
                have eb_0 : (xBM v (i + 1)).1 = (xBM v i).1 := by (first | rfl | (simp only [aCv, oDi, bI, xBM, c_1, c_5, c_9, c_10, eq_self, ↓reduceIte]; done) | (simp only [aCv, oDi, bI, xBM, c_1, c_5, c_9, c_10, eq_self, ↓reduceIte]; rfl) | (simp only [aCv, oDi, bI, xBM, eq_true c_1, c_5, c_9, c_10, eq_self, ↓reduceIte]; done) | (simp only [aCv, oDi, bI, xBM, eq_true c_1, c_5, c_9, c_10, eq_self, ↓reduceIte]; rfl) | (simp [aCv, oDi, bI, xBM, eq_true c_1, c_5, c_9, c_10]; done) | simp [aCv, oDi, bI, xBM, c_1, c_5, c_9, c_10])
                have eb_1 : (xBM v (i + 1)).2 = (xBM v i).2 := by (first | rfl | (simp only [aCv, oDi, bI, xBM, c_1, c_5, c_9, c_10, eq_self, ↓reduceIte]; done) | (simp only [aCv, oDi, bI, xBM, c_1, c_5, c_9, c_10, eq_self, ↓reduceIte]; rfl) | (simp only [aCv, oDi, bI, xBM, eq_true c_1, c_5, c_9, c_10, eq_self, ↓reduceIte]; done) | (simp only [aCv, oDi, bI, xBM, eq_true c_1, c_5, c_9, c_10, eq_self, ↓reduceIte]; rfl) | (simp [aCv, oDi, bI, xBM, eq_true c_1, c_5, c_9, c_10]; done) | simp [aCv, oDi, bI, xBM, c_1, c_5, c_9, c_10])
                exact ih_i (by omega) trivial ls (by show lv_has ls 5 [(0, .ref hM), (1, .int ((xBM v (i + 1)).1)), (2, .int ((xBM v (i + 1)).2)), (3, .int (nI (i + 1)))]; rw [eb_0]; rw [eb_1]; exact lv_sub hl [4, 2, 1, 0] rfl)
              · exact absurd c_9 c_11
            · refine lv_iconst (v := (-1)) hx hb dX2_closeVote_63 (by decide) ?_
              refine lv_goto (tgt := 68) hx hb dX2_closeVote_64 (by decide) ?_
              refine lv_istore_n (lv' := [(1, .int (-1)), (4, .int (xMv v (nI i) 8)), (0, .ref hM), (2, .int ((xBM v i).2)), (3, .int (nI i))]) hx hb dX2_closeVote_68 rfl hl (by decide) rfl (fun ls hl => ?_)
              refine lv_iload hx hb dX2_closeVote_69 (lv_at hl 1 rfl) ?_
              refine lv_iload_n hx hb dX2_closeVote_71 rfl (lv_at hl 3 rfl) ?_
              refine lv_icmp_le (tgt := 80) hx hb dX2_closeVote_72 (by decide) (fun c_12 => ?_) (fun c_12 => ?_)
              · refine lv_iload_n hx hb dX2_closeVote_80 rfl (lv_at hl 3 rfl) ?_
                refine lv_istore_n (lv' := [(2, .int ((xBM v i).2)), (1, .int (-1)), (4, .int (xMv v (nI i) 8)), (0, .ref hM), (3, .int (nI i))]) hx hb dX2_closeVote_81 rfl hl (by decide) rfl (fun ls hl => ?_)
                refine lv_iinc (v := (nI (i + 1))) (lv' := [(3, .int (nI (i + 1))), (2, .int ((xBM v i).2)), (1, .int (-1)), (4, .int (xMv v (nI i) 8)), (0, .ref hM)]) hx hb dX2_closeVote_82 hl (k := 4) rfl (nI_1 i) (by decide) rfl (fun ls hl => ?_)
                refine lv_goto (tgt := 32) hx hb dX2_closeVote_85 (by decide) ?_
                have eb_0 : (xBM v (i + 1)).1 = (-1) := by (first | rfl | (simp only [aCv, oDi, bI, xBM, c_1, c_5, c_9, c_10, eq_self, ↓reduceIte]; done) | (simp only [aCv, oDi, bI, xBM, c_1, c_5, c_9, c_10, eq_self, ↓reduceIte]; rfl) | (simp only [aCv, oDi, bI, xBM, eq_true c_1, c_5, c_9, eq_true c_10, eq_self, ↓reduceIte]; done) | (simp only [aCv, oDi, bI, xBM, eq_true c_1, c_5, c_9, eq_true c_10, eq_self, ↓reduceIte]; rfl) | (simp [aCv, oDi, bI, xBM, eq_true c_1, c_5, c_9, eq_true c_10]; done) | simp [aCv, oDi, bI, xBM, c_1, c_5, c_9, c_10])
                have eb_1 : (xBM v (i + 1)).2 = (xBM v i).2 := by (first | rfl | (simp only [aCv, oDi, bI, xBM, c_1, c_5, c_9, c_10, eq_self, ↓reduceIte]; done) | (simp only [aCv, oDi, bI, xBM, c_1, c_5, c_9, c_10, eq_self, ↓reduceIte]; rfl) | (simp only [aCv, oDi, bI, xBM, eq_true c_1, c_5, c_9, eq_true c_10, eq_self, ↓reduceIte]; done) | (simp only [aCv, oDi, bI, xBM, eq_true c_1, c_5, c_9, eq_true c_10, eq_self, ↓reduceIte]; rfl) | (simp [aCv, oDi, bI, xBM, eq_true c_1, c_5, c_9, eq_true c_10]; done) | simp [aCv, oDi, bI, xBM, c_1, c_5, c_9, c_10])
                exact ih_i (by omega) trivial ls (by show lv_has ls 5 [(0, .ref hM), (1, .int ((xBM v (i + 1)).1)), (2, .int ((xBM v (i + 1)).2)), (3, .int (nI (i + 1)))]; rw [eb_0]; rw [eb_1]; exact lv_sub hl [4, 2, 1, 0] rfl)
              · exact absurd c_9 c_12
          · refine lv_iload_n hx hb dX2_closeVote_53 rfl (lv_at hl 4 rfl) ?_
            refine lv_goto (tgt := 68) hx hb dX2_closeVote_54 (by decide) ?_
            refine lv_istore_n (lv' := [(1, .int (nI i)), (4, .int (xMv v (nI i) 8)), (0, .ref hM), (2, .int ((xBM v i).2)), (3, .int (nI i))]) hx hb dX2_closeVote_68 rfl hl (by decide) rfl (fun ls hl => ?_)
            refine lv_iload hx hb dX2_closeVote_69 (lv_at hl 1 rfl) ?_
            refine lv_iload_n hx hb dX2_closeVote_71 rfl (lv_at hl 3 rfl) ?_
            refine lv_icmp_le (tgt := 80) hx hb dX2_closeVote_72 (by decide) (fun c_13 => ?_) (fun c_13 => ?_)
            · exact absurd c_13 c_9
            · refine lv_iload hx hb dX2_closeVote_75 (lv_at hl 1 rfl) ?_
              refine lv_goto (tgt := 81) hx hb dX2_closeVote_77 (by decide) ?_
              refine lv_istore_n (lv' := [(2, .int (xMv v (nI i) 8)), (1, .int (nI i)), (4, .int (xMv v (nI i) 8)), (0, .ref hM), (3, .int (nI i))]) hx hb dX2_closeVote_81 rfl hl (by decide) rfl (fun ls hl => ?_)
              refine lv_iinc (v := (nI (i + 1))) (lv' := [(3, .int (nI (i + 1))), (2, .int (xMv v (nI i) 8)), (1, .int (nI i)), (4, .int (xMv v (nI i) 8)), (0, .ref hM)]) hx hb dX2_closeVote_82 hl (k := 4) rfl (nI_1 i) (by decide) rfl (fun ls hl => ?_)
              refine lv_goto (tgt := 32) hx hb dX2_closeVote_85 (by decide) ?_
              have eb_0 : (xBM v (i + 1)).1 = (nI i) := by (first | rfl | (simp only [aCv, oDi, bI, xBM, c_1, c_5, c_9, eq_self, ↓reduceIte]; done) | (simp only [aCv, oDi, bI, xBM, c_1, c_5, c_9, eq_self, ↓reduceIte]; rfl) | (simp only [aCv, oDi, bI, xBM, eq_true c_1, c_5, c_9, eq_self, ↓reduceIte]; done) | (simp only [aCv, oDi, bI, xBM, eq_true c_1, c_5, c_9, eq_self, ↓reduceIte]; rfl) | (simp [aCv, oDi, bI, xBM, eq_true c_1, c_5, c_9]; done) | simp [aCv, oDi, bI, xBM, c_1, c_5, c_9])
              have eb_1 : (xBM v (i + 1)).2 = (xMv v (nI i) 8) := by (first | rfl | (simp only [aCv, oDi, bI, xBM, c_1, c_5, c_9, eq_self, ↓reduceIte]; done) | (simp only [aCv, oDi, bI, xBM, c_1, c_5, c_9, eq_self, ↓reduceIte]; rfl) | (simp only [aCv, oDi, bI, xBM, eq_true c_1, c_5, c_9, eq_self, ↓reduceIte]; done) | (simp only [aCv, oDi, bI, xBM, eq_true c_1, c_5, c_9, eq_self, ↓reduceIte]; rfl) | (simp [aCv, oDi, bI, xBM, eq_true c_1, c_5, c_9]; done) | simp [aCv, oDi, bI, xBM, c_1, c_5, c_9])
              exact ih_i (by omega) trivial ls (by show lv_has ls 5 [(0, .ref hM), (1, .int ((xBM v (i + 1)).1)), (2, .int ((xBM v (i + 1)).2)), (3, .int (nI (i + 1)))]; rw [eb_0]; rw [eb_1]; exact lv_sub hl [4, 2, 1, 0] rfl)
      · show lv_has ls 5 [(0, .ref hM), (1, .int ((xBM v 0).1)), (2, .int ((xBM v 0).2)), (3, .int (nI 0))]
        have en_0 : (xBM v 0).1 = (-1) := by rfl
        rw [en_0]
        have en_1 : (xBM v 0).2 = 0 := by rfl
        rw [en_1]
        have en_2 : (nI 0) = 0 := by exact nI_0
        rw [en_2]
        exact lv_sub hl [3, 2, 1, 0] rfl
    · exact absurd c_3 (by decide)
