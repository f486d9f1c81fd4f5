set_option maxHeartbeats 2000000 in
set_option maxRecDepth 100000 in
theorem c_X1_claim (l : Launch) (D : va_G) (cI cZ cJ : ClassId) (sz : Nat) (hT : Nat) (hB : Nat) (hV : Nat) (a : Nat → Int32) (hG : Nat) (tr : Int32) (g : Nat → Int32) (q : Int32) (k : Int32) (r : Int32) (K : Nat) (hK9 : K ≤ 1120) (hg : ∀ j, j < K → ¬ g j = 0) (hz : K < 1120 → g K = 0) (h1 : ¬ a 0 = 0) (h2 : yPl a q = true) (h3 : yPl a r = true) (h4 : ¬ k < 0) (h5 : k ≤ 3) (m1 : a 0 = 1) (m2 : yIn (a 6) q = true) (m3 : yAg tr q (yCb k r) (!decide (k = 1)) = true) : Mi l D cI cZ cJ yX1_claim wsX1_claim 4 92 sz [.ref hT, .int q, .int k, .int r] [cT hT hB hV a, cB hB hG tr, cA cI hG 1120 g] [cT hT hB hV a, cB hB hG tr, cA cI hG 1120 (kcF (pAc q (yCb k r) (!decide (k = 1))) g K)] (xCnt (pAg (kcF (pAc q (yCb k r) (!decide (k = 1))) g K) tr (yKn a (-1))) (nCt (kcP (pAc q (yCb k r) (!decide (k = 1))) g) K)) := by
  refine mi_of (by decide) rfl (Nat.le_of_ble_eq_true rfl) (fun p e s m below meth c ls A hx hb hr hml hts hown hlocks hin hP hK hN hD hA hS hl => ?_)
  have hl : lv_has ls 4 [(0, .ref hT), (1, .int q), (2, .int k), (3, .int r)] := hl
  refine lv_aload_n hx hb dX1_claim_0 rfl (lv_at hl 0 rfl) ?_
  refine rv_V (b := hT) (As := []) (rest := []) ⟨hx, hb, hml, hown, hts⟩ (c_X1_requireGame l D cI cZ cJ hT hB hV a h1) (cwV 0 hts gX1_claim_X1_requireGame rfl rfl rfl (by decide +kernel) ⟨Nat.le_of_ble_eq_true rfl, Nat.le_of_ble_eq_true rfl⟩) (hP.sub (ws' := [cT hT hB hV a]) [0] rfl) hK hN (va_recv hK hP (ci := 1) (q0 := 0) rfl rfl) rfl hl.1 rfl (Nat.le_of_ble_eq_true rfl) dX1_claim_1 ⟨Nat.le_of_ble_eq_true rfl, Nat.le_of_ble_eq_true rfl⟩ ?_
  refine lv_aload_n hx hb dX1_claim_4 rfl (lv_at hl 0 rfl) ?_
  refine lv_iload_n hx hb dX1_claim_5 rfl (lv_at hl 1 rfl) ?_
  refine rv_V (b := hT) (As := [.int q]) (rest := []) ⟨hx, hb, hml, hown, hts⟩ (c_X1_requirePlayer l D cI cZ cJ hT hB hV a q (by first | exact h2 | exact h3)) (cwV 1 hts gX1_claim_X1_requirePlayer rfl rfl rfl (by decide +kernel) ⟨Nat.le_of_ble_eq_true rfl, Nat.le_of_ble_eq_true rfl⟩) (hP.sub (ws' := [cT hT hB hV a]) [0] rfl) hK hN (va_recv hK hP (ci := 1) (q0 := 0) rfl rfl) rfl hl.1 rfl (Nat.le_of_ble_eq_true rfl) dX1_claim_6 ⟨Nat.le_of_ble_eq_true rfl, Nat.le_of_ble_eq_true rfl⟩ ?_
  refine lv_aload_n hx hb dX1_claim_9 rfl (lv_at hl 0 rfl) ?_
  refine lv_iload_n hx hb dX1_claim_10 rfl (lv_at hl 3 rfl) ?_
  refine rv_V (b := hT) (As := [.int r]) (rest := []) ⟨hx, hb, hml, hown, hts⟩ (c_X1_requirePlayer l D cI cZ cJ hT hB hV a r (by first | exact h2 | exact h3)) (cwV 1 hts gX1_claim_X1_requirePlayer rfl rfl rfl (by decide +kernel) ⟨Nat.le_of_ble_eq_true rfl, Nat.le_of_ble_eq_true rfl⟩) (hP.sub (ws' := [cT hT hB hV a]) [0] rfl) hK hN (va_recv hK hP (ci := 1) (q0 := 0) rfl rfl) rfl hl.1 rfl (Nat.le_of_ble_eq_true rfl) dX1_claim_11 ⟨Nat.le_of_ble_eq_true rfl, Nat.le_of_ble_eq_true rfl⟩ ?_
  refine lv_iload_n hx hb dX1_claim_14 rfl (lv_at hl 2 rfl) ?_
  refine lv_if_lt (tgt := 23) hx hb dX1_claim_15 (by decide) (fun c_1 => ?_) (fun c_1 => ?_)
  · simp [h4, h5] at c_1
  · refine lv_iload_n hx hb dX1_claim_18 rfl (lv_at hl 2 rfl) ?_
    refine lv_iconst (v := 3) hx hb dX1_claim_19 (by decide) ?_
    refine lv_icmp_le (tgt := 33) hx hb dX1_claim_20 (by decide) (fun c_2 => ?_) (fun c_2 => ?_)
    · refine lv_aload_n hx hb dX1_claim_33 rfl (lv_at hl 0 rfl) ?_
      refine lv_iload_n hx hb dX1_claim_34 rfl (lv_at hl 1 rfl) ?_
      refine lv_iload_n hx hb dX1_claim_35 rfl (lv_at hl 2 rfl) ?_
      refine lv_iload_n hx hb dX1_claim_36 rfl (lv_at hl 3 rfl) ?_
      refine rd_S (As := [.int k, .int r]) (rest := [.int q, .ref hT]) ⟨hx, hb, hml, hown, hts⟩ (c_X1_claimedBits l D cI cZ cJ k r) (va_cwS 2 hts gX1_claim_X1_claimedBits rfl rfl rfl (by decide +kernel) ⟨Nat.le_of_ble_eq_true rfl, Nat.le_of_ble_eq_true rfl⟩) (hP.sub (ws' := []) [] rfl) hK hN rfl hl.1 rfl (Nat.le_of_ble_eq_true rfl) dX1_claim_37 ⟨Nat.le_of_ble_eq_true rfl, Nat.le_of_ble_eq_true rfl⟩ ?_
      refine lv_iload_n hx hb dX1_claim_40 rfl (lv_at hl 2 rfl) ?_
      refine lv_iconst (v := 1) hx hb dX1_claim_41 (by decide) ?_
      refine lv_icmp_eq (tgt := 49) hx hb dX1_claim_42 (by decide) (fun c_3 => ?_) (fun c_3 => ?_)
      · refine lv_iconst (v := 0) hx hb dX1_claim_49 (by decide) ?_
        refine W.eq (g2 := F0 m 50 ls [.int (bI (!decide (k = 1))), .int (yCb k r), .int q, .ref hT]) (by simp [bI, c_3]) ?_
        refine mi_V (b := hT) (As := [.int q, .int (yCb k r), .int (bI (!decide (k = 1)))]) (rest := []) (W2 := [cT hT hB hV a, cB hB hG tr, cA cI hG 1120 (kcF (pAc q (yCb k r) (!decide (k = 1))) g K)]) ⟨hx, hb, hml, hown, hts⟩ (c_X1_makeClaim l D cI cZ cJ _ hT hB hV a hG tr g q (yCb k r) (!decide (k = 1)) K hK9 hg hz m1 m2 m3) (cwV 3 hts gX1_claim_X1_makeClaim rfl rfl rfl (by decide +kernel) ⟨Nat.le_of_ble_eq_true rfl, Nat.le_of_ble_eq_true rfl⟩) hP hD hK hN hS hA (va_recv hK hP (ci := 1) (q0 := 0) rfl rfl) rfl hl.1 rfl (Nat.le_of_ble_eq_true rfl) dX1_claim_50 ⟨Nat.le_of_ble_eq_true rfl, Nat.le_of_ble_eq_true rfl⟩ [0, 1, 2] [] rfl rfl rfl (fun i hi => nomatch hi) rfl 3 rfl (by decide) (by decide) (fun H locs hP hD hS => ?_)
        have hP9 : va_P D vwCl [cT hT hB hV a, cB hB hG tr, cA cI hG 1120 (kcF (pAc q (yCb k r) (!decide (k = 1))) g K)] H := by
          exact hP
        exact mi_iret hx hb hr hlocks hS (by rfl) hP9 dX1_claim_53
      · refine lv_iconst (v := 1) hx hb dX1_claim_45 (by decide) ?_
        refine lv_goto (tgt := 50) hx hb dX1_claim_46 (by decide) ?_
        refine W.eq (g2 := F0 m 50 ls [.int (bI (!decide (k = 1))), .int (yCb k r), .int q, .ref hT]) (by simp [bI, c_3]) ?_
        refine mi_V (b := hT) (As := [.int q, .int (yCb k r), .int (bI (!decide (k = 1)))]) (rest := []) (W2 := [cT hT hB hV a, cB hB hG tr, cA cI hG 1120 (kcF (pAc q (yCb k r) (!decide (k = 1))) g K)]) ⟨hx, hb, hml, hown, hts⟩ (c_X1_makeClaim l D cI cZ cJ _ hT hB hV a hG tr g q (yCb k r) (!decide (k = 1)) K hK9 hg hz m1 m2 m3) (cwV 3 hts gX1_claim_X1_makeClaim rfl rfl rfl (by decide +kernel) ⟨Nat.le_of_ble_eq_true rfl, Nat.le_of_ble_eq_true rfl⟩) hP hD hK hN hS hA (va_recv hK hP (ci := 1) (q0 := 0) rfl rfl) rfl hl.1 rfl (Nat.le_of_ble_eq_true rfl) dX1_claim_50 ⟨Nat.le_of_ble_eq_true rfl, Nat.le_of_ble_eq_true rfl⟩ [0, 1, 2] [] rfl rfl rfl (fun i hi => nomatch hi) rfl 3 rfl (by decide) (by decide) (fun H locs hP hD hS => ?_)
        have hP9 : va_P D vwCl [cT hT hB hV a, cB hB hG tr, cA cI hG 1120 (kcF (pAc q (yCb k r) (!decide (k = 1))) g K)] H := by
          exact hP
        exact mi_iret hx hb hr hlocks hS (by rfl) hP9 dX1_claim_53
    · simp [h4, h5] at c_2

set_option maxHeartbeats 2000000 in
set_option maxRecDepth 100000 in
theorem c_X1_claimAmong (l : Launch) (D : va_G) (cI cZ cJ : ClassId) (sz : Nat) (hT : Nat) (hB : Nat) (hV : Nat) (a : Nat → Int32) (hG : Nat) (tr : Int32) (g : Nat → Int32) (q : Int32) (st : Int32) (K : Nat) (hK9 : K ≤ 1120) (hg : ∀ j, j < K → ¬ g j = 0) (hz : K < 1120 → g K = 0) (h1 : ¬ a 0 = 0) (h2 : yPl a q = true) (h4 : st &&& (xAll (a 2) ^^^ (-1)) = 0) (m1 : a 0 = 1) (m2 : yIn (a 6) q = true) (m3 : yAg tr q st true = true) : Mi l D cI cZ cJ yX1_claimAmong wsX1_claimAmong 4 92 sz [.ref hT, .int q, .int st] [cT hT hB hV a, cB hB hG tr, cA cI hG 1120 g] [cT hT hB hV a, cB hB hG tr, cA cI hG 1120 (kcF (pAc q st true) g K)] (xCnt (pAg (kcF (pAc q st true) g K) tr (yKn a (-1))) (nCt (kcP (pAc q st true) g) K)) := by
  refine mi_of (by decide) rfl (Nat.le_of_ble_eq_true rfl) (fun p e s m below meth c ls A hx hb hr hml hts hown hlocks hin hP hK hN hD hA hS hl => ?_)
  have hl : lv_has ls 3 [(0, .ref hT), (1, .int q), (2, .int st)] := hl
  refine lv_aload_n hx hb dX1_claimAmong_0 rfl (lv_at hl 0 rfl) ?_
  refine rv_V (b := hT) (As := []) (rest := []) ⟨hx, hb, hml, hown, hts⟩ (c_X1_requireGame l D cI cZ cJ hT hB hV a h1) (cwV 0 hts gX1_claimAmong_X1_requireGame rfl rfl rfl (by decide +kernel) ⟨Nat.le_of_ble_eq_true rfl, Nat.le_of_ble_eq_true rfl⟩) (hP.sub (ws' := [cT hT hB hV a]) [0] rfl) hK hN (va_recv hK hP (ci := 1) (q0 := 0) rfl rfl) rfl hl.1 rfl (Nat.le_of_ble_eq_true rfl) dX1_claimAmong_1 ⟨Nat.le_of_ble_eq_true rfl, Nat.le_of_ble_eq_true rfl⟩ ?_
  refine lv_aload_n hx hb dX1_claimAmong_4 rfl (lv_at hl 0 rfl) ?_
  refine lv_iload_n hx hb dX1_claimAmong_5 rfl (lv_at hl 1 rfl) ?_
  refine rv_V (b := hT) (As := [.int q]) (rest := []) ⟨hx, hb, hml, hown, hts⟩ (c_X1_requirePlayer l D cI cZ cJ hT hB hV a q (by first | exact h2 | exact h3)) (cwV 1 hts gX1_claimAmong_X1_requirePlayer rfl rfl rfl (by decide +kernel) ⟨Nat.le_of_ble_eq_true rfl, Nat.le_of_ble_eq_true rfl⟩) (hP.sub (ws' := [cT hT hB hV a]) [0] rfl) hK hN (va_recv hK hP (ci := 1) (q0 := 0) rfl rfl) rfl hl.1 rfl (Nat.le_of_ble_eq_true rfl) dX1_claimAmong_6 ⟨Nat.le_of_ble_eq_true rfl, Nat.le_of_ble_eq_true rfl⟩ ?_
  refine lv_iload_n hx hb dX1_claimAmong_9 rfl (lv_at hl 2 rfl) ?_
  refine lv_aload_n hx hb dX1_claimAmong_10 rfl (lv_at hl 0 rfl) ?_
  refine va_get (D := D) (cl := vwCl) (ci := 1) (v := .int (a 2)) (C := RX1) (T := TX1) (N := 14) hx hb hts in_X1_claimAmong_X1 hown hK hP 0 rfl rfl 4 (by decide) (hts (.fieldLink RX1 47 "WitchTrial" "playerCount" "I") (List.mem_of_getElem? (i := 3) rfl)) (fun _ h9 => h9) rfl dX1_claimAmong_11 ?_
  refine rd_S (As := [.int (a 2)]) (rest := [.int st]) ⟨hx, hb, hml, hown, hts⟩ (c_X1_everyone l D cI cZ cJ (a 2)) (va_cwS 1 hts gX1_claimAmong_X1_everyone rfl rfl rfl (by decide +kernel) ⟨Nat.le_of_ble_eq_true rfl, Nat.le_of_ble_eq_true rfl⟩) (hP.sub (ws' := []) [] rfl) hK hN rfl hl.1 rfl (Nat.le_of_ble_eq_true rfl) dX1_claimAmong_14 ⟨Nat.le_of_ble_eq_true rfl, Nat.le_of_ble_eq_true rfl⟩ ?_
  refine lv_iconst (v := (-1)) hx hb dX1_claimAmong_17 (by decide) ?_
  refine lv_ixor hx hb dX1_claimAmong_18 ?_
  refine lv_iand hx hb dX1_claimAmong_19 ?_
  refine lv_if_eq (tgt := 33) hx hb dX1_claimAmong_20 (by decide) (fun c_1 => ?_) (fun c_1 => ?_)
  · refine lv_aload_n hx hb dX1_claimAmong_33 rfl (lv_at hl 0 rfl) ?_
    refine lv_iload_n hx hb dX1_claimAmong_34 rfl (lv_at hl 1 rfl) ?_
    refine lv_iload_n hx hb dX1_claimAmong_35 rfl (lv_at hl 2 rfl) ?_
    refine lv_iconst (v := 1) hx hb dX1_claimAmong_36 (by decide) ?_
    refine mi_V (b := hT) (As := [.int q, .int st, .int 1]) (rest := []) (W2 := [cT hT hB hV a, cB hB hG tr, cA cI hG 1120 (kcF (pAc q st true) g K)]) ⟨hx, hb, hml, hown, hts⟩ (c_X1_makeClaim l D cI cZ cJ _ hT hB hV a hG tr g q st true K hK9 hg hz m1 m2 m3) (cwV 3 hts gX1_claimAmong_X1_makeClaim rfl rfl rfl (by decide +kernel) ⟨Nat.le_of_ble_eq_true rfl, Nat.le_of_ble_eq_true rfl⟩) hP hD hK hN hS hA (va_recv hK hP (ci := 1) (q0 := 0) rfl rfl) rfl hl.1 rfl (Nat.le_of_ble_eq_true rfl) dX1_claimAmong_37 ⟨Nat.le_of_ble_eq_true rfl, Nat.le_of_ble_eq_true rfl⟩ [0, 1, 2] [] rfl rfl rfl (fun i hi => nomatch hi) rfl 3 rfl (by decide) (by decide) (fun H locs hP hD hS => ?_)
    have hP9 : va_P D vwCl [cT hT hB hV a, cB hB hG tr, cA cI hG 1120 (kcF (pAc q st true) g K)] H := by
      exact hP
    exact mi_iret hx hb hr hlocks hS (by rfl) hP9 dX1_claimAmong_40
  · exact absurd h4 c_1

set_option maxHeartbeats 2000000 in
set_option maxRecDepth 100000 in
theorem c_X1_start (l : Launch) (D : va_G) (cI cZ cJ : ClassId) (sz : Nat) (hT : Nat) (hB : Nat) (hV : Nat) (a : Nat → Int32) (hG : Nat) (tr : Int32) (g : Nat → Int32) (v : Nat → Int32) (n : Nat) (W : Nat) (x : Nat) (y : Nat) (P : Nat → Bool) (hn8 : n ≤ 8) (hP9 : ∀ W9 x9 y9, W9 < 2 ^ n → x9 < n → y9 < n → yPop (nI W9) = yPop ((yWo (nI W) (nI x) (nI y)) &&& 255) → P (64 * W9 + (8 * x9 + y9)) = (!decide (nI x9 = nI y9) && yHo (nI n) (nI W9) (nI x9) && yHo (nI n) (nI W9) (nI y9))) (hF9 : ∀ W9 x9 y9, W9 < 256 → x9 < 8 → y9 < 8 → (W9 = 0 ∨ 2 ^ n ≤ W9 ∨ ¬ yPop (nI W9) = yPop ((yWo (nI W) (nI x) (nI y)) &&& 255) ∨ n ≤ x9 ∨ n ≤ y9) → P (64 * W9 + (8 * x9 + y9)) = false) (hB9 : nCt P 16384 ≤ 1120) (hg0 : ∀ j, 1120 ≤ j → g j = 0) (hE9 : ∀ b, P b = true → ¬ yEnc b = 0) (h1 : yGood (nI n) (nI W) (nI x) (nI y) = true) : Mi l D cI cZ cJ yX1_start wsX1_start 4 94 sz [.ref hT, .int (nI n), .int (nI W), .int (nI x), .int (nI y)] [cT hT hB hV a, cB hB hG tr, cA cI hG 1120 g, cA cI hV 8 v] [cT hT hB hV (aYs a (nI n) (nI W) (nI x) (nI y)), cB hB hG (yWo (nI W) (nI x) (nI y)), cA cI hG 1120 (pgF P 16384), cA cI hV 8 (iUp vM v 8)] (xCnt (pAg (pgF P 16384) (yWo (nI W) (nI x) (nI y)) (yKn (aYs a (nI n) (nI W) (nI x) (nI y)) (-1))) (nCt P 16384)) := by
  refine mi_of (by decide) rfl (Nat.le_of_ble_eq_true rfl) (fun p e s m below meth c ls A hx hb hr hml hts hown hlocks hin hP hK hN hD hA hS hl => ?_)
  have hl : lv_has ls 5 [(0, .ref hT), (1, .int (nI n)), (2, .int (nI W)), (3, .int (nI x)), (4, .int (nI y))] := hl
  refine lv_iload_n hx hb dX1_start_0 rfl (lv_at hl 1 rfl) ?_
  refine lv_iload_n hx hb dX1_start_1 rfl (lv_at hl 2 rfl) ?_
  refine lv_iload_n hx hb dX1_start_2 rfl (lv_at hl 3 rfl) ?_
  refine lv_iload hx hb dX1_start_3 (lv_at hl 4 rfl) ?_
  refine rd_S (As := [.int (nI n), .int (nI W), .int (nI x), .int (nI y)]) (rest := []) ⟨hx, hb, hml, hown, hts⟩ (c_X1_isDeal l D cI cZ cJ (nI n) (nI W) (nI x) (nI y)) (va_cwS 4 hts gX1_start_X1_isDeal rfl rfl rfl (by decide +kernel) ⟨Nat.le_of_ble_eq_true rfl, Nat.le_of_ble_eq_true rfl⟩) (hP.sub (ws' := []) [] rfl) hK hN rfl hl.1 rfl (Nat.le_of_ble_eq_true rfl) dX1_start_5 ⟨Nat.le_of_ble_eq_true rfl, Nat.le_of_ble_eq_true rfl⟩ ?_
  refine lv_if_ne (tgt := 21) hx hb dX1_start_8 (by decide) (fun c_1 => ?_) (fun c_1 => ?_)
  · have c_1 : (yGood (nI n) (nI W) (nI x) (nI y)) = true := bI_1 c_1
    refine lv_aload_n hx hb dX1_start_21 rfl (lv_at hl 0 rfl) ?_
    refine lv_iload_n hx hb dX1_start_22 rfl (lv_at hl 1 rfl) ?_
    refine va_put (D := D) (cl := vwCl) (ci := 1) (v := .int (nI n)) (ty := .int) (C := RX1) (T := TX1) (N := 14) hx hb hts in_X1_start_X1 tyX1 tyX1_ok nmX1 hown hK hP hD hS 0 rfl rfl 4 (by decide) (hts (.fieldLink RX1 47 "WitchTrial" "playerCount" "I") (List.mem_of_getElem? (i := 3) rfl)) (fun _ h9 => h9) rfl (by decide +kernel) rfl rfl (Nat.le_of_ble_eq_true rfl) dX1_start_23 (fun H locs hP hD hS => ?_)
    have hP : va_P D vwCl [cT hT hB hV (upd a 2 (nI n)), cB hB hG tr, cA cI hG 1120 g, cA cI hV 8 v] H := hP
    have hD : va_D A [cT hT hB hV (upd a 2 (nI n)), cB hB hG tr, cA cI hG 1120 g, cA cI hV 8 v] := hD
    refine lv_aload_n hx hb dX1_start_26 rfl (lv_at hl 0 rfl) ?_
    refine lv_iload_n hx hb dX1_start_27 rfl (lv_at hl 2 rfl) ?_
    refine va_put (D := D) (cl := vwCl) (ci := 1) (v := .int (nI W)) (ty := .int) (C := RX1) (T := TX1) (N := 14) hx hb hts in_X1_start_X1 tyX1 tyX1_ok nmX1 hown hK hP hD hS 0 rfl rfl 5 (by decide) (hts (.fieldLink RX1 50 "WitchTrial" "witchSet" "I") (List.mem_of_getElem? (i := 4) rfl)) (fun _ h9 => h9) rfl (by decide +kernel) rfl rfl (Nat.le_of_ble_eq_true rfl) dX1_start_28 (fun H locs hP hD hS => ?_)
    have hP : va_P D vwCl [cT hT hB hV (upd (upd a 2 (nI n)) 3 (nI W)), cB hB hG tr, cA cI hG 1120 g, cA cI hV 8 v] H := hP
    have hD : va_D A [cT hT hB hV (upd (upd a 2 (nI n)) 3 (nI W)), cB hB hG tr, cA cI hG 1120 g, cA cI hV 8 v] := hD
    refine lv_aload_n hx hb dX1_start_31 rfl (lv_at hl 0 rfl) ?_
    refine lv_iload_n hx hb dX1_start_32 rfl (lv_at hl 3 rfl) ?_
    refine va_put (D := D) (cl := vwCl) (ci := 1) (v := .int (nI x)) (ty := .int) (C := RX1) (T := TX1) (N := 14) hx hb hts in_X1_start_X1 tyX1 tyX1_ok nmX1 hown hK hP hD hS 0 rfl rfl 6 (by decide) (hts (.fieldLink RX1 53 "WitchTrial" "seerPlayer" "I") (List.mem_of_getElem? (i := 5) rfl)) (fun _ h9 => h9) rfl (by decide +kernel) rfl rfl (Nat.le_of_ble_eq_true rfl) dX1_start_33 (fun H locs hP hD hS => ?_)
    have hP : va_P D vwCl [cT hT hB hV (upd (upd (upd a 2 (nI n)) 3 (nI W)) 4 (nI x)), cB hB hG tr, cA cI hG 1120 g, cA cI hV 8 v] H := hP
    have hD : va_D A [cT hT hB hV (upd (upd (upd a 2 (nI n)) 3 (nI W)) 4 (nI x)), cB hB hG tr, cA cI hG 1120 g, cA cI hV 8 v] := hD
    refine lv_aload_n hx hb dX1_start_36 rfl (lv_at hl 0 rfl) ?_
    refine lv_iload hx hb dX1_start_37 (lv_at hl 4 rfl) ?_
    refine va_put (D := D) (cl := vwCl) (ci := 1) (v := .int (nI y)) (ty := .int) (C := RX1) (T := TX1) (N := 14) hx hb hts in_X1_start_X1 tyX1 tyX1_ok nmX1 hown hK hP hD hS 0 rfl rfl 7 (by decide) (hts (.fieldLink RX1 56 "WitchTrial" "guardPlayer" "I") (List.mem_of_getElem? (i := 6) rfl)) (fun _ h9 => h9) rfl (by decide +kernel) rfl rfl (Nat.le_of_ble_eq_true rfl) dX1_start_39 (fun H locs hP hD hS => ?_)
    have hP : va_P D vwCl [cT hT hB hV (upd (upd (upd (upd a 2 (nI n)) 3 (nI W)) 4 (nI x)) 5 (nI y)), cB hB hG tr, cA cI hG 1120 g, cA cI hV 8 v] H := hP
    have hD : va_D A [cT hT hB hV (upd (upd (upd (upd a 2 (nI n)) 3 (nI W)) 4 (nI x)) 5 (nI y)), cB hB hG tr, cA cI hG 1120 g, cA cI hV 8 v] := hD
    refine lv_aload_n hx hb dX1_start_42 rfl (lv_at hl 0 rfl) ?_
    refine lv_iload_n hx hb dX1_start_43 rfl (lv_at hl 1 rfl) ?_
    refine rd_S (As := [.int (nI n)]) (rest := [.ref hT]) ⟨hx, hb, hml, hown, hts⟩ (c_X1_everyone l D cI cZ cJ (nI n)) (va_cwS 1 hts gX1_start_X1_everyone rfl rfl rfl (by decide +kernel) ⟨Nat.le_of_ble_eq_true rfl, Nat.le_of_ble_eq_true rfl⟩) (hP.sub (ws' := []) [] rfl) hK hN rfl hl.1 rfl (Nat.le_of_ble_eq_true rfl) dX1_start_44 ⟨Nat.le_of_ble_eq_true rfl, Nat.le_of_ble_eq_true rfl⟩ ?_
    refine va_put (D := D) (cl := vwCl) (ci := 1) (v := .int (xAll (nI n))) (ty := .int) (C := RX1) (T := TX1) (N := 14) hx hb hts in_X1_start_X1 tyX1 tyX1_ok nmX1 hown hK hP hD hS 0 rfl rfl 8 (by decide) (hts (.fieldLink RX1 63 "WitchTrial" "aliveSet" "I") (List.mem_of_getElem? (i := 7) rfl)) (fun _ h9 => h9) rfl (by decide +kernel) rfl rfl (Nat.le_of_ble_eq_true rfl) dX1_start_47 (fun H locs hP hD hS => ?_)
    have hP : va_P D vwCl [cT hT hB hV (upd (upd (upd (upd (upd a 2 (nI n)) 3 (nI W)) 4 (nI x)) 5 (nI y)) 6 (xAll (nI n))), cB hB hG tr, cA cI hG 1120 g, cA cI hV 8 v] H := hP
    have hD : va_D A [cT hT hB hV (upd (upd (upd (upd (upd a 2 (nI n)) 3 (nI W)) 4 (nI x)) 5 (nI y)) 6 (xAll (nI n))), cB hB hG tr, cA cI hG 1120 g, cA cI hV 8 v] := hD
    refine lv_aload_n hx hb dX1_start_50 rfl (lv_at hl 0 rfl) ?_
    refine lv_iconst (v := 0) hx hb dX1_start_51 (by decide) ?_
    refine va_put (D := D) (cl := vwCl) (ci := 1) (v := .int 0) (ty := .int) (C := RX1) (T := TX1) (N := 14) hx hb hts in_X1_start_X1 tyX1 tyX1_ok nmX1 hown hK hP hD hS 0 rfl rfl 9 (by decide) (hts (.fieldLink RX1 66 "WitchTrial" "lookedAtSet" "I") (List.mem_of_getElem? (i := 8) rfl)) (fun _ h9 => h9) rfl (by decide +kernel) rfl rfl (Nat.le_of_ble_eq_true rfl) dX1_start_52 (fun H locs hP hD hS => ?_)
    have hP : va_P D vwCl [cT hT hB hV (upd (upd (upd (upd (upd (upd a 2 (nI n)) 3 (nI W)) 4 (nI x)) 5 (nI y)) 6 (xAll (nI n))) 7 0), cB hB hG tr, cA cI hG 1120 g, cA cI hV 8 v] H := hP
    have hD : va_D A [cT hT hB hV (upd (upd (upd (upd (upd (upd a 2 (nI n)) 3 (nI W)) 4 (nI x)) 5 (nI y)) 6 (xAll (nI n))) 7 0), cB hB hG tr, cA cI hG 1120 g, cA cI hV 8 v] := hD
    refine lv_aload_n hx hb dX1_start_55 rfl (lv_at hl 0 rfl) ?_
    refine lv_iconst (v := 1) hx hb dX1_start_56 (by decide) ?_
    refine va_put (D := D) (cl := vwCl) (ci := 1) (v := .int 1) (ty := .int) (C := RX1) (T := TX1) (N := 14) hx hb hts in_X1_start_X1 tyX1 tyX1_ok nmX1 hown hK hP hD hS 0 rfl rfl 3 (by decide) (hts (.fieldLink RX1 69 "WitchTrial" "dayNumber" "I") (List.mem_of_getElem? (i := 9) rfl)) (fun _ h9 => h9) rfl (by decide +kernel) rfl rfl (Nat.le_of_ble_eq_true rfl) dX1_start_57 (fun H locs hP hD hS => ?_)
    have hP : va_P D vwCl [cT hT hB hV (upd (upd (upd (upd (upd (upd (upd a 2 (nI n)) 3 (nI W)) 4 (nI x)) 5 (nI y)) 6 (xAll (nI n))) 7 0) 1 1), cB hB hG tr, cA cI hG 1120 g, cA cI hV 8 v] H := hP
    have hD : va_D A [cT hT hB hV (upd (upd (upd (upd (upd (upd (upd a 2 (nI n)) 3 (nI W)) 4 (nI x)) 5 (nI y)) 6 (xAll (nI n))) 7 0) 1 1), cB hB hG tr, cA cI hG 1120 g, cA cI hV 8 v] := hD
    refine lv_aload_n hx hb dX1_start_60 rfl (lv_at hl 0 rfl) ?_
    refine lv_iconst (v := 1) hx hb dX1_start_61 (by decide) ?_
    refine va_put (D := D) (cl := vwCl) (ci := 1) (v := .int 1) (ty := .int) (C := RX1) (T := TX1) (N := 14) hx hb hts in_X1_start_X1 tyX1 tyX1_ok nmX1 hown hK hP hD hS 0 rfl rfl 2 (by decide) (hts (.fieldLink RX1 20 "WitchTrial" "phase" "I") (List.mem_of_getElem? (i := 10) rfl)) (fun _ h9 => h9) rfl (by decide +kernel) rfl rfl (Nat.le_of_ble_eq_true rfl) dX1_start_62 (fun H locs hP hD hS => ?_)
    have hP : va_P D vwCl [cT hT hB hV (upd (upd (upd (upd (upd (upd (upd (upd a 2 (nI n)) 3 (nI W)) 4 (nI x)) 5 (nI y)) 6 (xAll (nI n))) 7 0) 1 1) 0 1), cB hB hG tr, cA cI hG 1120 g, cA cI hV 8 v] H := hP
    have hD : va_D A [cT hT hB hV (upd (upd (upd (upd (upd (upd (upd (upd a 2 (nI n)) 3 (nI W)) 4 (nI x)) 5 (nI y)) 6 (xAll (nI n))) 7 0) 1 1) 0 1), cB hB hG tr, cA cI hG 1120 g, cA cI hV 8 v] := hD
    refine lv_aload_n hx hb dX1_start_65 rfl (lv_at hl 0 rfl) ?_
    refine lv_iconst (v := (-1)) hx hb dX1_start_66 (by decide) ?_
    refine va_put (D := D) (cl := vwCl) (ci := 1) (v := .int (-1)) (ty := .int) (C := RX1) (T := TX1) (N := 14) hx hb hts in_X1_start_X1 tyX1 tyX1_ok nmX1 hown hK hP hD hS 0 rfl rfl 13 (by decide) (hts (.fieldLink RX1 33 "WitchTrial" "protectedLastNight" "I") (List.mem_of_getElem? (i := 11) rfl)) (fun _ h9 => h9) rfl (by decide +kernel) rfl rfl (Nat.le_of_ble_eq_true rfl) dX1_start_67 (fun H locs hP hD hS => ?_)
    have hP : va_P D vwCl [cT hT hB hV (upd (upd (upd (upd (upd (upd (upd (upd (upd a 2 (nI n)) 3 (nI W)) 4 (nI x)) 5 (nI y)) 6 (xAll (nI n))) 7 0) 1 1) 0 1) 11 (-1)), cB hB hG tr, cA cI hG 1120 g, cA cI hV 8 v] H := hP
    have hD : va_D A [cT hT hB hV (upd (upd (upd (upd (upd (upd (upd (upd (upd a 2 (nI n)) 3 (nI W)) 4 (nI x)) 5 (nI y)) 6 (xAll (nI n))) 7 0) 1 1) 0 1) 11 (-1)), cB hB hG tr, cA cI hG 1120 g, cA cI hV 8 v] := hD
    refine lv_aload_n hx hb dX1_start_70 rfl (lv_at hl 0 rfl) ?_
    refine mv_V (b := hT) (As := []) (rest := []) (W2 := [cT hT hB hV (upd (upd (upd (upd (upd (upd (upd (upd (upd a 2 (nI n)) 3 (nI W)) 4 (nI x)) 5 (nI y)) 6 (xAll (nI n))) 7 0) 1 1) 0 1) 11 (-1)), cB hB hG tr, cA cI hG 1120 g, cA cI hV 8 (iUp vM v 8)]) ⟨hx, hb, hml, hown, hts⟩ (c_X1_forgetVotes l D cI cZ cJ _ hT hB hV (upd (upd (upd (upd (upd (upd (upd (upd (upd a 2 (nI n)) 3 (nI W)) 4 (nI x)) 5 (nI y)) 6 (xAll (nI n))) 7 0) 1 1) 0 1) 11 (-1)) v) (cwV 0 hts gX1_start_X1_forgetVotes rfl rfl rfl (by decide +kernel) ⟨Nat.le_of_ble_eq_true rfl, Nat.le_of_ble_eq_true rfl⟩) hP hD hK hN hS hA (va_recv hK hP (ci := 1) (q0 := 0) rfl rfl) rfl hl.1 rfl (Nat.le_of_ble_eq_true rfl) dX1_start_71 ⟨Nat.le_of_ble_eq_true rfl, Nat.le_of_ble_eq_true rfl⟩ [0, 3] [1, 2] rfl rfl rfl (by intro i hi; simp only [List.mem_cons, List.not_mem_nil, or_false] at hi; rcases hi with rfl | rfl <;> rfl) rfl 4 rfl (by decide) (by decide) (fun H locs hP hD hS => ?_)
    refine lv_aload_n hx hb dX1_start_74 rfl (lv_at hl 0 rfl) ?_
    refine mv_V (b := hT) (As := []) (rest := []) (W2 := [cT hT hB hV (aF (upd (upd (upd (upd (upd (upd (upd (upd (upd a 2 (nI n)) 3 (nI W)) 4 (nI x)) 5 (nI y)) 6 (xAll (nI n))) 7 0) 1 1) 0 1) 11 (-1))), cB hB hG tr, cA cI hG 1120 g, cA cI hV 8 (iUp vM v 8)]) ⟨hx, hb, hml, hown, hts⟩ (c_X1_forgetChoices l D cI cZ cJ _ hT hB hV (upd (upd (upd (upd (upd (upd (upd (upd (upd a 2 (nI n)) 3 (nI W)) 4 (nI x)) 5 (nI y)) 6 (xAll (nI n))) 7 0) 1 1) 0 1) 11 (-1))) (cwV 0 hts gX1_start_X1_forgetChoices rfl rfl rfl (by decide +kernel) ⟨Nat.le_of_ble_eq_true rfl, Nat.le_of_ble_eq_true rfl⟩) hP hD hK hN hS hA (va_recv hK hP (ci := 1) (q0 := 0) rfl rfl) rfl hl.1 rfl (Nat.le_of_ble_eq_true rfl) dX1_start_75 ⟨Nat.le_of_ble_eq_true rfl, Nat.le_of_ble_eq_true rfl⟩ [0] [1, 2, 3] rfl rfl rfl (by intro i hi; simp only [List.mem_cons, List.not_mem_nil, or_false] at hi; rcases hi with rfl | rfl | rfl <;> rfl) rfl 4 rfl (by decide) (by decide) (fun H locs hP hD hS => ?_)
    refine lv_aload_n hx hb dX1_start_78 rfl (lv_at hl 0 rfl) ?_
    refine va_get (D := D) (cl := vwCl) (ci := 1) (v := .ref hB) (C := RX1) (T := TX1) (N := 14) hx hb hts in_X1_start_X1 hown hK hP 0 rfl rfl 0 (by decide) (hts (.fieldLink RX1 12 "WitchTrial" "book" "LWitchTrial$Book;") (List.mem_of_getElem? (i := 12) rfl)) (fun _ h9 => h9) rfl dX1_start_79 ?_
    refine lv_iload_n hx hb dX1_start_82 rfl (lv_at hl 1 rfl) ?_
    refine lv_iload_n hx hb dX1_start_83 rfl (lv_at hl 2 rfl) ?_
    refine lv_iload_n hx hb dX1_start_84 rfl (lv_at hl 3 rfl) ?_
    refine lv_iload hx hb dX1_start_85 (lv_at hl 4 rfl) ?_
    refine rd_S (As := [.int (nI W), .int (nI x), .int (nI y)]) (rest := [.int (nI n), .ref hB]) ⟨hx, hb, hml, hown, hts⟩ (c_X1_worldOf l D cI cZ cJ (nI W) (nI x) (nI y)) (va_cwS 3 hts gX1_start_X1_worldOf rfl rfl rfl (by decide +kernel) ⟨Nat.le_of_ble_eq_true rfl, Nat.le_of_ble_eq_true rfl⟩) (hP.sub (ws' := []) [] rfl) hK hN rfl hl.1 rfl (Nat.le_of_ble_eq_true rfl) dX1_start_87 ⟨Nat.le_of_ble_eq_true rfl, Nat.le_of_ble_eq_true rfl⟩ ?_
    refine mv_VN (b := hB) (As := [.int (nI n), .int (yWo (nI W) (nI x) (nI y))]) (rest := []) (W2 := [cT hT hB hV (aF (upd (upd (upd (upd (upd (upd (upd (upd (upd a 2 (nI n)) 3 (nI W)) 4 (nI x)) 5 (nI y)) 6 (xAll (nI n))) 7 0) 1 1) 0 1) 11 (-1))), cB hB hG (yWo (nI W) (nI x) (nI y)), cA cI hG 1120 (pgF P 16384), cA cI hV 8 (iUp vM v 8)]) ⟨hx, hb, hml, hown, hts⟩ (c_X0_open l D cI cZ cJ _ hB hG tr g n (yWo (nI W) (nI x) (nI y)) P hn8 hP9 hF9 hB9 hg0) ⟨va_cnB 2 hts gX1_start_X0_open_n82 rfl rfl rfl (hN.link 1 rfl) (hts (.initialized RX0) (List.mem_of_getElem? (i := 53) rfl)) (by decide +kernel) ⟨Nat.le_of_ble_eq_true rfl, Nat.le_of_ble_eq_true rfl⟩, (hts (.instanceMethod yX0_open) (List.mem_of_getElem? (i := 52) rfl)), (hts (.selects RX0 yX0_open yX0_open) (List.mem_of_getElem? (i := 54) rfl))⟩ hP hD hK hN hS hA (va_recv hK hP (ci := 0) (q0 := 1) rfl rfl) rfl hl.1 rfl (Nat.le_of_ble_eq_true rfl) dX1_start_90 ⟨Nat.le_of_ble_eq_true rfl, Nat.le_of_ble_eq_true rfl⟩ [1, 2] [0, 3] rfl rfl rfl (by intro i hi; simp only [List.mem_cons, List.not_mem_nil, or_false] at hi; rcases hi with rfl | rfl <;> rfl) rfl 4 rfl (by decide) (by decide) (fun H locs hP hD hS => ?_)
    refine lv_aload_n hx hb dX1_start_93 rfl (lv_at hl 0 rfl) ?_
    refine va_get (D := D) (cl := vwCl) (ci := 1) (v := .ref hB) (C := RX1) (T := TX1) (N := 14) hx hb hts in_X1_start_X1 hown hK hP 0 rfl rfl 0 (by decide) (hts (.fieldLink RX1 12 "WitchTrial" "book" "LWitchTrial$Book;") (List.mem_of_getElem? (i := 12) rfl)) (fun _ h9 => h9) rfl dX1_start_94 ?_
    refine lv_aload_n hx hb dX1_start_97 rfl (lv_at hl 0 rfl) ?_
    refine lv_iconst (v := (-1)) hx hb dX1_start_98 (by decide) ?_
    refine rd_V (b := hT) (As := [.int (-1)]) (rest := [.ref hB]) ⟨hx, hb, hml, hown, hts⟩ (c_X1_knownBits l D cI cZ cJ hT hB hV (aF (upd (upd (upd (upd (upd (upd (upd (upd (upd a 2 (nI n)) 3 (nI W)) 4 (nI x)) 5 (nI y)) 6 (xAll (nI n))) 7 0) 1 1) 0 1) 11 (-1))) (-1)) (cwV 1 hts gX1_start_X1_knownBits rfl rfl rfl (by decide +kernel) ⟨Nat.le_of_ble_eq_true rfl, Nat.le_of_ble_eq_true rfl⟩) (hP.sub (ws' := [cT hT hB hV (aF (upd (upd (upd (upd (upd (upd (upd (upd (upd a 2 (nI n)) 3 (nI W)) 4 (nI x)) 5 (nI y)) 6 (xAll (nI n))) 7 0) 1 1) 0 1) 11 (-1)))]) [0] rfl) hK hN (va_recv hK hP (ci := 1) (q0 := 0) rfl rfl) rfl hl.1 rfl (Nat.le_of_ble_eq_true rfl) dX1_start_99 ⟨Nat.le_of_ble_eq_true rfl, Nat.le_of_ble_eq_true rfl⟩ ?_
    refine rd_VN (b := hB) (As := [.int (yKn (aF (upd (upd (upd (upd (upd (upd (upd (upd (upd a 2 (nI n)) 3 (nI W)) 4 (nI x)) 5 (nI y)) 6 (xAll (nI n))) 7 0) 1 1) 0 1) 11 (-1))) (-1))]) (rest := []) ⟨hx, hb, hml, hown, hts⟩ (c_X0_count l D cI cZ cJ hB hG (yWo (nI W) (nI x) (nI y)) (pgF P 16384) (yKn (aF (upd (upd (upd (upd (upd (upd (upd (upd (upd a 2 (nI n)) 3 (nI W)) 4 (nI x)) 5 (nI y)) 6 (xAll (nI n))) 7 0) 1 1) 0 1) 11 (-1))) (-1)) (nCt P 16384) hB9 (pgF_ok hE9 16384).1 (pgF_ok hE9 16384).2) ⟨va_cnB 1 hts gX1_start_X0_count_n89 rfl rfl rfl (hN.link 6 rfl) (hts (.initialized RX0) (List.mem_of_getElem? (i := 53) rfl)) (by decide +kernel) ⟨Nat.le_of_ble_eq_true rfl, Nat.le_of_ble_eq_true rfl⟩, (hts (.instanceMethod yX0_count) (List.mem_of_getElem? (i := 77) rfl)), (hts (.selects RX0 yX0_count yX0_count) (List.mem_of_getElem? (i := 78) rfl))⟩ (hP.sub (ws' := [cB hB hG (yWo (nI W) (nI x) (nI y)), cA cI hG 1120 (pgF P 16384)]) [1, 2] rfl) hK hN (va_recv hK hP (ci := 0) (q0 := 1) rfl rfl) rfl hl.1 rfl (Nat.le_of_ble_eq_true rfl) dX1_start_102 ⟨Nat.le_of_ble_eq_true rfl, Nat.le_of_ble_eq_true rfl⟩ ?_
    have hP9 : va_P D vwCl [cT hT hB hV (aYs a (nI n) (nI W) (nI x) (nI y)), cB hB hG (yWo (nI W) (nI x) (nI y)), cA cI hG 1120 (pgF P 16384), cA cI hV 8 (iUp vM v 8)] H := by
      have e9_0 : (aYs a (nI n) (nI W) (nI x) (nI y)) = (aF (upd (upd (upd (upd (upd (upd (upd (upd (upd a 2 (nI n)) 3 (nI W)) 4 (nI x)) 5 (nI y)) 6 (xAll (nI n))) 7 0) 1 1) 0 1) 11 (-1))) := by (first | rfl | (simp only [aYs, bI, c_1, eq_self, ↓reduceIte]; done) | (simp only [aYs, bI, c_1, eq_self, ↓reduceIte]; rfl) | simp [aYs, bI, c_1])
      rw [e9_0]
      exact hP
    exact mi_iret hx hb hr hlocks hS (by unfold aYs; rfl) hP9 dX1_start_105
  · have c_1 : (yGood (nI n) (nI W) (nI x) (nI y)) = false := bI_0 c_1
    simp [h1] at c_1
