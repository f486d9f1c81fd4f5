theorem in_X0_open_X0 : ∀ w ∈ wsX00, w ∈ wsX0_open := by decide +kernel
set_option maxHeartbeats 2000000 in
set_option maxRecDepth 100000 in
theorem c_X0_open (l : Launch) (D : va_G) (cI cZ cJ : ClassId) (sz : Nat) (hB : Nat) (hG : Nat) (tr : Int32) (g : Nat → Int32) (n : Nat) (tw : Int32) (P : Nat → Bool) (hn8 : n ≤ 8) (hP9 : ∀ W x y, W < 2 ^ n → x < n → y < n → yPop (nI W) = yPop (tw &&& 255) → P (64 * W + (8 * x + y)) = (!decide (nI x = nI y) && yHo (nI n) (nI W) (nI x) && yHo (nI n) (nI W) (nI y))) (hF9 : ∀ W x y, W < 256 → x < 8 → y < 8 → (W = 0 ∨ 2 ^ n ≤ W ∨ ¬ yPop (nI W) = yPop (tw &&& 255) ∨ n ≤ x ∨ n ≤ y) → P (64 * W + (8 * x + y)) = false) (hB9 : nCt P 16384 ≤ 1120) (hg0 : ∀ j, 1120 ≤ j → g j = 0) : Mv l D cI cZ cJ yX0_open wsX0_open 3 69 sz [.ref hB, .int (nI n), .int tw] [cB hB hG tr, cA cI hG 1120 g] [cB hB hG tw, cA cI hG 1120 (pgF P 16384)] := by
  refine mv_of (by decide) rfl (Nat.le_of_ble_eq_true rfl) (fun p e s m below meth c ls A hx hb hr hml hts hown hlocks hin hP hK hN hD hA hS hl => ?_)
  have hl : lv_has ls 6 [(0, .ref hB), (1, .int (nI n)), (2, .int tw)] := hl
  obtain ⟨hall, hpw1, hpw2⟩ := allE n hn8
  refine lv_aload_n hx hb dX0_open_0 rfl (lv_at hl 0 rfl) ?_
  refine lv_iload_n hx hb dX0_open_1 rfl (lv_at hl 2 rfl) ?_
  refine va_put (D := D) (cl := vwCl) (ci := 0) (v := .int tw) (ty := .int) (C := RX0) (T := TX0) (N := 2) hx hb hts in_X0_open_X0 tyX0 tyX0_ok nmX0 hown hK hP hD hS 0 rfl rfl 1 (by decide) (hts (.fieldLink RX0 15 "WitchTrial$Book" "truth" "I") (List.mem_of_getElem? (i := 1) rfl)) (fun _ h9 => h9) rfl (by decide +kernel) rfl rfl (Nat.le_of_ble_eq_true rfl) dX0_open_2 (fun H locs hP hD hS => ?_)
  have hP : va_P D vwCl [cB hB hG tw, cA cI hG 1120 g] H := hP
  have hD : va_D A [cB hB hG tw, cA cI hG 1120 g] := hD
  refine lv_aload_n hx hb dX0_open_5 rfl (lv_at hl 0 rfl) ?_
  refine va_get (D := D) (cl := vwCl) (ci := 0) (v := .ref hG) (C := RX0) (T := TX0) (N := 2) hx hb hts in_X0_open_X0 hown hK hP 0 rfl rfl 0 (by decide) (hts (.fieldLink RX0 11 "WitchTrial$Book" "pages" "[I") (List.mem_of_getElem? (i := 2) rfl)) (fun _ h9 => h9) rfl dX0_open_6 ?_
  refine lv_iconst (v := 0) hx hb dX0_open_9 (by decide) ?_
  refine mv_S (As := [.ref hG, .int 0]) (rest := []) (W2 := [cB hB hG tw, cA cI hG 1120 (iUp (fun _ => 0) g 1120)]) ⟨hx, hb, hml, hown, hts⟩ (c_fill1120 l D cI cZ cJ _ hG g 0) (va_cwS 2 hts gX0_open_J7_fill_53178 rfl rfl rfl (by decide +kernel) ⟨Nat.le_of_ble_eq_true rfl, Nat.le_of_ble_eq_true rfl⟩) hP hD hK hN hS hA rfl hl.1 rfl (Nat.le_of_ble_eq_true rfl) dX0_open_10 ⟨Nat.le_of_ble_eq_true rfl, Nat.le_of_ble_eq_true rfl⟩ [1] [0] rfl rfl rfl (by intro i hi; simp only [List.mem_cons, List.not_mem_nil, or_false] at hi; rcases hi with rfl <;> rfl) rfl 2 rfl (by decide) (by decide) (fun H locs hP hD hS => ?_)
  refine lv_iload_n hx hb dX0_open_13 rfl (lv_at hl 2 rfl) ?_
  refine rd_SN (As := [.int tw]) (rest := []) ⟨hx, hb, hml, hown, hts⟩ (c_X1_witchesOf l D cI cZ cJ tw) ⟨va_cnB 1 hts gX0_open_X1_witchesOf_n25 rfl rfl rfl (hN.link 2 rfl) (hts (.initialized RX1) (List.mem_of_getElem? (i := 8) rfl)) (by decide +kernel) ⟨Nat.le_of_ble_eq_true rfl, Nat.le_of_ble_eq_true rfl⟩, (hts (.static yX1_witchesOf) (List.mem_of_getElem? (i := 7) rfl)), trivial⟩ (hP.sub (ws' := []) [] rfl) hK hN rfl hl.1 rfl (Nat.le_of_ble_eq_true rfl) dX0_open_14 ⟨Nat.le_of_ble_eq_true rfl, Nat.le_of_ble_eq_true rfl⟩ ?_
  refine rd_S (As := [.int (tw &&& 255)]) (rest := []) ⟨hx, hb, hml, hown, hts⟩ (c_J6_bitCount_0f7a4 l D cI cZ cJ (tw &&& 255)) (va_cwS 1 hts gX0_open_J6_bitCount_0f7a4 rfl rfl rfl (by decide +kernel) ⟨Nat.le_of_ble_eq_true rfl, Nat.le_of_ble_eq_true rfl⟩) (hP.sub (ws' := []) [] rfl) hK hN rfl hl.1 rfl (Nat.le_of_ble_eq_true rfl) dX0_open_17 ⟨Nat.le_of_ble_eq_true rfl, Nat.le_of_ble_eq_true rfl⟩ ?_
  refine lv_istore_n (lv' := [(3, .int (yPop (tw &&& 255))), (0, .ref hB), (1, .int (nI n)), (2, .int tw)]) hx hb dX0_open_20 rfl hl (by decide) rfl (fun ls hl => ?_)
  refine lv_iconst (v := 0) hx hb dX0_open_21 (by decide) ?_
  refine lv_istore (lv' := [(4, .int 0), (3, .int (yPop (tw &&& 255))), (0, .ref hB), (1, .int (nI n)), (2, .int tw)]) hx hb dX0_open_22 hl (by decide) rfl (fun ls hl => ?_)
  refine lv_iconst (v := 1) hx hb dX0_open_24 (by decide) ?_
  refine lv_istore (lv' := [(5, .int 1), (4, .int 0), (3, .int (yPop (tw &&& 255))), (0, .ref hB), (1, .int (nI n)), (2, .int tw)]) hx hb dX0_open_25 hl (by decide) rfl (fun ls hl => ?_)
  refine loop_M (D := D) (nL := 6) (h := 27) (2 ^ n) (fun i => [(0, .ref hB), (1, .int (nI n)), (2, .int tw), (3, .int (yPop (tw &&& 255))), (4, .int (nI (nCt P (64 * i)))), (5, .int (nI i))]) (fun i => [cB hB hG tw, cA cI hG 1120 (pgF P (64 * i))]) (fun _ => True) (fun i hi hI ih_i H locs ls hP hD hS hl => ?_) 1 (by omega) trivial _ _ ls ?_ ?_ hS ?_
  · have hl : lv_has ls 6 [(0, .ref hB), (1, .int (nI n)), (2, .int tw), (3, .int (yPop (tw &&& 255))), (4, .int (nI (nCt P (64 * i)))), (5, .int (nI i))] := hl
    have hP : va_P D vwCl [cB hB hG tw, cA cI hG 1120 (pgF P (64 * i))] H := hP
    have hD : va_D A [cB hB hG tw, cA cI hG 1120 (pgF P (64 * i))] := hD
    refine lv_iload hx hb dX0_open_27 (lv_at hl 5 rfl) ?_
    refine lv_iload_n hx hb dX0_open_29 rfl (lv_at hl 1 rfl) ?_
    refine rd_SN (As := [.int (nI n)]) (rest := [.int (nI i)]) ⟨hx, hb, hml, hown, hts⟩ (c_X1_everyone l D cI cZ cJ (nI n)) ⟨va_cnB 1 hts gX0_open_X1_everyone_n34 rfl rfl rfl (hN.link 3 rfl) (hts (.initialized RX1) (List.mem_of_getElem? (i := 8) rfl)) (by decide +kernel) ⟨Nat.le_of_ble_eq_true rfl, Nat.le_of_ble_eq_true rfl⟩, (hts (.static yX1_everyone) (List.mem_of_getElem? (i := 17) rfl)), trivial⟩ (hP.sub (ws' := []) [] rfl) hK hN rfl hl.1 rfl (Nat.le_of_ble_eq_true rfl) dX0_open_30 ⟨Nat.le_of_ble_eq_true rfl, Nat.le_of_ble_eq_true rfl⟩ ?_
    refine lv_icmp_gt (tgt := 62) hx hb dX0_open_33 (by decide) (fun c_2 => ?_) (fun c_2 => ?_)
    · have hi9 : i = 2 ^ n := opG hn8 hi c_2
      subst hi9
      have hP9 : va_P D vwCl [cB hB hG tw, cA cI hG 1120 (pgF P 16384)] H := by
        have e9_0 : (pgF P 16384) = (pgF P (64 * (2 ^ n))) := by exact pgF_skip (by omega) (opE (B := fun W => ¬ yPop (nI W) = yPop (tw &&& 255)) hF9)
        rw [e9_0]
        exact hP
      exact mv_ret hx hb hr hlocks hS hP9 dX0_open_62
    · have hlt : i < 2 ^ n := opL hn8 hi c_2
      refine lv_iload hx hb dX0_open_36 (lv_at hl 5 rfl) ?_
      refine rd_S (As := [.int (nI i)]) (rest := []) ⟨hx, hb, hml, hown, hts⟩ (c_J6_bitCount_0f7a4 l D cI cZ cJ (nI i)) (va_cwS 1 hts gX0_open_J6_bitCount_0f7a4 rfl rfl rfl (by decide +kernel) ⟨Nat.le_of_ble_eq_true rfl, Nat.le_of_ble_eq_true rfl⟩) (hP.sub (ws' := []) [] rfl) hK hN rfl hl.1 rfl (Nat.le_of_ble_eq_true rfl) dX0_open_38 ⟨Nat.le_of_ble_eq_true rfl, Nat.le_of_ble_eq_true rfl⟩ ?_
      refine lv_iload_n hx hb dX0_open_41 rfl (lv_at hl 3 rfl) ?_
      refine lv_icmp_ne (tgt := 56) hx hb dX0_open_42 (by decide) (fun c_3 => ?_) (fun c_3 => ?_)
      · refine lv_iinc (v := (nI (i + 1))) (lv' := [(5, .int (nI (i + 1))), (0, .ref hB), (1, .int (nI n)), (2, .int tw), (3, .int (yPop (tw &&& 255))), (4, .int (nI (nCt P (64 * i))))]) hx hb dX0_open_56 hl (k := 5) rfl (nI_1 i) (by decide) rfl (fun ls hl => ?_)
        refine lv_goto (tgt := 27) hx hb dX0_open_59 (by decide) ?_
        have eb_0 : (nI (nCt P (64 * (i + 1)))) = (nI (nCt P (64 * i))) := by exact congrArg nI (nCt_skip (by omega) (opB (B := fun W => ¬ yPop (nI W) = yPop (tw &&& 255)) hF9 (by omega) c_3))
        have ew_0 : (pgF P (64 * (i + 1))) = (pgF P (64 * i)) := by exact pgF_skip (by omega) (opB (B := fun W => ¬ yPop (nI W) = yPop (tw &&& 255)) hF9 (by omega) c_3)
        exact ih_i (by omega) trivial _ _ ls (by show va_P D vwCl [cB hB hG tw, cA cI hG 1120 (pgF P (64 * (i + 1)))] _; rw [ew_0]; exact hP) (by show va_D A [cB hB hG tw, cA cI hG 1120 (pgF P (64 * (i + 1)))]; rw [ew_0]; exact hD) hS (by show lv_has ls 6 [(0, .ref hB), (1, .int (nI n)), (2, .int tw), (3, .int (yPop (tw &&& 255))), (4, .int (nI (nCt P (64 * (i + 1))))), (5, .int (nI (i + 1)))]; rw [eb_0]; exact lv_sub hl [1, 2, 3, 4, 5, 0] rfl)
      · refine lv_aload_n hx hb dX0_open_45 rfl (lv_at hl 0 rfl) ?_
        refine lv_iload_n hx hb dX0_open_46 rfl (lv_at hl 1 rfl) ?_
        refine lv_iload hx hb dX0_open_47 (lv_at hl 5 rfl) ?_
        refine lv_iload hx hb dX0_open_49 (lv_at hl 4 rfl) ?_
        refine mi_V (b := hB) (As := [.int (nI n), .int (nI i), .int (nI (nCt P (64 * i)))]) (rest := []) (W2 := [cB hB hG tw, cA cI hG 1120 (pgF P (64 * i + 64))]) ⟨hx, hb, hml, hown, hts⟩ (c_X0_addWorlds l D cI cZ cJ _ hB hG tw n i P hn8 (by omega) (fun x y h1 h2 => hP9 i x y hlt h1 h2 c_3) (fun x y h1 h2 h3 => hF9 i x y (by omega) h1 h2 (Or.inr (Or.inr (Or.inr h3)))) hB9) (cwV 3 hts gX0_open_X0_addWorlds rfl rfl rfl (by decide +kernel) ⟨Nat.le_of_ble_eq_true rfl, Nat.le_of_ble_eq_true rfl⟩) hP hD hK hN hS hA (va_recv hK hP (ci := 0) (q0 := 0) rfl rfl) rfl hl.1 rfl (Nat.le_of_ble_eq_true rfl) dX0_open_51 ⟨Nat.le_of_ble_eq_true rfl, Nat.le_of_ble_eq_true rfl⟩ [0, 1] [] rfl rfl rfl (fun i hi => nomatch hi) rfl 2 rfl (by decide) (by decide) (fun H locs hP hD hS => ?_)
        refine lv_istore (lv' := [(4, .int (nI (nCt P (64 * i + 64)))), (0, .ref hB), (1, .int (nI n)), (2, .int tw), (3, .int (yPop (tw &&& 255))), (5, .int (nI i))]) hx hb dX0_open_54 hl (by decide) rfl (fun ls hl => ?_)
        refine lv_iinc (v := (nI (i + 1))) (lv' := [(5, .int (nI (i + 1))), (4, .int (nI (nCt P (64 * i + 64)))), (0, .ref hB), (1, .int (nI n)), (2, .int tw), (3, .int (yPop (tw &&& 255)))]) hx hb dX0_open_56 hl (k := 5) rfl (nI_1 i) (by decide) rfl (fun ls hl => ?_)
        refine lv_goto (tgt := 27) hx hb dX0_open_59 (by decide) ?_
        have eb_0 : (nI (nCt P (64 * (i + 1)))) = (nI (nCt P (64 * i + 64))) := by exact congrArg nI (congrArg (nCt P) (by omega))
        have ew_0 : (pgF P (64 * (i + 1))) = (pgF P (64 * i + 64)) := by exact congrArg (pgF P) (by omega)
        exact ih_i (by omega) trivial _ _ ls (by show va_P D vwCl [cB hB hG tw, cA cI hG 1120 (pgF P (64 * (i + 1)))] _; rw [ew_0]; exact hP) (by show va_D A [cB hB hG tw, cA cI hG 1120 (pgF P (64 * (i + 1)))]; rw [ew_0]; exact hD) hS (by show lv_has ls 6 [(0, .ref hB), (1, .int (nI n)), (2, .int tw), (3, .int (yPop (tw &&& 255))), (4, .int (nI (nCt P (64 * (i + 1))))), (5, .int (nI (i + 1)))]; rw [eb_0]; exact lv_sub hl [2, 3, 4, 5, 1, 0] rfl)
  · show va_P D vwCl [cB hB hG tw, cA cI hG 1120 (pgF P (64 * 1))] _
    have ez_0 : (pgF P (64 * 1)) = (iUp (fun _ => 0) g 1120) := by exact (pgF_skip (by omega) (op0 (B := fun W => ¬ yPop (nI W) = yPop (tw &&& 255)) hF9)).trans (iUp_all hg0).symm
    rw [ez_0]
    exact hP
  · show va_D A [cB hB hG tw, cA cI hG 1120 (pgF P (64 * 1))]
    have ez_0 : (pgF P (64 * 1)) = (iUp (fun _ => 0) g 1120) := by exact (pgF_skip (by omega) (op0 (B := fun W => ¬ yPop (nI W) = yPop (tw &&& 255)) hF9)).trans (iUp_all hg0).symm
    rw [ez_0]
    exact hD
  · show lv_has ls 6 [(0, .ref hB), (1, .int (nI n)), (2, .int tw), (3, .int (yPop (tw &&& 255))), (4, .int (nI (nCt P (64 * 1)))), (5, .int (nI 1))]
    have en_0 : (nI (nCt P (64 * 1))) = 0 := by exact (congrArg nI (nCt_skip (by omega) (op0 (B := fun W => ¬ yPop (nI W) = yPop (tw &&& 255)) hF9))).trans nI_0
    rw [en_0]
    have en_1 : (nI 1) = 1 := by rfl
    rw [en_1]
    exact lv_sub hl [3, 4, 5, 2, 1, 0] rfl

theorem in_X1_forgetVotes_X1 : ∀ w ∈ wsX10, w ∈ wsX1_forgetVotes := by decide +kernel
set_option maxHeartbeats 2000000 in
set_option maxRecDepth 100000 in
theorem c_X1_forgetVotes (l : Launch) (D : va_G) (cI cZ cJ : ClassId) (sz : Nat) (hT : Nat) (hB : Nat) (hV : Nat) (a : Nat → Int32) (v : Nat → Int32)  : Mv l D cI cZ cJ yX1_forgetVotes wsX1_forgetVotes 1 23 sz [.ref hT] [cT hT hB hV a, cA cI hV 8 v] [cT hT hB hV a, cA cI hV 8 (iUp vM v 8)] := by
  refine mv_of (by decide) rfl (Nat.le_of_ble_eq_true rfl) (fun p e s m below meth c ls A hx hb hr hml hts hown hlocks hin hP hK hN hD hA hS hl => ?_)
  have hl : lv_has ls 1 [(0, .ref hT)] := hl
  refine lv_aload_n hx hb dX1_forgetVotes_0 rfl (lv_at hl 0 rfl) ?_
  refine va_get (D := D) (cl := vwCl) (ci := 1) (v := .ref hV) (C := RX1) (T := TX1) (N := 14) hx hb hts in_X1_forgetVotes_X1 hown hK hP 0 rfl rfl 1 (by decide) (hts (.fieldLink RX1 16 "WitchTrial" "voteOf" "[I") (List.mem_of_getElem? (i := 1) rfl)) (fun _ h9 => h9) rfl dX1_forgetVotes_1 ?_
  refine lv_iconst (v := (-1)) hx hb dX1_forgetVotes_4 (by decide) ?_
  refine mv_S (As := [.ref hV, .int (-1)]) (rest := []) (W2 := [cT hT hB hV a, cA cI hV 8 (iUp (fun _ => (-1)) v 8)]) ⟨hx, hb, hml, hown, hts⟩ (c_fill8 l D cI cZ cJ _ hV v (-1)) (va_cwS 2 hts gX1_forgetVotes_J7_fill_53178 rfl rfl rfl (by decide +kernel) ⟨Nat.le_of_ble_eq_true rfl, Nat.le_of_ble_eq_true rfl⟩) hP hD hK hN hS hA rfl hl.1 rfl (Nat.le_of_ble_eq_true rfl) dX1_forgetVotes_5 ⟨Nat.le_of_ble_eq_true rfl, Nat.le_of_ble_eq_true rfl⟩ [1] [0] rfl rfl rfl (by intro i hi; simp only [List.mem_cons, List.not_mem_nil, or_false] at hi; rcases hi with rfl <;> rfl) rfl 2 rfl (by decide) (by decide) (fun H locs hP hD hS => ?_)
  have hP9 : va_P D vwCl [cT hT hB hV a, cA cI hV 8 (iUp vM v 8)] H := by
    have e9_0 : (iUp vM v 8) = (iUp (fun _ => (-1)) v 8) := by (first | rfl | (simp only [bI, eq_self, ↓reduceIte]; done) | (simp only [bI, eq_self, ↓reduceIte]; rfl) | simp [bI])
    rw [e9_0]
    exact hP
  exact mv_ret hx hb hr hlocks hS hP9 dX1_forgetVotes_8

theorem in_X1_forgetChoices_X1 : ∀ w ∈ wsX10, w ∈ wsX1_forgetChoices := by decide +kernel
set_option maxHeartbeats 2000000 in
set_option maxRecDepth 100000 in
theorem c_X1_forgetChoices (l : Launch) (D : va_G) (cI cZ cJ : ClassId) (sz : Nat) (hT : Nat) (hB : Nat) (hV : Nat) (a : Nat → Int32)  : Mv l D cI cZ cJ yX1_forgetChoices wsX1_forgetChoices 0 0 sz [.ref hT] [cT hT hB hV a] [cT hT hB hV (aF a)] := by
  refine mv_of (by decide) rfl (Nat.le_of_ble_eq_true rfl) (fun p e s m below meth c ls A hx hb hr hml hts hown hlocks hin hP hK hN hD hA hS hl => ?_)
  have hl : lv_has ls 1 [(0, .ref hT)] := hl
  refine lv_aload_n hx hb dX1_forgetChoices_0 rfl (lv_at hl 0 rfl) ?_
  refine lv_iconst (v := (-1)) hx hb dX1_forgetChoices_1 (by decide) ?_
  refine va_put (D := D) (cl := vwCl) (ci := 1) (v := .int (-1)) (ty := .int) (C := RX1) (T := TX1) (N := 14) hx hb hts in_X1_forgetChoices_X1 tyX1 tyX1_ok nmX1 hown hK hP hD hS 0 rfl rfl 10 (by decide) (hts (.fieldLink RX1 24 "WitchTrial" "protectChoice" "I") (List.mem_of_getElem? (i := 1) rfl)) (fun _ h9 => h9) rfl (by decide +kernel) rfl rfl (Nat.le_of_ble_eq_true rfl) dX1_forgetChoices_2 (fun H locs hP hD hS => ?_)
  have hP : va_P D vwCl [cT hT hB hV (upd a 8 (-1))] H := hP
  have hD : va_D A [cT hT hB hV (upd a 8 (-1))] := hD
  refine lv_aload_n hx hb dX1_forgetChoices_5 rfl (lv_at hl 0 rfl) ?_
  refine lv_iconst (v := (-1)) hx hb dX1_forgetChoices_6 (by decide) ?_
  refine va_put (D := D) (cl := vwCl) (ci := 1) (v := .int (-1)) (ty := .int) (C := RX1) (T := TX1) (N := 14) hx hb hts in_X1_forgetChoices_X1 tyX1 tyX1_ok nmX1 hown hK hP hD hS 0 rfl rfl 11 (by decide) (hts (.fieldLink RX1 27 "WitchTrial" "attackChoice" "I") (List.mem_of_getElem? (i := 2) rfl)) (fun _ h9 => h9) rfl (by decide +kernel) rfl rfl (Nat.le_of_ble_eq_true rfl) dX1_forgetChoices_7 (fun H locs hP hD hS => ?_)
  have hP : va_P D vwCl [cT hT hB hV (upd (upd a 8 (-1)) 9 (-1))] H := hP
  have hD : va_D A [cT hT hB hV (upd (upd a 8 (-1)) 9 (-1))] := hD
  refine lv_aload_n hx hb dX1_forgetChoices_10 rfl (lv_at hl 0 rfl) ?_
  refine lv_iconst (v := (-1)) hx hb dX1_forgetChoices_11 (by decide) ?_
  refine va_put (D := D) (cl := vwCl) (ci := 1) (v := .int (-1)) (ty := .int) (C := RX1) (T := TX1) (N := 14) hx hb hts in_X1_forgetChoices_X1 tyX1 tyX1_ok nmX1 hown hK hP hD hS 0 rfl rfl 12 (by decide) (hts (.fieldLink RX1 30 "WitchTrial" "lookChoice" "I") (List.mem_of_getElem? (i := 3) rfl)) (fun _ h9 => h9) rfl (by decide +kernel) rfl rfl (Nat.le_of_ble_eq_true rfl) dX1_forgetChoices_12 (fun H locs hP hD hS => ?_)
  have hP : va_P D vwCl [cT hT hB hV (upd (upd (upd a 8 (-1)) 9 (-1)) 10 (-1))] H := hP
  have hD : va_D A [cT hT hB hV (upd (upd (upd a 8 (-1)) 9 (-1)) 10 (-1))] := hD
  have hP9 : va_P D vwCl [cT hT hB hV (aF a)] H := by
    have e9_0 : (aF a) = (upd (upd (upd a 8 (-1)) 9 (-1)) 10 (-1)) := by (first | rfl | (simp only [aF, bI, eq_self, ↓reduceIte]; done) | (simp only [aF, bI, eq_self, ↓reduceIte]; rfl) | simp [aF, bI])
    rw [e9_0]
    exact hP
  exact mv_ret hx hb hr hlocks hS hP9 dX1_forgetChoices_15

theorem in_X1_die_X1 : ∀ w ∈ wsX10, w ∈ wsX1_die := by decide +kernel
set_option maxHeartbeats 2000000 in
set_option maxRecDepth 100000 in
theorem c_X1_die (l : Launch) (D : va_G) (cI cZ cJ : ClassId) (sz : Nat) (hT : Nat) (hB : Nat) (hV : Nat) (a : Nat → Int32) (q : Int32)  : Mv l D cI cZ cJ yX1_die wsX1_die 1 20 sz [.ref hT, .int q] [cT hT hB hV a] [cT hT hB hV (aYd a q)] := by
  refine mv_of (by decide) rfl (Nat.le_of_ble_eq_true rfl) (fun p e s m below meth c ls A hx hb hr hml hts hown hlocks hin hP hK hN hD hA hS hl => ?_)
  have hl : lv_has ls 4 [(0, .ref hT), (1, .int q)] := hl
  refine lv_aload_n hx hb dX1_die_0 rfl (lv_at hl 0 rfl) ?_
  refine lv_aload_n hx hb dX1_die_1 rfl (lv_at hl 0 rfl) ?_
  refine va_get (D := D) (cl := vwCl) (ci := 1) (v := .int (a 6)) (C := RX1) (T := TX1) (N := 14) hx hb hts in_X1_die_X1 hown hK hP 0 rfl rfl 8 (by decide) (hts (.fieldLink RX1 63 "WitchTrial" "aliveSet" "I") (List.mem_of_getElem? (i := 1) rfl)) (fun _ h9 => h9) rfl dX1_die_2 ?_
  refine lv_iload_n hx hb dX1_die_5 rfl (lv_at hl 1 rfl) ?_
  refine rd_S (As := [.int q]) (rest := [.int (a 6), .ref hT]) ⟨hx, hb, hml, hown, hts⟩ (c_X1_setOf l D cI cZ cJ q) (va_cwS 1 hts gX1_die_X1_setOf rfl rfl rfl (by decide +kernel) ⟨Nat.le_of_ble_eq_true rfl, Nat.le_of_ble_eq_true rfl⟩) (hP.sub (ws' := []) [] rfl) hK hN rfl hl.1 rfl (Nat.le_of_ble_eq_true rfl) dX1_die_6 ⟨Nat.le_of_ble_eq_true rfl, Nat.le_of_ble_eq_true rfl⟩ ?_
  refine lv_iconst (v := (-1)) hx hb dX1_die_9 (by decide) ?_
  refine lv_ixor hx hb dX1_die_10 ?_
  refine lv_iand hx hb dX1_die_11 ?_
  refine va_put (D := D) (cl := vwCl) (ci := 1) (v := .int ((a 6) &&& ((yOf q) ^^^ (-1)))) (ty := .int) (C := RX1) (T := TX1) (N := 14) hx hb hts in_X1_die_X1 tyX1 tyX1_ok nmX1 hown hK hP hD hS 0 rfl rfl 8 (by decide) (hts (.fieldLink RX1 63 "WitchTrial" "aliveSet" "I") (List.mem_of_getElem? (i := 1) rfl)) (fun _ h9 => h9) rfl (by decide +kernel) rfl rfl (Nat.le_of_ble_eq_true rfl) dX1_die_12 (fun H locs hP hD hS => ?_)
  have hP : va_P D vwCl [cT hT hB hV (upd a 6 ((a 6) &&& ((yOf q) ^^^ (-1))))] H := hP
  have hD : va_D A [cT hT hB hV (upd a 6 ((a 6) &&& ((yOf q) ^^^ (-1))))] := hD
  refine lv_aload_n hx hb dX1_die_15 rfl (lv_at hl 0 rfl) ?_
  refine va_get (D := D) (cl := vwCl) (ci := 1) (v := .int ((a 6) &&& ((yOf q) ^^^ (-1)))) (C := RX1) (T := TX1) (N := 14) hx hb hts in_X1_die_X1 hown hK hP 0 rfl rfl 8 (by decide) (hts (.fieldLink RX1 63 "WitchTrial" "aliveSet" "I") (List.mem_of_getElem? (i := 1) rfl)) (fun _ h9 => h9) rfl dX1_die_16 ?_
  refine lv_aload_n hx hb dX1_die_19 rfl (lv_at hl 0 rfl) ?_
  refine va_get (D := D) (cl := vwCl) (ci := 1) (v := .int (a 3)) (C := RX1) (T := TX1) (N := 14) hx hb hts in_X1_die_X1 hown hK hP 0 rfl rfl 5 (by decide) (hts (.fieldLink RX1 50 "WitchTrial" "witchSet" "I") (List.mem_of_getElem? (i := 2) rfl)) (fun _ h9 => h9) rfl dX1_die_20 ?_
  refine lv_iand hx hb dX1_die_23 ?_
  refine rd_S (As := [.int (((a 6) &&& ((yOf q) ^^^ (-1))) &&& (a 3))]) (rest := []) ⟨hx, hb, hml, hown, hts⟩ (c_J6_bitCount_0f7a4 l D cI cZ cJ (((a 6) &&& ((yOf q) ^^^ (-1))) &&& (a 3))) (va_cwS 1 hts gX1_die_J6_bitCount_0f7a4 rfl rfl rfl (by decide +kernel) ⟨Nat.le_of_ble_eq_true rfl, Nat.le_of_ble_eq_true rfl⟩) (hP.sub (ws' := []) [] rfl) hK hN rfl hl.1 rfl (Nat.le_of_ble_eq_true rfl) dX1_die_24 ⟨Nat.le_of_ble_eq_true rfl, Nat.le_of_ble_eq_true rfl⟩ ?_
  refine lv_istore_n (lv' := [(2, .int (yPop (((a 6) &&& ((yOf q) ^^^ (-1))) &&& (a 3)))), (0, .ref hT), (1, .int q)]) hx hb dX1_die_27 rfl hl (by decide) rfl (fun ls hl => ?_)
  refine lv_aload_n hx hb dX1_die_28 rfl (lv_at hl 1 rfl) ?_
  refine va_get (D := D) (cl := vwCl) (ci := 1) (v := .int ((a 6) &&& ((yOf q) ^^^ (-1)))) (C := RX1) (T := TX1) (N := 14) hx hb hts in_X1_die_X1 hown hK hP 0 rfl rfl 8 (by decide) (hts (.fieldLink RX1 63 "WitchTrial" "aliveSet" "I") (List.mem_of_getElem? (i := 1) rfl)) (fun _ h9 => h9) rfl dX1_die_29 ?_
  refine lv_aload_n hx hb dX1_die_32 rfl (lv_at hl 1 rfl) ?_
  refine va_get (D := D) (cl := vwCl) (ci := 1) (v := .int (a 3)) (C := RX1) (T := TX1) (N := 14) hx hb hts in_X1_die_X1 hown hK hP 0 rfl rfl 5 (by decide) (hts (.fieldLink RX1 50 "WitchTrial" "witchSet" "I") (List.mem_of_getElem? (i := 2) rfl)) (fun _ h9 => h9) rfl dX1_die_33 ?_
  refine lv_iconst (v := (-1)) hx hb dX1_die_36 (by decide) ?_
  refine lv_ixor hx hb dX1_die_37 ?_
  refine lv_iand hx hb dX1_die_38 ?_
  refine rd_S (As := [.int (((a 6) &&& ((yOf q) ^^^ (-1))) &&& ((a 3) ^^^ (-1)))]) (rest := []) ⟨hx, hb, hml, hown, hts⟩ (c_J6_bitCount_0f7a4 l D cI cZ cJ (((a 6) &&& ((yOf q) ^^^ (-1))) &&& ((a 3) ^^^ (-1)))) (va_cwS 1 hts gX1_die_J6_bitCount_0f7a4 rfl rfl rfl (by decide +kernel) ⟨Nat.le_of_ble_eq_true rfl, Nat.le_of_ble_eq_true rfl⟩) (hP.sub (ws' := []) [] rfl) hK hN rfl hl.1 rfl (Nat.le_of_ble_eq_true rfl) dX1_die_39 ⟨Nat.le_of_ble_eq_true rfl, Nat.le_of_ble_eq_true rfl⟩ ?_
  refine lv_istore_n (lv' := [(3, .int (yPop (((a 6) &&& ((yOf q) ^^^ (-1))) &&& ((a 3) ^^^ (-1))))), (2, .int (yPop (((a 6) &&& ((yOf q) ^^^ (-1))) &&& (a 3)))), (0, .ref hT), (1, .int q)]) hx hb dX1_die_42 rfl hl (by decide) rfl (fun ls hl => ?_)
  refine lv_iload_n hx hb dX1_die_43 rfl (lv_at hl 1 rfl) ?_
  refine lv_if_ne (tgt := 55) hx hb dX1_die_44 (by decide) (fun c_1 => ?_) (fun c_1 => ?_)
  · refine lv_iload_n hx hb dX1_die_55 rfl (lv_at hl 1 rfl) ?_
    refine lv_iload_n hx hb dX1_die_56 rfl (lv_at hl 0 rfl) ?_
    refine lv_icmp_lt (tgt := 65) hx hb dX1_die_57 (by decide) (fun c_2 => ?_) (fun c_2 => ?_)
    · have hP9 : va_P D vwCl [cT hT hB hV (aYd a q)] H := by
        have e9_0 : (aYd a q) = (upd a 6 ((a 6) &&& ((yOf q) ^^^ (-1)))) := by (first | rfl | (simp only [aYd, aAl_y, bI, c_1, c_2, eq_self, ↓reduceIte]; done) | (simp only [aYd, aAl_y, bI, c_1, c_2, eq_self, ↓reduceIte]; rfl) | simp [aYd, aAl_y, bI, c_1, c_2])
        rw [e9_0]
        exact hP
      exact mv_ret hx hb hr hlocks hS hP9 dX1_die_65
    · refine lv_aload_n hx hb dX1_die_60 rfl (lv_at hl 2 rfl) ?_
      refine lv_iconst (v := 4) hx hb dX1_die_61 (by decide) ?_
      refine va_put (D := D) (cl := vwCl) (ci := 1) (v := .int 4) (ty := .int) (C := RX1) (T := TX1) (N := 14) hx hb hts in_X1_die_X1 tyX1 tyX1_ok nmX1 hown hK hP hD hS 0 rfl rfl 2 (by decide) (hts (.fieldLink RX1 20 "WitchTrial" "phase" "I") (List.mem_of_getElem? (i := 3) rfl)) (fun _ h9 => h9) rfl (by decide +kernel) rfl rfl (Nat.le_of_ble_eq_true rfl) dX1_die_62 (fun H locs hP hD hS => ?_)
      have hP : va_P D vwCl [cT hT hB hV (upd (upd a 6 ((a 6) &&& ((yOf q) ^^^ (-1)))) 0 4)] H := hP
      have hD : va_D A [cT hT hB hV (upd (upd a 6 ((a 6) &&& ((yOf q) ^^^ (-1)))) 0 4)] := hD
      have hP9 : va_P D vwCl [cT hT hB hV (aYd a q)] H := by
        have e9_0 : (aYd a q) = (upd (upd a 6 ((a 6) &&& ((yOf q) ^^^ (-1)))) 0 4) := by (first | rfl | (simp only [aYd, aAl_y, bI, c_1, c_2, eq_self, ↓reduceIte]; done) | (simp only [aYd, aAl_y, bI, c_1, c_2, eq_self, ↓reduceIte]; rfl) | simp [aYd, aAl_y, bI, c_1, c_2])
        rw [e9_0]
        exact hP
      exact mv_ret hx hb hr hlocks hS hP9 dX1_die_65
  · refine lv_aload_n hx hb dX1_die_47 rfl (lv_at hl 2 rfl) ?_
    refine lv_iconst (v := 3) hx hb dX1_die_48 (by decide) ?_
    refine va_put (D := D) (cl := vwCl) (ci := 1) (v := .int 3) (ty := .int) (C := RX1) (T := TX1) (N := 14) hx hb hts in_X1_die_X1 tyX1 tyX1_ok nmX1 hown hK hP hD hS 0 rfl rfl 2 (by decide) (hts (.fieldLink RX1 20 "WitchTrial" "phase" "I") (List.mem_of_getElem? (i := 3) rfl)) (fun _ h9 => h9) rfl (by decide +kernel) rfl rfl (Nat.le_of_ble_eq_true rfl) dX1_die_49 (fun H locs hP hD hS => ?_)
    have hP : va_P D vwCl [cT hT hB hV (upd (upd a 6 ((a 6) &&& ((yOf q) ^^^ (-1)))) 0 3)] H := hP
    have hD : va_D A [cT hT hB hV (upd (upd a 6 ((a 6) &&& ((yOf q) ^^^ (-1)))) 0 3)] := hD
    refine lv_goto (tgt := 65) hx hb dX1_die_52 (by decide) ?_
    have hP9 : va_P D vwCl [cT hT hB hV (aYd a q)] H := by
      have e9_0 : (aYd a q) = (upd (upd a 6 ((a 6) &&& ((yOf q) ^^^ (-1)))) 0 3) := by (first | rfl | (simp only [aYd, aAl_y, bI, c_1, eq_self, ↓reduceIte]; done) | (simp only [aYd, aAl_y, bI, c_1, eq_self, ↓reduceIte]; rfl) | (simp only [aYd, aAl_y, bI, eq_true c_1, eq_self, ↓reduceIte]; done) | (simp only [aYd, aAl_y, bI, eq_true c_1, eq_self, ↓reduceIte]; rfl) | (simp [aYd, aAl_y, bI, eq_true c_1]; done) | simp [aYd, aAl_y, bI, c_1])
      rw [e9_0]
      exact hP
    exact mv_ret hx hb hr hlocks hS hP9 dX1_die_65

theorem in_X1_seerLooks_X1 : ∀ w ∈ wsX10, w ∈ wsX1_seerLooks := by decide +kernel
set_option maxHeartbeats 2000000 in
set_option maxRecDepth 100000 in
theorem c_X1_seerLooks (l : Launch) (D : va_G) (cI cZ cJ : ClassId) (sz : Nat) (hT : Nat) (hB : Nat) (hV : Nat) (a : Nat → Int32)  : Mv l D cI cZ cJ yX1_seerLooks wsX1_seerLooks 2 41 sz [.ref hT] [cT hT hB hV a] [cT hT hB hV (aYl a)] := by
  refine mv_of (by decide) rfl (Nat.le_of_ble_eq_true rfl) (fun p e s m below meth c ls A hx hb hr hml hts hown hlocks hin hP hK hN hD hA hS hl => ?_)
  have hl : lv_has ls 1 [(0, .ref hT)] := hl
  refine lv_aload_n hx hb dX1_seerLooks_0 rfl (lv_at hl 0 rfl) ?_
  refine va_get (D := D) (cl := vwCl) (ci := 1) (v := .int (a 10)) (C := RX1) (T := TX1) (N := 14) hx hb hts in_X1_seerLooks_X1 hown hK hP 0 rfl rfl 12 (by decide) (hts (.fieldLink RX1 30 "WitchTrial" "lookChoice" "I") (List.mem_of_getElem? (i := 1) rfl)) (fun _ h9 => h9) rfl dX1_seerLooks_1 ?_
  refine lv_iconst (v := (-1)) hx hb dX1_seerLooks_4 (by decide) ?_
  refine lv_icmp_eq (tgt := 35) hx hb dX1_seerLooks_5 (by decide) (fun c_1 => ?_) (fun c_1 => ?_)
  · have hP9 : va_P D vwCl [cT hT hB hV (aYl a)] s.heap := by
      have e9_0 : (aYl a) = a := by (first | rfl | (simp only [aYl, bI, c_1, eq_self, ↓reduceIte]; done) | (simp only [aYl, bI, c_1, eq_self, ↓reduceIte]; rfl) | (simp only [aYl, bI, eq_true c_1, eq_self, ↓reduceIte]; done) | (simp only [aYl, bI, eq_true c_1, eq_self, ↓reduceIte]; rfl) | (simp [aYl, bI, eq_true c_1]; done) | simp [aYl, bI, c_1])
      rw [e9_0]
      exact hP
    exact mv_ret hx hb hr hlocks hS hP9 dX1_seerLooks_35
  · refine lv_aload_n hx hb dX1_seerLooks_8 rfl (lv_at hl 0 rfl) ?_
    refine lv_aload_n hx hb dX1_seerLooks_9 rfl (lv_at hl 0 rfl) ?_
    refine va_get (D := D) (cl := vwCl) (ci := 1) (v := .int (a 4)) (C := RX1) (T := TX1) (N := 14) hx hb hts in_X1_seerLooks_X1 hown hK hP 0 rfl rfl 6 (by decide) (hts (.fieldLink RX1 53 "WitchTrial" "seerPlayer" "I") (List.mem_of_getElem? (i := 2) rfl)) (fun _ h9 => h9) rfl dX1_seerLooks_10 ?_
    refine rd_V (b := hT) (As := [.int (a 4)]) (rest := []) ⟨hx, hb, hml, hown, hts⟩ (c_X1_isAlive l D cI cZ cJ hT hB hV a (a 4)) (cwV 1 hts gX1_seerLooks_X1_isAlive rfl rfl rfl (by decide +kernel) ⟨Nat.le_of_ble_eq_true rfl, Nat.le_of_ble_eq_true rfl⟩) (hP.sub (ws' := [cT hT hB hV a]) [0] rfl) hK hN (va_recv hK hP (ci := 1) (q0 := 0) rfl rfl) rfl hl.1 rfl (Nat.le_of_ble_eq_true rfl) dX1_seerLooks_13 ⟨Nat.le_of_ble_eq_true rfl, Nat.le_of_ble_eq_true rfl⟩ ?_
    refine lv_if_eq (tgt := 35) hx hb dX1_seerLooks_16 (by decide) (fun c_2 => ?_) (fun c_2 => ?_)
    · have c_2 : (yIn (a 6) (a 4)) = false := bI_0 c_2
      have hP9 : va_P D vwCl [cT hT hB hV (aYl a)] s.heap := by
        have e9_0 : (aYl a) = a := by (first | rfl | (simp only [aYl, bI, c_1, c_2, eq_self, ↓reduceIte]; done) | (simp only [aYl, bI, c_1, c_2, eq_self, ↓reduceIte]; rfl) | simp [aYl, bI, c_1, c_2])
        rw [e9_0]
        exact hP
      exact mv_ret hx hb hr hlocks hS hP9 dX1_seerLooks_35
    · have c_2 : (yIn (a 6) (a 4)) = true := bI_1 c_2
      refine lv_aload_n hx hb dX1_seerLooks_19 rfl (lv_at hl 0 rfl) ?_
      refine lv_aload_n hx hb dX1_seerLooks_20 rfl (lv_at hl 0 rfl) ?_
      refine va_get (D := D) (cl := vwCl) (ci := 1) (v := .int (a 7)) (C := RX1) (T := TX1) (N := 14) hx hb hts in_X1_seerLooks_X1 hown hK hP 0 rfl rfl 9 (by decide) (hts (.fieldLink RX1 66 "WitchTrial" "lookedAtSet" "I") (List.mem_of_getElem? (i := 3) rfl)) (fun _ h9 => h9) rfl dX1_seerLooks_21 ?_
      refine lv_aload_n hx hb dX1_seerLooks_24 rfl (lv_at hl 0 rfl) ?_
      refine va_get (D := D) (cl := vwCl) (ci := 1) (v := .int (a 10)) (C := RX1) (T := TX1) (N := 14) hx hb hts in_X1_seerLooks_X1 hown hK hP 0 rfl rfl 12 (by decide) (hts (.fieldLink RX1 30 "WitchTrial" "lookChoice" "I") (List.mem_of_getElem? (i := 1) rfl)) (fun _ h9 => h9) rfl dX1_seerLooks_25 ?_
      refine rd_S (As := [.int (a 10)]) (rest := [.int (a 7), .ref hT]) ⟨hx, hb, hml, hown, hts⟩ (c_X1_setOf l D cI cZ cJ (a 10)) (va_cwS 1 hts gX1_seerLooks_X1_setOf rfl rfl rfl (by decide +kernel) ⟨Nat.le_of_ble_eq_true rfl, Nat.le_of_ble_eq_true rfl⟩) (hP.sub (ws' := []) [] rfl) hK hN rfl hl.1 rfl (Nat.le_of_ble_eq_true rfl) dX1_seerLooks_28 ⟨Nat.le_of_ble_eq_true rfl, Nat.le_of_ble_eq_true rfl⟩ ?_
      refine lv_ior hx hb dX1_seerLooks_31 ?_
      refine va_put (D := D) (cl := vwCl) (ci := 1) (v := .int ((a 7) ||| (yOf (a 10)))) (ty := .int) (C := RX1) (T := TX1) (N := 14) hx hb hts in_X1_seerLooks_X1 tyX1 tyX1_ok nmX1 hown hK hP hD hS 0 rfl rfl 9 (by decide) (hts (.fieldLink RX1 66 "WitchTrial" "lookedAtSet" "I") (List.mem_of_getElem? (i := 3) rfl)) (fun _ h9 => h9) rfl (by decide +kernel) rfl rfl (Nat.le_of_ble_eq_true rfl) dX1_seerLooks_32 (fun H locs hP hD hS => ?_)
      have hP : va_P D vwCl [cT hT hB hV (upd a 7 ((a 7) ||| (yOf (a 10))))] H := hP
      have hD : va_D A [cT hT hB hV (upd a 7 ((a 7) ||| (yOf (a 10))))] := hD
      have hP9 : va_P D vwCl [cT hT hB hV (aYl a)] H := by
        have e9_0 : (aYl a) = (upd a 7 ((a 7) ||| (yOf (a 10)))) := by (first | rfl | (simp only [aYl, bI, c_1, c_2, eq_self, ↓reduceIte]; done) | (simp only [aYl, bI, c_1, c_2, eq_self, ↓reduceIte]; rfl) | simp [aYl, bI, c_1, c_2])
        rw [e9_0]
        exact hP
      exact mv_ret hx hb hr hlocks hS hP9 dX1_seerLooks_35

theorem in_X1_makeClaim_X0 : ∀ w ∈ wsX00, w ∈ wsX1_makeClaim := by decide +kernel
theorem in_X1_makeClaim_X1 : ∀ w ∈ wsX10, w ∈ wsX1_makeClaim := by decide +kernel
set_option maxHeartbeats 2000000 in
set_option maxRecDepth 100000 in
theorem c_X1_makeClaim (l : Launch) (D : va_G) (cI cZ cJ : ClassId) (sz : Nat) (hT : Nat) (hB : Nat) (hV : Nat) (a : Nat → Int32) (hG : Nat) (tr : Int32) (g : Nat → Int32) (q : Int32) (bits : Int32) (b : Bool) (K : Nat) (hK9 : K ≤ 1120) (hg : ∀ j, j < K → ¬ g j = 0) (hz : K < 1120 → g K = 0) (h1 : a 0 = 1) (h2 : yIn (a 6) q = true) (h3 : yAg tr q bits b = true) : Mi l D cI cZ cJ yX1_makeClaim wsX1_makeClaim 3 69 sz [.ref hT, .int q, .int bits, .int (bI b)] [cT hT hB hV a, cB hB hG tr, cA cI hG 1120 g] [cT hT hB hV a, cB hB hG tr, cA cI hG 1120 (kcF (pAc q bits b) g K)] (xCnt (pAg (kcF (pAc q bits b) g K) tr (yKn a (-1))) (nCt (kcP (pAc q bits b) g) K)) := by
  refine mi_of (by decide) rfl (Nat.le_of_ble_eq_true rfl) (fun p e s m below meth c ls A hx hb hr hml hts hown hlocks hin hP hK hN hD hA hS hl => ?_)
  have hl : lv_has ls 4 [(0, .ref hT), (1, .int q), (2, .int bits), (3, .int (bI b))] := hl
  refine lv_aload_n hx hb dX1_makeClaim_0 rfl (lv_at hl 0 rfl) ?_
  refine va_get (D := D) (cl := vwCl) (ci := 1) (v := .int (a 0)) (C := RX1) (T := TX1) (N := 14) hx hb hts in_X1_makeClaim_X1 hown hK hP 0 rfl rfl 2 (by decide) (hts (.fieldLink RX1 20 "WitchTrial" "phase" "I") (List.mem_of_getElem? (i := 3) rfl)) (fun _ h9 => h9) rfl dX1_makeClaim_1 ?_
  refine lv_iconst (v := 1) hx hb dX1_makeClaim_4 (by decide) ?_
  refine lv_icmp_ne (tgt := 29) hx hb dX1_makeClaim_5 (by decide) (fun c_1 => ?_) (fun c_1 => ?_)
  · exact absurd h1 c_1
  · refine lv_aload_n hx hb dX1_makeClaim_8 rfl (lv_at hl 0 rfl) ?_
    refine lv_iload_n hx hb dX1_makeClaim_9 rfl (lv_at hl 1 rfl) ?_
    refine rd_V (b := hT) (As := [.int q]) (rest := []) ⟨hx, hb, hml, hown, hts⟩ (c_X1_isAlive l D cI cZ cJ hT hB hV a q) (cwV 1 hts gX1_makeClaim_X1_isAlive rfl rfl rfl (by decide +kernel) ⟨Nat.le_of_ble_eq_true rfl, Nat.le_of_ble_eq_true rfl⟩) (hP.sub (ws' := [cT hT hB hV a]) [0] rfl) hK hN (va_recv hK hP (ci := 1) (q0 := 0) rfl rfl) rfl hl.1 rfl (Nat.le_of_ble_eq_true rfl) dX1_makeClaim_10 ⟨Nat.le_of_ble_eq_true rfl, Nat.le_of_ble_eq_true rfl⟩ ?_
    refine lv_if_eq (tgt := 29) hx hb dX1_makeClaim_13 (by decide) (fun c_2 => ?_) (fun c_2 => ?_)
    · have c_2 : (yIn (a 6) q) = false := bI_0 c_2
      simp [h2, h3] at c_2
    · have c_2 : (yIn (a 6) q) = true := bI_1 c_2
      refine lv_aload_n hx hb dX1_makeClaim_16 rfl (lv_at hl 0 rfl) ?_
      refine va_get (D := D) (cl := vwCl) (ci := 1) (v := .ref hB) (C := RX1) (T := TX1) (N := 14) hx hb hts in_X1_makeClaim_X1 hown hK hP 0 rfl rfl 0 (by decide) (hts (.fieldLink RX1 12 "WitchTrial" "book" "LWitchTrial$Book;") (List.mem_of_getElem? (i := 4) rfl)) (fun _ h9 => h9) rfl dX1_makeClaim_17 ?_
      refine lv_iload_n hx hb dX1_makeClaim_20 rfl (lv_at hl 1 rfl) ?_
      refine lv_iload_n hx hb dX1_makeClaim_21 rfl (lv_at hl 2 rfl) ?_
      refine lv_iload_n hx hb dX1_makeClaim_22 rfl (lv_at hl 3 rfl) ?_
      refine rd_VN (b := hB) (As := [.int q, .int bits, .int (bI b)]) (rest := []) ⟨hx, hb, hml, hown, hts⟩ (c_X0_allowsClaim l D cI cZ cJ hB hG tr q bits b) ⟨va_cnB 3 hts gX1_makeClaim_X0_allowsClaim_n197 rfl rfl rfl (hN.link 7 rfl) (hts (.initialized RX0) (List.mem_of_getElem? (i := 15) rfl)) (by decide +kernel) ⟨Nat.le_of_ble_eq_true rfl, Nat.le_of_ble_eq_true rfl⟩, (hts (.instanceMethod yX0_allowsClaim) (List.mem_of_getElem? (i := 14) rfl)), (hts (.selects RX0 yX0_allowsClaim yX0_allowsClaim) (List.mem_of_getElem? (i := 16) rfl))⟩ (hP.sub (ws' := [cB hB hG tr]) [1] rfl) hK hN (va_recv hK hP (ci := 0) (q0 := 1) rfl rfl) rfl hl.1 rfl (Nat.le_of_ble_eq_true rfl) dX1_makeClaim_23 ⟨Nat.le_of_ble_eq_true rfl, Nat.le_of_ble_eq_true rfl⟩ ?_
      refine lv_if_ne (tgt := 39) hx hb dX1_makeClaim_26 (by decide) (fun c_3 => ?_) (fun c_3 => ?_)
      · have c_3 : (yAg tr q bits b) = true := bI_1 c_3
        refine lv_aload_n hx hb dX1_makeClaim_39 rfl (lv_at hl 0 rfl) ?_
        refine va_get (D := D) (cl := vwCl) (ci := 1) (v := .ref hB) (C := RX1) (T := TX1) (N := 14) hx hb hts in_X1_makeClaim_X1 hown hK hP 0 rfl rfl 0 (by decide) (hts (.fieldLink RX1 12 "WitchTrial" "book" "LWitchTrial$Book;") (List.mem_of_getElem? (i := 4) rfl)) (fun _ h9 => h9) rfl dX1_makeClaim_40 ?_
        refine lv_iload_n hx hb dX1_makeClaim_43 rfl (lv_at hl 1 rfl) ?_
        refine lv_iload_n hx hb dX1_makeClaim_44 rfl (lv_at hl 2 rfl) ?_
        refine lv_iload_n hx hb dX1_makeClaim_45 rfl (lv_at hl 3 rfl) ?_
        refine mv_VN (b := hB) (As := [.int q, .int bits, .int (bI b)]) (rest := []) (W2 := [cT hT hB hV a, cB hB hG tr, cA cI hG 1120 (kcF (pAc q bits b) g K)]) ⟨hx, hb, hml, hown, hts⟩ (c_X0_keepClaim l D cI cZ cJ _ hB hG tr g q bits b K (by first | assumption | omega) (by first | assumption | omega) (by first | assumption | omega)) ⟨va_cnB 3 hts gX1_makeClaim_X0_keepClaim_n206 rfl rfl rfl (hN.link 9 rfl) (hts (.initialized RX0) (List.mem_of_getElem? (i := 15) rfl)) (by decide +kernel) ⟨Nat.le_of_ble_eq_true rfl, Nat.le_of_ble_eq_true rfl⟩, (hts (.instanceMethod yX0_keepClaim) (List.mem_of_getElem? (i := 22) rfl)), (hts (.selects RX0 yX0_keepClaim yX0_keepClaim) (List.mem_of_getElem? (i := 23) rfl))⟩ hP hD hK hN hS hA (va_recv hK hP (ci := 0) (q0 := 1) rfl rfl) rfl hl.1 rfl (Nat.le_of_ble_eq_true rfl) dX1_makeClaim_46 ⟨Nat.le_of_ble_eq_true rfl, Nat.le_of_ble_eq_true rfl⟩ [1, 2] [0] rfl rfl rfl (by intro i hi; simp only [List.mem_cons, List.not_mem_nil, or_false] at hi; rcases hi with rfl <;> rfl) rfl 3 rfl (by decide) (by decide) (fun H locs hP hD hS => ?_)
        refine lv_aload_n hx hb dX1_makeClaim_49 rfl (lv_at hl 0 rfl) ?_
        refine va_get (D := D) (cl := vwCl) (ci := 1) (v := .ref hB) (C := RX1) (T := TX1) (N := 14) hx hb hts in_X1_makeClaim_X1 hown hK hP 0 rfl rfl 0 (by decide) (hts (.fieldLink RX1 12 "WitchTrial" "book" "LWitchTrial$Book;") (List.mem_of_getElem? (i := 4) rfl)) (fun _ h9 => h9) rfl dX1_makeClaim_50 ?_
        refine lv_aload_n hx hb dX1_makeClaim_53 rfl (lv_at hl 0 rfl) ?_
        refine lv_iconst (v := (-1)) hx hb dX1_makeClaim_54 (by decide) ?_
        refine rd_V (b := hT) (As := [.int (-1)]) (rest := [.ref hB]) ⟨hx, hb, hml, hown, hts⟩ (c_X1_knownBits l D cI cZ cJ hT hB hV a (-1)) (cwV 1 hts gX1_makeClaim_X1_knownBits rfl rfl rfl (by decide +kernel) ⟨Nat.le_of_ble_eq_true rfl, Nat.le_of_ble_eq_true rfl⟩) (hP.sub (ws' := [cT hT hB hV a]) [0] rfl) hK hN (va_recv hK hP (ci := 1) (q0 := 0) rfl rfl) rfl hl.1 rfl (Nat.le_of_ble_eq_true rfl) dX1_makeClaim_55 ⟨Nat.le_of_ble_eq_true rfl, Nat.le_of_ble_eq_true rfl⟩ ?_
        refine rd_VN (b := hB) (As := [.int (yKn a (-1))]) (rest := []) ⟨hx, hb, hml, hown, hts⟩ (c_X0_count l D cI cZ cJ hB hG tr (kcF (pAc q bits b) g K) (yKn a (-1)) (nCt (kcP (pAc q bits b) g) K) (kcO1 hK9) (kcO2 hg) (kcO3 hK9 hz)) ⟨va_cnB 1 hts gX1_makeClaim_X0_count_n89 rfl rfl rfl (hN.link 6 rfl) (hts (.initialized RX0) (List.mem_of_getElem? (i := 15) rfl)) (by decide +kernel) ⟨Nat.le_of_ble_eq_true rfl, Nat.le_of_ble_eq_true rfl⟩, (hts (.instanceMethod yX0_count) (List.mem_of_getElem? (i := 44) rfl)), (hts (.selects RX0 yX0_count yX0_count) (List.mem_of_getElem? (i := 45) rfl))⟩ (hP.sub (ws' := [cB hB hG tr, cA cI hG 1120 (kcF (pAc q bits b) g K)]) [1, 2] rfl) hK hN (va_recv hK hP (ci := 0) (q0 := 1) rfl rfl) rfl hl.1 rfl (Nat.le_of_ble_eq_true rfl) dX1_makeClaim_58 ⟨Nat.le_of_ble_eq_true rfl, Nat.le_of_ble_eq_true rfl⟩ ?_
        have hP9 : va_P D vwCl [cT hT hB hV a, cB hB hG tr, cA cI hG 1120 (kcF (pAc q bits b) g K)] H := by
          exact hP
        exact mi_iret hx hb hr hlocks hS (by rfl) hP9 dX1_makeClaim_61
      · have c_3 : (yAg tr q bits b) = false := bI_0 c_3
        simp [h2, h3] at c_3

theorem in_X1_vote_X1 : ∀ w ∈ wsX10, w ∈ wsX1_vote := by decide +kernel
set_option maxHeartbeats 2000000 in
set_option maxRecDepth 100000 in
theorem c_X1_vote (l : Launch) (D : va_G) (cI cZ cJ : ClassId) (sz : Nat) (hT : Nat) (hB : Nat) (hV : Nat) (a : Nat → Int32) (v : Nat → Int32) (q : Nat) (r : Int32) (hq : q < 8) (h1 : a 0 = 1) (h2 : yPl a (nI q) = true) (h3 : yPl a r = true) (h4 : yIn (a 6) (nI q) = true) (h5 : yIn (a 6) r = true) : Mi l D cI cZ cJ yX1_vote wsX1_vote 2 41 sz [.ref hT, .int (nI q), .int r] [cT hT hB hV a, cA cI hV 8 v] [cT hT hB hV a, cA cI hV 8 (upd v q r)] (xMv (upd v q r) r 8) := by
  refine mi_of (by decide) rfl (Nat.le_of_ble_eq_true rfl) (fun p e s m below meth c ls A hx hb hr hml hts hown hlocks hin hP hK hN hD hA hS hl => ?_)
  have hl : lv_has ls 3 [(0, .ref hT), (1, .int (nI q)), (2, .int r)] := hl
  refine lv_aload_n hx hb dX1_vote_0 rfl (lv_at hl 0 rfl) ?_
  refine lv_iconst (v := 1) hx hb dX1_vote_1 (by decide) ?_
  refine rv_V (b := hT) (As := [.int 1]) (rest := []) ⟨hx, hb, hml, hown, hts⟩ (c_X1_requirePhase l D cI cZ cJ hT hB hV a 1 (by first | assumption | omega)) (cwV 1 hts gX1_vote_X1_requirePhase rfl rfl rfl (by decide +kernel) ⟨Nat.le_of_ble_eq_true rfl, Nat.le_of_ble_eq_true rfl⟩) (hP.sub (ws' := [cT hT hB hV a]) [0] rfl) hK hN (va_recv hK hP (ci := 1) (q0 := 0) rfl rfl) rfl hl.1 rfl (Nat.le_of_ble_eq_true rfl) dX1_vote_2 ⟨Nat.le_of_ble_eq_true rfl, Nat.le_of_ble_eq_true rfl⟩ ?_
  refine lv_aload_n hx hb dX1_vote_5 rfl (lv_at hl 0 rfl) ?_
  refine lv_iload_n hx hb dX1_vote_6 rfl (lv_at hl 1 rfl) ?_
  refine rv_V (b := hT) (As := [.int (nI q)]) (rest := []) ⟨hx, hb, hml, hown, hts⟩ (c_X1_requirePlayer l D cI cZ cJ hT hB hV a (nI q) (by first | assumption | omega)) (cwV 1 hts gX1_vote_X1_requirePlayer rfl rfl rfl (by decide +kernel) ⟨Nat.le_of_ble_eq_true rfl, Nat.le_of_ble_eq_true rfl⟩) (hP.sub (ws' := [cT hT hB hV a]) [0] rfl) hK hN (va_recv hK hP (ci := 1) (q0 := 0) rfl rfl) rfl hl.1 rfl (Nat.le_of_ble_eq_true rfl) dX1_vote_7 ⟨Nat.le_of_ble_eq_true rfl, Nat.le_of_ble_eq_true rfl⟩ ?_
  refine lv_aload_n hx hb dX1_vote_10 rfl (lv_at hl 0 rfl) ?_
  refine lv_iload_n hx hb dX1_vote_11 rfl (lv_at hl 2 rfl) ?_
  refine rv_V (b := hT) (As := [.int r]) (rest := []) ⟨hx, hb, hml, hown, hts⟩ (c_X1_requirePlayer l D cI cZ cJ hT hB hV a r (by first | assumption | omega)) (cwV 1 hts gX1_vote_X1_requirePlayer rfl rfl rfl (by decide +kernel) ⟨Nat.le_of_ble_eq_true rfl, Nat.le_of_ble_eq_true rfl⟩) (hP.sub (ws' := [cT hT hB hV a]) [0] rfl) hK hN (va_recv hK hP (ci := 1) (q0 := 0) rfl rfl) rfl hl.1 rfl (Nat.le_of_ble_eq_true rfl) dX1_vote_12 ⟨Nat.le_of_ble_eq_true rfl, Nat.le_of_ble_eq_true rfl⟩ ?_
  refine lv_aload_n hx hb dX1_vote_15 rfl (lv_at hl 0 rfl) ?_
  refine lv_iload_n hx hb dX1_vote_16 rfl (lv_at hl 1 rfl) ?_
  refine rd_V (b := hT) (As := [.int (nI q)]) (rest := []) ⟨hx, hb, hml, hown, hts⟩ (c_X1_isAlive l D cI cZ cJ hT hB hV a (nI q)) (cwV 1 hts gX1_vote_X1_isAlive rfl rfl rfl (by decide +kernel) ⟨Nat.le_of_ble_eq_true rfl, Nat.le_of_ble_eq_true rfl⟩) (hP.sub (ws' := [cT hT hB hV a]) [0] rfl) hK hN (va_recv hK hP (ci := 1) (q0 := 0) rfl rfl) rfl hl.1 rfl (Nat.le_of_ble_eq_true rfl) dX1_vote_17 ⟨Nat.le_of_ble_eq_true rfl, Nat.le_of_ble_eq_true rfl⟩ ?_
  refine lv_if_eq (tgt := 31) hx hb dX1_vote_20 (by decide) (fun c_1 => ?_) (fun c_1 => ?_)
  · have c_1 : (yIn (a 6) (nI q)) = false := bI_0 c_1
    simp [h4, h5] at c_1
  · have c_1 : (yIn (a 6) (nI q)) = true := bI_1 c_1
    refine lv_aload_n hx hb dX1_vote_23 rfl (lv_at hl 0 rfl) ?_
    refine lv_iload_n hx hb dX1_vote_24 rfl (lv_at hl 2 rfl) ?_
    refine rd_V (b := hT) (As := [.int r]) (rest := []) ⟨hx, hb, hml, hown, hts⟩ (c_X1_isAlive l D cI cZ cJ hT hB hV a r) (cwV 1 hts gX1_vote_X1_isAlive rfl rfl rfl (by decide +kernel) ⟨Nat.le_of_ble_eq_true rfl, Nat.le_of_ble_eq_true rfl⟩) (hP.sub (ws' := [cT hT hB hV a]) [0] rfl) hK hN (va_recv hK hP (ci := 1) (q0 := 0) rfl rfl) rfl hl.1 rfl (Nat.le_of_ble_eq_true rfl) dX1_vote_25 ⟨Nat.le_of_ble_eq_true rfl, Nat.le_of_ble_eq_true rfl⟩ ?_
    refine lv_if_ne (tgt := 41) hx hb dX1_vote_28 (by decide) (fun c_2 => ?_) (fun c_2 => ?_)
    · have c_2 : (yIn (a 6) r) = true := bI_1 c_2
      refine lv_aload_n hx hb dX1_vote_41 rfl (lv_at hl 0 rfl) ?_
      refine va_get (D := D) (cl := vwCl) (ci := 1) (v := .ref hV) (C := RX1) (T := TX1) (N := 14) hx hb hts in_X1_vote_X1 hown hK hP 0 rfl rfl 1 (by decide) (hts (.fieldLink RX1 16 "WitchTrial" "voteOf" "[I") (List.mem_of_getElem? (i := 3) rfl)) (fun _ h9 => h9) rfl dX1_vote_42 ?_
      refine lv_iload_n hx hb dX1_vote_45 rfl (lv_at hl 1 rfl) ?_
      refine lv_iload_n hx hb dX1_vote_46 rfl (lv_at hl 2 rfl) ?_
      refine q_iast (D := D) (j := q) hx hb hK hP hD hS 1 0 rfl rfl hq (Nat.le_of_ble_eq_true rfl) dX1_vote_47 (fun H locs hP hD hS => ?_)
      have hP : va_P D vwCl [cT hT hB hV a, cA cI hV 8 (upd v q r)] H := hP
      have hD : va_D A [cT hT hB hV a, cA cI hV 8 (upd v q r)] := hD
      refine lv_aload_n hx hb dX1_vote_48 rfl (lv_at hl 0 rfl) ?_
      refine lv_iload_n hx hb dX1_vote_49 rfl (lv_at hl 2 rfl) ?_
      refine rd_V (b := hT) (As := [.int r]) (rest := []) ⟨hx, hb, hml, hown, hts⟩ (c_X1_countVotes l D cI cZ cJ hT hB hV a (upd v q r) r) (cwV 1 hts gX1_vote_X1_countVotes rfl rfl rfl (by decide +kernel) ⟨Nat.le_of_ble_eq_true rfl, Nat.le_of_ble_eq_true rfl⟩) (hP.sub (ws' := [cT hT hB hV a, cA cI hV 8 (upd v q r)]) [0, 1] rfl) hK hN (va_recv hK hP (ci := 1) (q0 := 0) rfl rfl) rfl hl.1 rfl (Nat.le_of_ble_eq_true rfl) dX1_vote_50 ⟨Nat.le_of_ble_eq_true rfl, Nat.le_of_ble_eq_true rfl⟩ ?_
      have hP9 : va_P D vwCl [cT hT hB hV a, cA cI hV 8 (upd v q r)] H := by
        exact hP
      exact mi_iret hx hb hr hlocks hS (by rfl) hP9 dX1_vote_53
    · have c_2 : (yIn (a 6) r) = false := bI_0 c_2
      simp [h4, h5] at c_2

theorem in_X1_closeVote_X1 : ∀ w ∈ wsX10, w ∈ wsX1_closeVote := by decide +kernel
set_option maxHeartbeats 2000000 in
set_option maxRecDepth 100000 in
theorem c_X1_closeVote (l : Launch) (D : va_G) (cI cZ cJ : ClassId) (sz : Nat) (hT : Nat) (hB : Nat) (hV : Nat) (a : Nat → Int32) (v : Nat → Int32) (n : Nat) (hn : a 2 = nI n) (hn8 : n ≤ 8) (h1 : a 0 = 1) : Mi l D cI cZ cJ yX1_closeVote wsX1_closeVote 2 50 sz [.ref hT] [cT hT hB hV a, cA cI hV 8 v] [cT hT hB hV (aYv a (xBM v n).1), cA cI hV 8 (iUp vM v 8)] ((xBM v n).1) := by
  refine mi_of (by decide) rfl (Nat.le_of_ble_eq_true rfl) (fun p e s m below meth c ls A hx hb hr hml hts hown hlocks hin hP hK hN hD hA hS hl => ?_)
  have hl : lv_has ls 2 [(0, .ref hT)] := hl
  refine lv_aload_n hx hb dX1_closeVote_0 rfl (lv_at hl 0 rfl) ?_
  refine lv_iconst (v := 1) hx hb dX1_closeVote_1 (by decide) ?_
  refine rv_V (b := hT) (As := [.int 1]) (rest := []) ⟨hx, hb, hml, hown, hts⟩ (c_X1_requirePhase l D cI cZ cJ hT hB hV a 1 (by first | assumption | omega)) (cwV 1 hts gX1_closeVote_X1_requirePhase rfl rfl rfl (by decide +kernel) ⟨Nat.le_of_ble_eq_true rfl, Nat.le_of_ble_eq_true rfl⟩) (hP.sub (ws' := [cT hT hB hV a]) [0] rfl) hK hN (va_recv hK hP (ci := 1) (q0 := 0) rfl rfl) rfl hl.1 rfl (Nat.le_of_ble_eq_true rfl) dX1_closeVote_2 ⟨Nat.le_of_ble_eq_true rfl, Nat.le_of_ble_eq_true rfl⟩ ?_
  refine lv_aload_n hx hb dX1_closeVote_5 rfl (lv_at hl 0 rfl) ?_
  refine rd_V (b := hT) (As := []) (rest := []) ⟨hx, hb, hml, hown, hts⟩ (c_X1_playerWithMostVotes l D cI cZ cJ hT hB hV a v n (by first | assumption | omega) (by first | assumption | omega)) (cwV 0 hts gX1_closeVote_X1_playerWithMostVotes rfl rfl rfl (by decide +kernel) ⟨Nat.le_of_ble_eq_true rfl, Nat.le_of_ble_eq_true rfl⟩) (hP.sub (ws' := [cT hT hB hV a, cA cI hV 8 v]) [0, 1] rfl) hK hN (va_recv hK hP (ci := 1) (q0 := 0) rfl rfl) rfl hl.1 rfl (Nat.le_of_ble_eq_true rfl) dX1_closeVote_6 ⟨Nat.le_of_ble_eq_true rfl, Nat.le_of_ble_eq_true rfl⟩ ?_
  refine lv_istore_n (lv' := [(1, .int ((xBM v n).1)), (0, .ref hT)]) hx hb dX1_closeVote_9 rfl hl (by decide) rfl (fun ls hl => ?_)
  refine lv_aload_n hx hb dX1_closeVote_10 rfl (lv_at hl 1 rfl) ?_
  refine mv_V (b := hT) (As := []) (rest := []) (W2 := [cT hT hB hV a, cA cI hV 8 (iUp vM v 8)]) ⟨hx, hb, hml, hown, hts⟩ (c_X1_forgetVotes l D cI cZ cJ _ hT hB hV a v) (cwV 0 hts gX1_closeVote_X1_forgetVotes rfl rfl rfl (by decide +kernel) ⟨Nat.le_of_ble_eq_true rfl, Nat.le_of_ble_eq_true rfl⟩) hP hD hK hN hS hA (va_recv hK hP (ci := 1) (q0 := 0) rfl rfl) rfl hl.1 rfl (Nat.le_of_ble_eq_true rfl) dX1_closeVote_11 ⟨Nat.le_of_ble_eq_true rfl, Nat.le_of_ble_eq_true rfl⟩ [0, 1] [] rfl rfl rfl (fun i hi => nomatch hi) rfl 2 rfl (by decide) (by decide) (fun H locs hP hD hS => ?_)
  refine lv_aload_n hx hb dX1_closeVote_14 rfl (lv_at hl 1 rfl) ?_
  refine lv_iconst (v := 2) hx hb dX1_closeVote_15 (by decide) ?_
  refine va_put (D := D) (cl := vwCl) (ci := 1) (v := .int 2) (ty := .int) (C := RX1) (T := TX1) (N := 14) hx hb hts in_X1_closeVote_X1 tyX1 tyX1_ok nmX1 hown hK hP hD hS 0 rfl rfl 2 (by decide) (hts (.fieldLink RX1 20 "WitchTrial" "phase" "I") (List.mem_of_getElem? (i := 1) rfl)) (fun _ h9 => h9) rfl (by decide +kernel) rfl rfl (Nat.le_of_ble_eq_true rfl) dX1_closeVote_16 (fun H locs hP hD hS => ?_)
  have hP : va_P D vwCl [cT hT hB hV (upd a 0 2), cA cI hV 8 (iUp vM v 8)] H := hP
  have hD : va_D A [cT hT hB hV (upd a 0 2), cA cI hV 8 (iUp vM v 8)] := hD
  refine lv_iload_n hx hb dX1_closeVote_19 rfl (lv_at hl 0 rfl) ?_
  refine lv_iconst (v := (-1)) hx hb dX1_closeVote_20 (by decide) ?_
  refine lv_icmp_eq (tgt := 29) hx hb dX1_closeVote_21 (by decide) (fun c_1 => ?_) (fun c_1 => ?_)
  · refine lv_iload_n hx hb dX1_closeVote_29 rfl (lv_at hl 0 rfl) ?_
    have hP9 : va_P D vwCl [cT hT hB hV (aYv a (xBM v n).1), cA cI hV 8 (iUp vM v 8)] H := by
      have e9_0 : (aYv a (xBM v n).1) = (upd a 0 2) := by (first | rfl | (simp only [aYv, bI, c_1, eq_self, ↓reduceIte]; done) | (simp only [aYv, bI, c_1, eq_self, ↓reduceIte]; rfl) | (simp only [aYv, bI, eq_true c_1, eq_self, ↓reduceIte]; done) | (simp only [aYv, bI, eq_true c_1, eq_self, ↓reduceIte]; rfl) | (simp [aYv, bI, eq_true c_1]; done) | simp [aYv, bI, c_1])
      rw [e9_0]
      exact hP
    exact mi_iret hx hb hr hlocks hS (by rfl) hP9 dX1_closeVote_30
  · refine lv_aload_n hx hb dX1_closeVote_24 rfl (lv_at hl 1 rfl) ?_
    refine lv_iload_n hx hb dX1_closeVote_25 rfl (lv_at hl 0 rfl) ?_
    refine mv_V (b := hT) (As := [.int ((xBM v n).1)]) (rest := []) (W2 := [cT hT hB hV (aYd (upd a 0 2) ((xBM v n).1)), cA cI hV 8 (iUp vM v 8)]) ⟨hx, hb, hml, hown, hts⟩ (c_X1_die l D cI cZ cJ _ hT hB hV (upd a 0 2) ((xBM v n).1)) (cwV 1 hts gX1_closeVote_X1_die rfl rfl rfl (by decide +kernel) ⟨Nat.le_of_ble_eq_true rfl, Nat.le_of_ble_eq_true rfl⟩) hP hD hK hN hS hA (va_recv hK hP (ci := 1) (q0 := 0) rfl rfl) rfl hl.1 rfl (Nat.le_of_ble_eq_true rfl) dX1_closeVote_26 ⟨Nat.le_of_ble_eq_true rfl, Nat.le_of_ble_eq_true rfl⟩ [0] [1] rfl rfl rfl (by intro i hi; simp only [List.mem_cons, List.not_mem_nil, or_false] at hi; rcases hi with rfl <;> rfl) rfl 2 rfl (by decide) (by decide) (fun H locs hP hD hS => ?_)
    refine lv_iload_n hx hb dX1_closeVote_29 rfl (lv_at hl 0 rfl) ?_
    have hP9 : va_P D vwCl [cT hT hB hV (aYv a (xBM v n).1), cA cI hV 8 (iUp vM v 8)] H := by
      have e9_0 : (aYv a (xBM v n).1) = (aYd (upd a 0 2) ((xBM v n).1)) := by (first | rfl | (simp only [aYv, bI, c_1, eq_self, ↓reduceIte]; done) | (simp only [aYv, bI, c_1, eq_self, ↓reduceIte]; rfl) | simp [aYv, bI, c_1])
      rw [e9_0]
      exact hP
    exact mi_iret hx hb hr hlocks hS (by rfl) hP9 dX1_closeVote_30

theorem in_X1_protect_X1 : ∀ w ∈ wsX10, w ∈ wsX1_protect := by decide +kernel
set_option maxHeartbeats 2000000 in
set_option maxRecDepth 100000 in
theorem c_X1_protect (l : Launch) (D : va_G) (cI cZ cJ : ClassId) (sz : Nat) (hT : Nat) (hB : Nat) (hV : Nat) (a : Nat → Int32) (q : Int32) (h1 : a 0 = 2) (h2 : yIn (a 6) (a 5) = true) (h3 : yPl a q = true) (h4 : yIn (a 6) q = true) (h5 : ¬ q = a 11) : Mi l D cI cZ cJ yX1_protect wsX1_protect 3 62 sz [.ref hT, .int q] [cT hT hB hV a] [cT hT hB hV (upd a 8 q)] (a 8) := by
  refine mi_of (by decide) rfl (Nat.le_of_ble_eq_true rfl) (fun p e s m below meth c ls A hx hb hr hml hts hown hlocks hin hP hK hN hD hA hS hl => ?_)
  have hl : lv_has ls 3 [(0, .ref hT), (1, .int q)] := hl
  refine lv_aload_n hx hb dX1_protect_0 rfl (lv_at hl 0 rfl) ?_
  refine lv_iconst (v := 2) hx hb dX1_protect_1 (by decide) ?_
  refine rv_V (b := hT) (As := [.int 2]) (rest := []) ⟨hx, hb, hml, hown, hts⟩ (c_X1_requirePhase l D cI cZ cJ hT hB hV a 2 (by first | assumption | omega)) (cwV 1 hts gX1_protect_X1_requirePhase rfl rfl rfl (by decide +kernel) ⟨Nat.le_of_ble_eq_true rfl, Nat.le_of_ble_eq_true rfl⟩) (hP.sub (ws' := [cT hT hB hV a]) [0] rfl) hK hN (va_recv hK hP (ci := 1) (q0 := 0) rfl rfl) rfl hl.1 rfl (Nat.le_of_ble_eq_true rfl) dX1_protect_2 ⟨Nat.le_of_ble_eq_true rfl, Nat.le_of_ble_eq_true rfl⟩ ?_
  refine lv_aload_n hx hb dX1_protect_5 rfl (lv_at hl 0 rfl) ?_
  refine lv_aload_n hx hb dX1_protect_6 rfl (lv_at hl 0 rfl) ?_
  refine va_get (D := D) (cl := vwCl) (ci := 1) (v := .int (a 5)) (C := RX1) (T := TX1) (N := 14) hx hb hts in_X1_protect_X1 hown hK hP 0 rfl rfl 7 (by decide) (hts (.fieldLink RX1 56 "WitchTrial" "guardPlayer" "I") (List.mem_of_getElem? (i := 3) rfl)) (fun _ h9 => h9) rfl dX1_protect_7 ?_
  refine rv_V (b := hT) (As := [.int (a 5)]) (rest := []) ⟨hx, hb, hml, hown, hts⟩ (c_X1_requireToLive l D cI cZ cJ hT hB hV a (a 5) (by first | assumption | omega)) (cwV 1 hts gX1_protect_X1_requireToLive rfl rfl rfl (by decide +kernel) ⟨Nat.le_of_ble_eq_true rfl, Nat.le_of_ble_eq_true rfl⟩) (hP.sub (ws' := [cT hT hB hV a]) [0] rfl) hK hN (va_recv hK hP (ci := 1) (q0 := 0) rfl rfl) rfl hl.1 rfl (Nat.le_of_ble_eq_true rfl) dX1_protect_10 ⟨Nat.le_of_ble_eq_true rfl, Nat.le_of_ble_eq_true rfl⟩ ?_
  refine lv_aload_n hx hb dX1_protect_13 rfl (lv_at hl 0 rfl) ?_
  refine lv_iload_n hx hb dX1_protect_14 rfl (lv_at hl 1 rfl) ?_
  refine rv_V (b := hT) (As := [.int q]) (rest := []) ⟨hx, hb, hml, hown, hts⟩ (c_X1_requirePlayer l D cI cZ cJ hT hB hV a q (by first | assumption | omega)) (cwV 1 hts gX1_protect_X1_requirePlayer rfl rfl rfl (by decide +kernel) ⟨Nat.le_of_ble_eq_true rfl, Nat.le_of_ble_eq_true rfl⟩) (hP.sub (ws' := [cT hT hB hV a]) [0] rfl) hK hN (va_recv hK hP (ci := 1) (q0 := 0) rfl rfl) rfl hl.1 rfl (Nat.le_of_ble_eq_true rfl) dX1_protect_15 ⟨Nat.le_of_ble_eq_true rfl, Nat.le_of_ble_eq_true rfl⟩ ?_
  refine lv_aload_n hx hb dX1_protect_18 rfl (lv_at hl 0 rfl) ?_
  refine lv_iload_n hx hb dX1_protect_19 rfl (lv_at hl 1 rfl) ?_
  refine rd_V (b := hT) (As := [.int q]) (rest := []) ⟨hx, hb, hml, hown, hts⟩ (c_X1_isAlive l D cI cZ cJ hT hB hV a q) (cwV 1 hts gX1_protect_X1_isAlive rfl rfl rfl (by decide +kernel) ⟨Nat.le_of_ble_eq_true rfl, Nat.le_of_ble_eq_true rfl⟩) (hP.sub (ws' := [cT hT hB hV a]) [0] rfl) hK hN (va_recv hK hP (ci := 1) (q0 := 0) rfl rfl) rfl hl.1 rfl (Nat.le_of_ble_eq_true rfl) dX1_protect_20 ⟨Nat.le_of_ble_eq_true rfl, Nat.le_of_ble_eq_true rfl⟩ ?_
  refine lv_if_eq (tgt := 34) hx hb dX1_protect_23 (by decide) (fun c_1 => ?_) (fun c_1 => ?_)
  · have c_1 : (yIn (a 6) q) = false := bI_0 c_1
    simp [h4, h5] at c_1
  · have c_1 : (yIn (a 6) q) = true := bI_1 c_1
    refine lv_iload_n hx hb dX1_protect_26 rfl (lv_at hl 1 rfl) ?_
    refine lv_aload_n hx hb dX1_protect_27 rfl (lv_at hl 0 rfl) ?_
    refine va_get (D := D) (cl := vwCl) (ci := 1) (v := .int (a 11)) (C := RX1) (T := TX1) (N := 14) hx hb hts in_X1_protect_X1 hown hK hP 0 rfl rfl 13 (by decide) (hts (.fieldLink RX1 33 "WitchTrial" "protectedLastNight" "I") (List.mem_of_getElem? (i := 4) rfl)) (fun _ h9 => h9) rfl dX1_protect_28 ?_
    refine lv_icmp_ne (tgt := 44) hx hb dX1_protect_31 (by decide) (fun c_2 => ?_) (fun c_2 => ?_)
    · refine lv_aload_n hx hb dX1_protect_44 rfl (lv_at hl 0 rfl) ?_
      refine va_get (D := D) (cl := vwCl) (ci := 1) (v := .int (a 8)) (C := RX1) (T := TX1) (N := 14) hx hb hts in_X1_protect_X1 hown hK hP 0 rfl rfl 10 (by decide) (hts (.fieldLink RX1 24 "WitchTrial" "protectChoice" "I") (List.mem_of_getElem? (i := 5) rfl)) (fun _ h9 => h9) rfl dX1_protect_45 ?_
      refine lv_istore_n (lv' := [(2, .int (a 8)), (0, .ref hT), (1, .int q)]) hx hb dX1_protect_48 rfl hl (by decide) rfl (fun ls hl => ?_)
      refine lv_aload_n hx hb dX1_protect_49 rfl (lv_at hl 1 rfl) ?_
      refine lv_iload_n hx hb dX1_protect_50 rfl (lv_at hl 2 rfl) ?_
      refine va_put (D := D) (cl := vwCl) (ci := 1) (v := .int q) (ty := .int) (C := RX1) (T := TX1) (N := 14) hx hb hts in_X1_protect_X1 tyX1 tyX1_ok nmX1 hown hK hP hD hS 0 rfl rfl 10 (by decide) (hts (.fieldLink RX1 24 "WitchTrial" "protectChoice" "I") (List.mem_of_getElem? (i := 5) rfl)) (fun _ h9 => h9) rfl (by decide +kernel) rfl rfl (Nat.le_of_ble_eq_true rfl) dX1_protect_51 (fun H locs hP hD hS => ?_)
      have hP : va_P D vwCl [cT hT hB hV (upd a 8 q)] H := hP
      have hD : va_D A [cT hT hB hV (upd a 8 q)] := hD
      refine lv_iload_n hx hb dX1_protect_54 rfl (lv_at hl 0 rfl) ?_
      have hP9 : va_P D vwCl [cT hT hB hV (upd a 8 q)] H := by
        exact hP
      exact mi_iret hx hb hr hlocks hS (by rfl) hP9 dX1_protect_55
    · simp [h4, h5] at c_2

theorem in_X1_attack_X1 : ∀ w ∈ wsX10, w ∈ wsX1_attack := by decide +kernel
set_option maxHeartbeats 2000000 in
set_option maxRecDepth 100000 in
theorem c_X1_attack (l : Launch) (D : va_G) (cI cZ cJ : ClassId) (sz : Nat) (hT : Nat) (hB : Nat) (hV : Nat) (a : Nat → Int32) (q : Int32) (h1 : a 0 = 2) (h3 : yPl a q = true) (h4 : yIn (a 6) q = true) (h5 : yIn (a 3) q = false) : Mi l D cI cZ cJ yX1_attack wsX1_attack 2 41 sz [.ref hT, .int q] [cT hT hB hV a] [cT hT hB hV (upd a 9 q)] (a 9) := by
  refine mi_of (by decide) rfl (Nat.le_of_ble_eq_true rfl) (fun p e s m below meth c ls A hx hb hr hml hts hown hlocks hin hP hK hN hD hA hS hl => ?_)
  have hl : lv_has ls 3 [(0, .ref hT), (1, .int q)] := hl
  refine lv_aload_n hx hb dX1_attack_0 rfl (lv_at hl 0 rfl) ?_
  refine lv_iconst (v := 2) hx hb dX1_attack_1 (by decide) ?_
  refine rv_V (b := hT) (As := [.int 2]) (rest := []) ⟨hx, hb, hml, hown, hts⟩ (c_X1_requirePhase l D cI cZ cJ hT hB hV a 2 (by first | assumption | omega)) (cwV 1 hts gX1_attack_X1_requirePhase rfl rfl rfl (by decide +kernel) ⟨Nat.le_of_ble_eq_true rfl, Nat.le_of_ble_eq_true rfl⟩) (hP.sub (ws' := [cT hT hB hV a]) [0] rfl) hK hN (va_recv hK hP (ci := 1) (q0 := 0) rfl rfl) rfl hl.1 rfl (Nat.le_of_ble_eq_true rfl) dX1_attack_2 ⟨Nat.le_of_ble_eq_true rfl, Nat.le_of_ble_eq_true rfl⟩ ?_
  refine lv_aload_n hx hb dX1_attack_5 rfl (lv_at hl 0 rfl) ?_
  refine lv_iload_n hx hb dX1_attack_6 rfl (lv_at hl 1 rfl) ?_
  refine rv_V (b := hT) (As := [.int q]) (rest := []) ⟨hx, hb, hml, hown, hts⟩ (c_X1_requirePlayer l D cI cZ cJ hT hB hV a q (by first | assumption | omega)) (cwV 1 hts gX1_attack_X1_requirePlayer rfl rfl rfl (by decide +kernel) ⟨Nat.le_of_ble_eq_true rfl, Nat.le_of_ble_eq_true rfl⟩) (hP.sub (ws' := [cT hT hB hV a]) [0] rfl) hK hN (va_recv hK hP (ci := 1) (q0 := 0) rfl rfl) rfl hl.1 rfl (Nat.le_of_ble_eq_true rfl) dX1_attack_7 ⟨Nat.le_of_ble_eq_true rfl, Nat.le_of_ble_eq_true rfl⟩ ?_
  refine lv_aload_n hx hb dX1_attack_10 rfl (lv_at hl 0 rfl) ?_
  refine lv_iload_n hx hb dX1_attack_11 rfl (lv_at hl 1 rfl) ?_
  refine rd_V (b := hT) (As := [.int q]) (rest := []) ⟨hx, hb, hml, hown, hts⟩ (c_X1_isAlive l D cI cZ cJ hT hB hV a q) (cwV 1 hts gX1_attack_X1_isAlive rfl rfl rfl (by decide +kernel) ⟨Nat.le_of_ble_eq_true rfl, Nat.le_of_ble_eq_true rfl⟩) (hP.sub (ws' := [cT hT hB hV a]) [0] rfl) hK hN (va_recv hK hP (ci := 1) (q0 := 0) rfl rfl) rfl hl.1 rfl (Nat.le_of_ble_eq_true rfl) dX1_attack_12 ⟨Nat.le_of_ble_eq_true rfl, Nat.le_of_ble_eq_true rfl⟩ ?_
  refine lv_if_eq (tgt := 26) hx hb dX1_attack_15 (by decide) (fun c_1 => ?_) (fun c_1 => ?_)
  · have c_1 : (yIn (a 6) q) = false := bI_0 c_1
    simp [h4, h5] at c_1
  · have c_1 : (yIn (a 6) q) = true := bI_1 c_1
    refine lv_aload_n hx hb dX1_attack_18 rfl (lv_at hl 0 rfl) ?_
    refine lv_iload_n hx hb dX1_attack_19 rfl (lv_at hl 1 rfl) ?_
    refine rd_V (b := hT) (As := [.int q]) (rest := []) ⟨hx, hb, hml, hown, hts⟩ (c_X1_isWitch l D cI cZ cJ hT hB hV a q) (cwV 1 hts gX1_attack_X1_isWitch rfl rfl rfl (by decide +kernel) ⟨Nat.le_of_ble_eq_true rfl, Nat.le_of_ble_eq_true rfl⟩) (hP.sub (ws' := [cT hT hB hV a]) [0] rfl) hK hN (va_recv hK hP (ci := 1) (q0 := 0) rfl rfl) rfl hl.1 rfl (Nat.le_of_ble_eq_true rfl) dX1_attack_20 ⟨Nat.le_of_ble_eq_true rfl, Nat.le_of_ble_eq_true rfl⟩ ?_
    refine lv_if_eq (tgt := 36) hx hb dX1_attack_23 (by decide) (fun c_2 => ?_) (fun c_2 => ?_)
    · have c_2 : (yIn (a 3) q) = false := bI_0 c_2
      refine lv_aload_n hx hb dX1_attack_36 rfl (lv_at hl 0 rfl) ?_
      refine va_get (D := D) (cl := vwCl) (ci := 1) (v := .int (a 9)) (C := RX1) (T := TX1) (N := 14) hx hb hts in_X1_attack_X1 hown hK hP 0 rfl rfl 11 (by decide) (hts (.fieldLink RX1 27 "WitchTrial" "attackChoice" "I") (List.mem_of_getElem? (i := 3) rfl)) (fun _ h9 => h9) rfl dX1_attack_37 ?_
      refine lv_istore_n (lv' := [(2, .int (a 9)), (0, .ref hT), (1, .int q)]) hx hb dX1_attack_40 rfl hl (by decide) rfl (fun ls hl => ?_)
      refine lv_aload_n hx hb dX1_attack_41 rfl (lv_at hl 1 rfl) ?_
      refine lv_iload_n hx hb dX1_attack_42 rfl (lv_at hl 2 rfl) ?_
      refine va_put (D := D) (cl := vwCl) (ci := 1) (v := .int q) (ty := .int) (C := RX1) (T := TX1) (N := 14) hx hb hts in_X1_attack_X1 tyX1 tyX1_ok nmX1 hown hK hP hD hS 0 rfl rfl 11 (by decide) (hts (.fieldLink RX1 27 "WitchTrial" "attackChoice" "I") (List.mem_of_getElem? (i := 3) rfl)) (fun _ h9 => h9) rfl (by decide +kernel) rfl rfl (Nat.le_of_ble_eq_true rfl) dX1_attack_43 (fun H locs hP hD hS => ?_)
      have hP : va_P D vwCl [cT hT hB hV (upd a 9 q)] H := hP
      have hD : va_D A [cT hT hB hV (upd a 9 q)] := hD
      refine lv_iload_n hx hb dX1_attack_46 rfl (lv_at hl 0 rfl) ?_
      have hP9 : va_P D vwCl [cT hT hB hV (upd a 9 q)] H := by
        exact hP
      exact mi_iret hx hb hr hlocks hS (by rfl) hP9 dX1_attack_47
    · have c_2 : (yIn (a 3) q) = true := bI_1 c_2
      simp [h4, h5] at c_2

theorem in_X1_look_X1 : ∀ w ∈ wsX10, w ∈ wsX1_look := by decide +kernel
set_option maxHeartbeats 2000000 in
set_option maxRecDepth 100000 in
theorem c_X1_look (l : Launch) (D : va_G) (cI cZ cJ : ClassId) (sz : Nat) (hT : Nat) (hB : Nat) (hV : Nat) (a : Nat → Int32) (q : Int32) (h1 : a 0 = 2) (h2 : yIn (a 6) (a 4) = true) (h3 : yPl a q = true) (h4 : yIn (a 6) q = true) (h5 : ¬ q = a 4) : Mi l D cI cZ cJ yX1_look wsX1_look 3 62 sz [.ref hT, .int q] [cT hT hB hV a] [cT hT hB hV (upd a 10 q)] (a 10) := by
  refine mi_of (by decide) rfl (Nat.le_of_ble_eq_true rfl) (fun p e s m below meth c ls A hx hb hr hml hts hown hlocks hin hP hK hN hD hA hS hl => ?_)
  have hl : lv_has ls 3 [(0, .ref hT), (1, .int q)] := hl
  refine lv_aload_n hx hb dX1_look_0 rfl (lv_at hl 0 rfl) ?_
  refine lv_iconst (v := 2) hx hb dX1_look_1 (by decide) ?_
  refine rv_V (b := hT) (As := [.int 2]) (rest := []) ⟨hx, hb, hml, hown, hts⟩ (c_X1_requirePhase l D cI cZ cJ hT hB hV a 2 (by first | assumption | omega)) (cwV 1 hts gX1_look_X1_requirePhase rfl rfl rfl (by decide +kernel) ⟨Nat.le_of_ble_eq_true rfl, Nat.le_of_ble_eq_true rfl⟩) (hP.sub (ws' := [cT hT hB hV a]) [0] rfl) hK hN (va_recv hK hP (ci := 1) (q0 := 0) rfl rfl) rfl hl.1 rfl (Nat.le_of_ble_eq_true rfl) dX1_look_2 ⟨Nat.le_of_ble_eq_true rfl, Nat.le_of_ble_eq_true rfl⟩ ?_
  refine lv_aload_n hx hb dX1_look_5 rfl (lv_at hl 0 rfl) ?_
  refine lv_aload_n hx hb dX1_look_6 rfl (lv_at hl 0 rfl) ?_
  refine va_get (D := D) (cl := vwCl) (ci := 1) (v := .int (a 4)) (C := RX1) (T := TX1) (N := 14) hx hb hts in_X1_look_X1 hown hK hP 0 rfl rfl 6 (by decide) (hts (.fieldLink RX1 53 "WitchTrial" "seerPlayer" "I") (List.mem_of_getElem? (i := 3) rfl)) (fun _ h9 => h9) rfl dX1_look_7 ?_
  refine rv_V (b := hT) (As := [.int (a 4)]) (rest := []) ⟨hx, hb, hml, hown, hts⟩ (c_X1_requireToLive l D cI cZ cJ hT hB hV a (a 4) (by first | assumption | omega)) (cwV 1 hts gX1_look_X1_requireToLive rfl rfl rfl (by decide +kernel) ⟨Nat.le_of_ble_eq_true rfl, Nat.le_of_ble_eq_true rfl⟩) (hP.sub (ws' := [cT hT hB hV a]) [0] rfl) hK hN (va_recv hK hP (ci := 1) (q0 := 0) rfl rfl) rfl hl.1 rfl (Nat.le_of_ble_eq_true rfl) dX1_look_10 ⟨Nat.le_of_ble_eq_true rfl, Nat.le_of_ble_eq_true rfl⟩ ?_
  refine lv_aload_n hx hb dX1_look_13 rfl (lv_at hl 0 rfl) ?_
  refine lv_iload_n hx hb dX1_look_14 rfl (lv_at hl 1 rfl) ?_
  refine rv_V (b := hT) (As := [.int q]) (rest := []) ⟨hx, hb, hml, hown, hts⟩ (c_X1_requirePlayer l D cI cZ cJ hT hB hV a q (by first | assumption | omega)) (cwV 1 hts gX1_look_X1_requirePlayer rfl rfl rfl (by decide +kernel) ⟨Nat.le_of_ble_eq_true rfl, Nat.le_of_ble_eq_true rfl⟩) (hP.sub (ws' := [cT hT hB hV a]) [0] rfl) hK hN (va_recv hK hP (ci := 1) (q0 := 0) rfl rfl) rfl hl.1 rfl (Nat.le_of_ble_eq_true rfl) dX1_look_15 ⟨Nat.le_of_ble_eq_true rfl, Nat.le_of_ble_eq_true rfl⟩ ?_
  refine lv_aload_n hx hb dX1_look_18 rfl (lv_at hl 0 rfl) ?_
  refine lv_iload_n hx hb dX1_look_19 rfl (lv_at hl 1 rfl) ?_
  refine rd_V (b := hT) (As := [.int q]) (rest := []) ⟨hx, hb, hml, hown, hts⟩ (c_X1_isAlive l D cI cZ cJ hT hB hV a q) (cwV 1 hts gX1_look_X1_isAlive rfl rfl rfl (by decide +kernel) ⟨Nat.le_of_ble_eq_true rfl, Nat.le_of_ble_eq_true rfl⟩) (hP.sub (ws' := [cT hT hB hV a]) [0] rfl) hK hN (va_recv hK hP (ci := 1) (q0 := 0) rfl rfl) rfl hl.1 rfl (Nat.le_of_ble_eq_true rfl) dX1_look_20 ⟨Nat.le_of_ble_eq_true rfl, Nat.le_of_ble_eq_true rfl⟩ ?_
  refine lv_if_eq (tgt := 34) hx hb dX1_look_23 (by decide) (fun c_1 => ?_) (fun c_1 => ?_)
  · have c_1 : (yIn (a 6) q) = false := bI_0 c_1
    simp [h4, h5] at c_1
  · have c_1 : (yIn (a 6) q) = true := bI_1 c_1
    refine lv_iload_n hx hb dX1_look_26 rfl (lv_at hl 1 rfl) ?_
    refine lv_aload_n hx hb dX1_look_27 rfl (lv_at hl 0 rfl) ?_
    refine va_get (D := D) (cl := vwCl) (ci := 1) (v := .int (a 4)) (C := RX1) (T := TX1) (N := 14) hx hb hts in_X1_look_X1 hown hK hP 0 rfl rfl 6 (by decide) (hts (.fieldLink RX1 53 "WitchTrial" "seerPlayer" "I") (List.mem_of_getElem? (i := 3) rfl)) (fun _ h9 => h9) rfl dX1_look_28 ?_
    refine lv_icmp_ne (tgt := 44) hx hb dX1_look_31 (by decide) (fun c_2 => ?_) (fun c_2 => ?_)
    · refine lv_aload_n hx hb dX1_look_44 rfl (lv_at hl 0 rfl) ?_
      refine va_get (D := D) (cl := vwCl) (ci := 1) (v := .int (a 10)) (C := RX1) (T := TX1) (N := 14) hx hb hts in_X1_look_X1 hown hK hP 0 rfl rfl 12 (by decide) (hts (.fieldLink RX1 30 "WitchTrial" "lookChoice" "I") (List.mem_of_getElem? (i := 4) rfl)) (fun _ h9 => h9) rfl dX1_look_45 ?_
      refine lv_istore_n (lv' := [(2, .int (a 10)), (0, .ref hT), (1, .int q)]) hx hb dX1_look_48 rfl hl (by decide) rfl (fun ls hl => ?_)
      refine lv_aload_n hx hb dX1_look_49 rfl (lv_at hl 1 rfl) ?_
      refine lv_iload_n hx hb dX1_look_50 rfl (lv_at hl 2 rfl) ?_
      refine va_put (D := D) (cl := vwCl) (ci := 1) (v := .int q) (ty := .int) (C := RX1) (T := TX1) (N := 14) hx hb hts in_X1_look_X1 tyX1 tyX1_ok nmX1 hown hK hP hD hS 0 rfl rfl 12 (by decide) (hts (.fieldLink RX1 30 "WitchTrial" "lookChoice" "I") (List.mem_of_getElem? (i := 4) rfl)) (fun _ h9 => h9) rfl (by decide +kernel) rfl rfl (Nat.le_of_ble_eq_true rfl) dX1_look_51 (fun H locs hP hD hS => ?_)
      have hP : va_P D vwCl [cT hT hB hV (upd a 10 q)] H := hP
      have hD : va_D A [cT hT hB hV (upd a 10 q)] := hD
      refine lv_iload_n hx hb dX1_look_54 rfl (lv_at hl 0 rfl) ?_
      have hP9 : va_P D vwCl [cT hT hB hV (upd a 10 q)] H := by
        exact hP
      exact mi_iret hx hb hr hlocks hS (by rfl) hP9 dX1_look_55
    · simp [h4, h5] at c_2

theorem in_X1_endNight_X1 : ∀ w ∈ wsX10, w ∈ wsX1_endNight := by decide +kernel
set_option maxHeartbeats 2000000 in
set_option maxRecDepth 100000 in
theorem c_X1_endNight (l : Launch) (D : va_G) (cI cZ cJ : ClassId) (sz : Nat) (hT : Nat) (hB : Nat) (hV : Nat) (a : Nat → Int32) (h1 : a 0 = 2) : Mi l D cI cZ cJ yX1_endNight wsX1_endNight 3 61 sz [.ref hT] [cT hT hB hV a] [cT hT hB hV (aYe a)] (xDead a) := by
  refine mi_of (by decide) rfl (Nat.le_of_ble_eq_true rfl) (fun p e s m below meth c ls A hx hb hr hml hts hown hlocks hin hP hK hN hD hA hS hl => ?_)
  have hl : lv_has ls 2 [(0, .ref hT)] := hl
  refine lv_aload_n hx hb dX1_endNight_0 rfl (lv_at hl 0 rfl) ?_
  refine lv_iconst (v := 2) hx hb dX1_endNight_1 (by decide) ?_
  refine rv_V (b := hT) (As := [.int 2]) (rest := []) ⟨hx, hb, hml, hown, hts⟩ (c_X1_requirePhase l D cI cZ cJ hT hB hV a 2 (by first | assumption | omega)) (cwV 1 hts gX1_endNight_X1_requirePhase rfl rfl rfl (by decide +kernel) ⟨Nat.le_of_ble_eq_true rfl, Nat.le_of_ble_eq_true rfl⟩) (hP.sub (ws' := [cT hT hB hV a]) [0] rfl) hK hN (va_recv hK hP (ci := 1) (q0 := 0) rfl rfl) rfl hl.1 rfl (Nat.le_of_ble_eq_true rfl) dX1_endNight_2 ⟨Nat.le_of_ble_eq_true rfl, Nat.le_of_ble_eq_true rfl⟩ ?_
  refine lv_aload_n hx hb dX1_endNight_5 rfl (lv_at hl 0 rfl) ?_
  refine va_get (D := D) (cl := vwCl) (ci := 1) (v := .int (a 9)) (C := RX1) (T := TX1) (N := 14) hx hb hts in_X1_endNight_X1 hown hK hP 0 rfl rfl 11 (by decide) (hts (.fieldLink RX1 27 "WitchTrial" "attackChoice" "I") (List.mem_of_getElem? (i := 1) rfl)) (fun _ h9 => h9) rfl dX1_endNight_6 ?_
  refine lv_aload_n hx hb dX1_endNight_9 rfl (lv_at hl 0 rfl) ?_
  refine va_get (D := D) (cl := vwCl) (ci := 1) (v := .int (a 8)) (C := RX1) (T := TX1) (N := 14) hx hb hts in_X1_endNight_X1 hown hK hP 0 rfl rfl 10 (by decide) (hts (.fieldLink RX1 24 "WitchTrial" "protectChoice" "I") (List.mem_of_getElem? (i := 2) rfl)) (fun _ h9 => h9) rfl dX1_endNight_10 ?_
  refine lv_icmp_ne (tgt := 20) hx hb dX1_endNight_13 (by decide) (fun c_1 => ?_) (fun c_1 => ?_)
  · refine lv_aload_n hx hb dX1_endNight_20 rfl (lv_at hl 0 rfl) ?_
    refine va_get (D := D) (cl := vwCl) (ci := 1) (v := .int (a 9)) (C := RX1) (T := TX1) (N := 14) hx hb hts in_X1_endNight_X1 hown hK hP 0 rfl rfl 11 (by decide) (hts (.fieldLink RX1 27 "WitchTrial" "attackChoice" "I") (List.mem_of_getElem? (i := 1) rfl)) (fun _ h9 => h9) rfl dX1_endNight_21 ?_
    refine lv_istore_n (lv' := [(1, .int (a 9)), (0, .ref hT)]) hx hb dX1_endNight_24 rfl hl (by decide) rfl (fun ls hl => ?_)
    refine lv_iload_n hx hb dX1_endNight_25 rfl (lv_at hl 0 rfl) ?_
    refine lv_iconst (v := (-1)) hx hb dX1_endNight_26 (by decide) ?_
    refine lv_icmp_eq (tgt := 35) hx hb dX1_endNight_27 (by decide) (fun c_2 => ?_) (fun c_2 => ?_)
    · refine lv_aload_n hx hb dX1_endNight_35 rfl (lv_at hl 1 rfl) ?_
      refine va_get (D := D) (cl := vwCl) (ci := 1) (v := .int (a 0)) (C := RX1) (T := TX1) (N := 14) hx hb hts in_X1_endNight_X1 hown hK hP 0 rfl rfl 2 (by decide) (hts (.fieldLink RX1 20 "WitchTrial" "phase" "I") (List.mem_of_getElem? (i := 3) rfl)) (fun _ h9 => h9) rfl dX1_endNight_36 ?_
      refine lv_iconst (v := 2) hx hb dX1_endNight_39 (by decide) ?_
      refine lv_icmp_ne (tgt := 62) hx hb dX1_endNight_40 (by decide) (fun c_3 => ?_) (fun c_3 => ?_)
      · refine lv_aload_n hx hb dX1_endNight_62 rfl (lv_at hl 1 rfl) ?_
        refine lv_aload_n hx hb dX1_endNight_63 rfl (lv_at hl 1 rfl) ?_
        refine va_get (D := D) (cl := vwCl) (ci := 1) (v := .int (a 8)) (C := RX1) (T := TX1) (N := 14) hx hb hts in_X1_endNight_X1 hown hK hP 0 rfl rfl 10 (by decide) (hts (.fieldLink RX1 24 "WitchTrial" "protectChoice" "I") (List.mem_of_getElem? (i := 2) rfl)) (fun _ h9 => h9) rfl dX1_endNight_64 ?_
        refine va_put (D := D) (cl := vwCl) (ci := 1) (v := .int (a 8)) (ty := .int) (C := RX1) (T := TX1) (N := 14) hx hb hts in_X1_endNight_X1 tyX1 tyX1_ok nmX1 hown hK hP hD hS 0 rfl rfl 13 (by decide) (hts (.fieldLink RX1 33 "WitchTrial" "protectedLastNight" "I") (List.mem_of_getElem? (i := 5) rfl)) (fun _ h9 => h9) rfl (by decide +kernel) rfl rfl (Nat.le_of_ble_eq_true rfl) dX1_endNight_67 (fun H locs hP hD hS => ?_)
        have hP : va_P D vwCl [cT hT hB hV (upd a 11 (a 8))] H := hP
        have hD : va_D A [cT hT hB hV (upd a 11 (a 8))] := hD
        refine lv_aload_n hx hb dX1_endNight_70 rfl (lv_at hl 1 rfl) ?_
        refine mv_V (b := hT) (As := []) (rest := []) (W2 := [cT hT hB hV (aF (upd a 11 (a 8)))]) ⟨hx, hb, hml, hown, hts⟩ (c_X1_forgetChoices l D cI cZ cJ _ hT hB hV (upd a 11 (a 8))) (cwV 0 hts gX1_endNight_X1_forgetChoices rfl rfl rfl (by decide +kernel) ⟨Nat.le_of_ble_eq_true rfl, Nat.le_of_ble_eq_true rfl⟩) hP hD hK hN hS hA (va_recv hK hP (ci := 1) (q0 := 0) rfl rfl) rfl hl.1 rfl (Nat.le_of_ble_eq_true rfl) dX1_endNight_71 ⟨Nat.le_of_ble_eq_true rfl, Nat.le_of_ble_eq_true rfl⟩ [0] [] rfl rfl rfl (fun i hi => nomatch hi) rfl 1 rfl (by decide) (by decide) (fun H locs hP hD hS => ?_)
        refine lv_iload_n hx hb dX1_endNight_74 rfl (lv_at hl 0 rfl) ?_
        have hP9 : va_P D vwCl [cT hT hB hV (aYe a)] H := by
          have e9_0 : (aYe a) = (aF (upd a 11 (a 8))) := by (first | rfl | (simp only [aYe, aY2, aY1, xDead, bI, c_1, c_2, c_3, eq_self, ↓reduceIte]; done) | (simp only [aYe, aY2, aY1, xDead, bI, c_1, c_2, c_3, eq_self, ↓reduceIte]; rfl) | (simp only [aYe, aY2, aY1, xDead, bI, c_1, eq_true c_2, c_3, eq_self, ↓reduceIte]; done) | (simp only [aYe, aY2, aY1, xDead, bI, c_1, eq_true c_2, c_3, eq_self, ↓reduceIte]; rfl) | (simp [aYe, aY2, aY1, xDead, bI, c_1, eq_true c_2, c_3]; done) | simp [aYe, aY2, aY1, xDead, bI, c_1, c_2, c_3])
          rw [e9_0]
          exact hP
        exact mi_iret hx hb hr hlocks hS (by (first | rfl | (simp only [aYe, aY2, aY1, xDead, bI, c_1, c_2, c_3, eq_self, ↓reduceIte]; done) | (simp only [aYe, aY2, aY1, xDead, bI, c_1, c_2, c_3, eq_self, ↓reduceIte]; rfl) | (simp only [aYe, aY2, aY1, xDead, bI, c_1, eq_true c_2, c_3, eq_self, ↓reduceIte]; done) | (simp only [aYe, aY2, aY1, xDead, bI, c_1, eq_true c_2, c_3, eq_self, ↓reduceIte]; rfl) | (simp [aYe, aY2, aY1, xDead, bI, c_1, eq_true c_2, c_3]; done) | simp [aYe, aY2, aY1, xDead, bI, c_1, c_2, c_3])) hP9 dX1_endNight_75
      · refine lv_aload_n hx hb dX1_endNight_43 rfl (lv_at hl 1 rfl) ?_
        refine mv_V (b := hT) (As := []) (rest := []) (W2 := [cT hT hB hV (aYl a)]) ⟨hx, hb, hml, hown, hts⟩ (c_X1_seerLooks l D cI cZ cJ _ hT hB hV a) (cwV 0 hts gX1_endNight_X1_seerLooks rfl rfl rfl (by decide +kernel) ⟨Nat.le_of_ble_eq_true rfl, Nat.le_of_ble_eq_true rfl⟩) hP hD hK hN hS hA (va_recv hK hP (ci := 1) (q0 := 0) rfl rfl) rfl hl.1 rfl (Nat.le_of_ble_eq_true rfl) dX1_endNight_44 ⟨Nat.le_of_ble_eq_true rfl, Nat.le_of_ble_eq_true rfl⟩ [0] [] rfl rfl rfl (fun i hi => nomatch hi) rfl 1 rfl (by decide) (by decide) (fun H locs hP hD hS => ?_)
        refine lv_aload_n hx hb dX1_endNight_47 rfl (lv_at hl 1 rfl) ?_
        refine lv_dup hx hb dX1_endNight_48 rfl ?_
        refine va_get (D := D) (cl := vwCl) (ci := 1) (v := .int ((aYl a) 1)) (C := RX1) (T := TX1) (N := 14) hx hb hts in_X1_endNight_X1 hown hK hP 0 rfl rfl 3 (by decide) (hts (.fieldLink RX1 69 "WitchTrial" "dayNumber" "I") (List.mem_of_getElem? (i := 4) rfl)) (fun _ h9 => h9) rfl dX1_endNight_49 ?_
        refine lv_iconst (v := 1) hx hb dX1_endNight_52 (by decide) ?_
        refine lv_iadd hx hb dX1_endNight_53 ?_
        refine va_put (D := D) (cl := vwCl) (ci := 1) (v := .int (((aYl a) 1) + 1)) (ty := .int) (C := RX1) (T := TX1) (N := 14) hx hb hts in_X1_endNight_X1 tyX1 tyX1_ok nmX1 hown hK hP hD hS 0 rfl rfl 3 (by decide) (hts (.fieldLink RX1 69 "WitchTrial" "dayNumber" "I") (List.mem_of_getElem? (i := 4) rfl)) (fun _ h9 => h9) rfl (by decide +kernel) rfl rfl (Nat.le_of_ble_eq_true rfl) dX1_endNight_54 (fun H locs hP hD hS => ?_)
        have hP : va_P D vwCl [cT hT hB hV (upd (aYl a) 1 (((aYl a) 1) + 1))] H := hP
        have hD : va_D A [cT hT hB hV (upd (aYl a) 1 (((aYl a) 1) + 1))] := hD
        refine lv_aload_n hx hb dX1_endNight_57 rfl (lv_at hl 1 rfl) ?_
        refine lv_iconst (v := 1) hx hb dX1_endNight_58 (by decide) ?_
        refine va_put (D := D) (cl := vwCl) (ci := 1) (v := .int 1) (ty := .int) (C := RX1) (T := TX1) (N := 14) hx hb hts in_X1_endNight_X1 tyX1 tyX1_ok nmX1 hown hK hP hD hS 0 rfl rfl 2 (by decide) (hts (.fieldLink RX1 20 "WitchTrial" "phase" "I") (List.mem_of_getElem? (i := 3) rfl)) (fun _ h9 => h9) rfl (by decide +kernel) rfl rfl (Nat.le_of_ble_eq_true rfl) dX1_endNight_59 (fun H locs hP hD hS => ?_)
        have hP : va_P D vwCl [cT hT hB hV (upd (upd (aYl a) 1 (((aYl a) 1) + 1)) 0 1)] H := hP
        have hD : va_D A [cT hT hB hV (upd (upd (aYl a) 1 (((aYl a) 1) + 1)) 0 1)] := hD
        refine lv_aload_n hx hb dX1_endNight_62 rfl (lv_at hl 1 rfl) ?_
        refine lv_aload_n hx hb dX1_endNight_63 rfl (lv_at hl 1 rfl) ?_
        refine va_get (D := D) (cl := vwCl) (ci := 1) (v := .int ((aYl a) 8)) (C := RX1) (T := TX1) (N := 14) hx hb hts in_X1_endNight_X1 hown hK hP 0 rfl rfl 10 (by decide) (hts (.fieldLink RX1 24 "WitchTrial" "protectChoice" "I") (List.mem_of_getElem? (i := 2) rfl)) (fun _ h9 => h9) rfl dX1_endNight_64 ?_
        refine va_put (D := D) (cl := vwCl) (ci := 1) (v := .int ((aYl a) 8)) (ty := .int) (C := RX1) (T := TX1) (N := 14) hx hb hts in_X1_endNight_X1 tyX1 tyX1_ok nmX1 hown hK hP hD hS 0 rfl rfl 13 (by decide) (hts (.fieldLink RX1 33 "WitchTrial" "protectedLastNight" "I") (List.mem_of_getElem? (i := 5) rfl)) (fun _ h9 => h9) rfl (by decide +kernel) rfl rfl (Nat.le_of_ble_eq_true rfl) dX1_endNight_67 (fun H locs hP hD hS => ?_)
        have hP : va_P D vwCl [cT hT hB hV (upd (upd (upd (aYl a) 1 (((aYl a) 1) + 1)) 0 1) 11 ((aYl a) 8))] H := hP
        have hD : va_D A [cT hT hB hV (upd (upd (upd (aYl a) 1 (((aYl a) 1) + 1)) 0 1) 11 ((aYl a) 8))] := hD
        refine lv_aload_n hx hb dX1_endNight_70 rfl (lv_at hl 1 rfl) ?_
        refine mv_V (b := hT) (As := []) (rest := []) (W2 := [cT hT hB hV (aF (upd (upd (upd (aYl a) 1 (((aYl a) 1) + 1)) 0 1) 11 ((aYl a) 8)))]) ⟨hx, hb, hml, hown, hts⟩ (c_X1_forgetChoices l D cI cZ cJ _ hT hB hV (upd (upd (upd (aYl a) 1 (((aYl a) 1) + 1)) 0 1) 11 ((aYl a) 8))) (cwV 0 hts gX1_endNight_X1_forgetChoices rfl rfl rfl (by decide +kernel) ⟨Nat.le_of_ble_eq_true rfl, Nat.le_of_ble_eq_true rfl⟩) hP hD hK hN hS hA (va_recv hK hP (ci := 1) (q0 := 0) rfl rfl) rfl hl.1 rfl (Nat.le_of_ble_eq_true rfl) dX1_endNight_71 ⟨Nat.le_of_ble_eq_true rfl, Nat.le_of_ble_eq_true rfl⟩ [0] [] rfl rfl rfl (fun i hi => nomatch hi) rfl 1 rfl (by decide) (by decide) (fun H locs hP hD hS => ?_)
        refine lv_iload_n hx hb dX1_endNight_74 rfl (lv_at hl 0 rfl) ?_
        have hP9 : va_P D vwCl [cT hT hB hV (aYe a)] H := by
          have e9_0 : (aYe a) = (aF (upd (upd (upd (aYl a) 1 (((aYl a) 1) + 1)) 0 1) 11 ((aYl a) 8))) := by (first | rfl | (simp only [aYe, aY2, aY1, xDead, bI, c_1, c_2, c_3, eq_self, ↓reduceIte]; done) | (simp only [aYe, aY2, aY1, xDead, bI, c_1, c_2, c_3, eq_self, ↓reduceIte]; rfl) | (simp only [aYe, aY2, aY1, xDead, bI, c_1, eq_true c_2, eq_true c_3, eq_self, ↓reduceIte]; done) | (simp only [aYe, aY2, aY1, xDead, bI, c_1, eq_true c_2, eq_true c_3, eq_self, ↓reduceIte]; rfl) | (simp [aYe, aY2, aY1, xDead, bI, c_1, eq_true c_2, eq_true c_3]; done) | simp [aYe, aY2, aY1, xDead, bI, c_1, c_2, c_3])
          rw [e9_0]
          exact hP
        exact mi_iret hx hb hr hlocks hS (by (first | rfl | (simp only [aYe, aY2, aY1, xDead, bI, c_1, c_2, c_3, eq_self, ↓reduceIte]; done) | (simp only [aYe, aY2, aY1, xDead, bI, c_1, c_2, c_3, eq_self, ↓reduceIte]; rfl) | (simp only [aYe, aY2, aY1, xDead, bI, c_1, eq_true c_2, eq_true c_3, eq_self, ↓reduceIte]; done) | (simp only [aYe, aY2, aY1, xDead, bI, c_1, eq_true c_2, eq_true c_3, eq_self, ↓reduceIte]; rfl) | (simp [aYe, aY2, aY1, xDead, bI, c_1, eq_true c_2, eq_true c_3]; done) | simp [aYe, aY2, aY1, xDead, bI, c_1, c_2, c_3])) hP9 dX1_endNight_75
    · refine lv_aload_n hx hb dX1_endNight_30 rfl (lv_at hl 1 rfl) ?_
      refine lv_iload_n hx hb dX1_endNight_31 rfl (lv_at hl 0 rfl) ?_
      refine mv_V (b := hT) (As := [.int (a 9)]) (rest := []) (W2 := [cT hT hB hV (aYd a (a 9))]) ⟨hx, hb, hml, hown, hts⟩ (c_X1_die l D cI cZ cJ _ hT hB hV a (a 9)) (cwV 1 hts gX1_endNight_X1_die rfl rfl rfl (by decide +kernel) ⟨Nat.le_of_ble_eq_true rfl, Nat.le_of_ble_eq_true rfl⟩) hP hD hK hN hS hA (va_recv hK hP (ci := 1) (q0 := 0) rfl rfl) rfl hl.1 rfl (Nat.le_of_ble_eq_true rfl) dX1_endNight_32 ⟨Nat.le_of_ble_eq_true rfl, Nat.le_of_ble_eq_true rfl⟩ [0] [] rfl rfl rfl (fun i hi => nomatch hi) rfl 1 rfl (by decide) (by decide) (fun H locs hP hD hS => ?_)
      refine lv_aload_n hx hb dX1_endNight_35 rfl (lv_at hl 1 rfl) ?_
      refine va_get (D := D) (cl := vwCl) (ci := 1) (v := .int ((aYd a (a 9)) 0)) (C := RX1) (T := TX1) (N := 14) hx hb hts in_X1_endNight_X1 hown hK hP 0 rfl rfl 2 (by decide) (hts (.fieldLink RX1 20 "WitchTrial" "phase" "I") (List.mem_of_getElem? (i := 3) rfl)) (fun _ h9 => h9) rfl dX1_endNight_36 ?_
      refine lv_iconst (v := 2) hx hb dX1_endNight_39 (by decide) ?_
      refine lv_icmp_ne (tgt := 62) hx hb dX1_endNight_40 (by decide) (fun c_4 => ?_) (fun c_4 => ?_)
      · refine lv_aload_n hx hb dX1_endNight_62 rfl (lv_at hl 1 rfl) ?_
        refine lv_aload_n hx hb dX1_endNight_63 rfl (lv_at hl 1 rfl) ?_
        refine va_get (D := D) (cl := vwCl) (ci := 1) (v := .int ((aYd a (a 9)) 8)) (C := RX1) (T := TX1) (N := 14) hx hb hts in_X1_endNight_X1 hown hK hP 0 rfl rfl 10 (by decide) (hts (.fieldLink RX1 24 "WitchTrial" "protectChoice" "I") (List.mem_of_getElem? (i := 2) rfl)) (fun _ h9 => h9) rfl dX1_endNight_64 ?_
        refine va_put (D := D) (cl := vwCl) (ci := 1) (v := .int ((aYd a (a 9)) 8)) (ty := .int) (C := RX1) (T := TX1) (N := 14) hx hb hts in_X1_endNight_X1 tyX1 tyX1_ok nmX1 hown hK hP hD hS 0 rfl rfl 13 (by decide) (hts (.fieldLink RX1 33 "WitchTrial" "protectedLastNight" "I") (List.mem_of_getElem? (i := 5) rfl)) (fun _ h9 => h9) rfl (by decide +kernel) rfl rfl (Nat.le_of_ble_eq_true rfl) dX1_endNight_67 (fun H locs hP hD hS => ?_)
        have hP : va_P D vwCl [cT hT hB hV (upd (aYd a (a 9)) 11 ((aYd a (a 9)) 8))] H := hP
        have hD : va_D A [cT hT hB hV (upd (aYd a (a 9)) 11 ((aYd a (a 9)) 8))] := hD
        refine lv_aload_n hx hb dX1_endNight_70 rfl (lv_at hl 1 rfl) ?_
        refine mv_V (b := hT) (As := []) (rest := []) (W2 := [cT hT hB hV (aF (upd (aYd a (a 9)) 11 ((aYd a (a 9)) 8)))]) ⟨hx, hb, hml, hown, hts⟩ (c_X1_forgetChoices l D cI cZ cJ _ hT hB hV (upd (aYd a (a 9)) 11 ((aYd a (a 9)) 8))) (cwV 0 hts gX1_endNight_X1_forgetChoices rfl rfl rfl (by decide +kernel) ⟨Nat.le_of_ble_eq_true rfl, Nat.le_of_ble_eq_true rfl⟩) hP hD hK hN hS hA (va_recv hK hP (ci := 1) (q0 := 0) rfl rfl) rfl hl.1 rfl (Nat.le_of_ble_eq_true rfl) dX1_endNight_71 ⟨Nat.le_of_ble_eq_true rfl, Nat.le_of_ble_eq_true rfl⟩ [0] [] rfl rfl rfl (fun i hi => nomatch hi) rfl 1 rfl (by decide) (by decide) (fun H locs hP hD hS => ?_)
        refine lv_iload_n hx hb dX1_endNight_74 rfl (lv_at hl 0 rfl) ?_
        have hP9 : va_P D vwCl [cT hT hB hV (aYe a)] H := by
          have e9_0 : (aYe a) = (aF (upd (aYd a (a 9)) 11 ((aYd a (a 9)) 8))) := by (first | rfl | (simp only [aYe, aY2, aY1, xDead, bI, c_1, c_2, c_4, eq_self, ↓reduceIte]; done) | (simp only [aYe, aY2, aY1, xDead, bI, c_1, c_2, c_4, eq_self, ↓reduceIte]; rfl) | simp [aYe, aY2, aY1, xDead, bI, c_1, c_2, c_4])
          rw [e9_0]
          exact hP
        exact mi_iret hx hb hr hlocks hS (by (first | rfl | (simp only [aYe, aY2, aY1, xDead, bI, c_1, c_2, c_4, eq_self, ↓reduceIte]; done) | (simp only [aYe, aY2, aY1, xDead, bI, c_1, c_2, c_4, eq_self, ↓reduceIte]; rfl) | simp [aYe, aY2, aY1, xDead, bI, c_1, c_2, c_4])) hP9 dX1_endNight_75
      · refine lv_aload_n hx hb dX1_endNight_43 rfl (lv_at hl 1 rfl) ?_
        refine mv_V (b := hT) (As := []) (rest := []) (W2 := [cT hT hB hV (aYl (aYd a (a 9)))]) ⟨hx, hb, hml, hown, hts⟩ (c_X1_seerLooks l D cI cZ cJ _ hT hB hV (aYd a (a 9))) (cwV 0 hts gX1_endNight_X1_seerLooks rfl rfl rfl (by decide +kernel) ⟨Nat.le_of_ble_eq_true rfl, Nat.le_of_ble_eq_true rfl⟩) hP hD hK hN hS hA (va_recv hK hP (ci := 1) (q0 := 0) rfl rfl) rfl hl.1 rfl (Nat.le_of_ble_eq_true rfl) dX1_endNight_44 ⟨Nat.le_of_ble_eq_true rfl, Nat.le_of_ble_eq_true rfl⟩ [0] [] rfl rfl rfl (fun i hi => nomatch hi) rfl 1 rfl (by decide) (by decide) (fun H locs hP hD hS => ?_)
        refine lv_aload_n hx hb dX1_endNight_47 rfl (lv_at hl 1 rfl) ?_
        refine lv_dup hx hb dX1_endNight_48 rfl ?_
        refine va_get (D := D) (cl := vwCl) (ci := 1) (v := .int ((aYl (aYd a (a 9))) 1)) (C := RX1) (T := TX1) (N := 14) hx hb hts in_X1_endNight_X1 hown hK hP 0 rfl rfl 3 (by decide) (hts (.fieldLink RX1 69 "WitchTrial" "dayNumber" "I") (List.mem_of_getElem? (i := 4) rfl)) (fun _ h9 => h9) rfl dX1_endNight_49 ?_
        refine lv_iconst (v := 1) hx hb dX1_endNight_52 (by decide) ?_
        refine lv_iadd hx hb dX1_endNight_53 ?_
        refine va_put (D := D) (cl := vwCl) (ci := 1) (v := .int (((aYl (aYd a (a 9))) 1) + 1)) (ty := .int) (C := RX1) (T := TX1) (N := 14) hx hb hts in_X1_endNight_X1 tyX1 tyX1_ok nmX1 hown hK hP hD hS 0 rfl rfl 3 (by decide) (hts (.fieldLink RX1 69 "WitchTrial" "dayNumber" "I") (List.mem_of_getElem? (i := 4) rfl)) (fun _ h9 => h9) rfl (by decide +kernel) rfl rfl (Nat.le_of_ble_eq_true rfl) dX1_endNight_54 (fun H locs hP hD hS => ?_)
        have hP : va_P D vwCl [cT hT hB hV (upd (aYl (aYd a (a 9))) 1 (((aYl (aYd a (a 9))) 1) + 1))] H := hP
        have hD : va_D A [cT hT hB hV (upd (aYl (aYd a (a 9))) 1 (((aYl (aYd a (a 9))) 1) + 1))] := hD
        refine lv_aload_n hx hb dX1_endNight_57 rfl (lv_at hl 1 rfl) ?_
        refine lv_iconst (v := 1) hx hb dX1_endNight_58 (by decide) ?_
        refine va_put (D := D) (cl := vwCl) (ci := 1) (v := .int 1) (ty := .int) (C := RX1) (T := TX1) (N := 14) hx hb hts in_X1_endNight_X1 tyX1 tyX1_ok nmX1 hown hK hP hD hS 0 rfl rfl 2 (by decide) (hts (.fieldLink RX1 20 "WitchTrial" "phase" "I") (List.mem_of_getElem? (i := 3) rfl)) (fun _ h9 => h9) rfl (by decide +kernel) rfl rfl (Nat.le_of_ble_eq_true rfl) dX1_endNight_59 (fun H locs hP hD hS => ?_)
        have hP : va_P D vwCl [cT hT hB hV (upd (upd (aYl (aYd a (a 9))) 1 (((aYl (aYd a (a 9))) 1) + 1)) 0 1)] H := hP
        have hD : va_D A [cT hT hB hV (upd (upd (aYl (aYd a (a 9))) 1 (((aYl (aYd a (a 9))) 1) + 1)) 0 1)] := hD
        refine lv_aload_n hx hb dX1_endNight_62 rfl (lv_at hl 1 rfl) ?_
        refine lv_aload_n hx hb dX1_endNight_63 rfl (lv_at hl 1 rfl) ?_
        refine va_get (D := D) (cl := vwCl) (ci := 1) (v := .int ((aYl (aYd a (a 9))) 8)) (C := RX1) (T := TX1) (N := 14) hx hb hts in_X1_endNight_X1 hown hK hP 0 rfl rfl 10 (by decide) (hts (.fieldLink RX1 24 "WitchTrial" "protectChoice" "I") (List.mem_of_getElem? (i := 2) rfl)) (fun _ h9 => h9) rfl dX1_endNight_64 ?_
        refine va_put (D := D) (cl := vwCl) (ci := 1) (v := .int ((aYl (aYd a (a 9))) 8)) (ty := .int) (C := RX1) (T := TX1) (N := 14) hx hb hts in_X1_endNight_X1 tyX1 tyX1_ok nmX1 hown hK hP hD hS 0 rfl rfl 13 (by decide) (hts (.fieldLink RX1 33 "WitchTrial" "protectedLastNight" "I") (List.mem_of_getElem? (i := 5) rfl)) (fun _ h9 => h9) rfl (by decide +kernel) rfl rfl (Nat.le_of_ble_eq_true rfl) dX1_endNight_67 (fun H locs hP hD hS => ?_)
        have hP : va_P D vwCl [cT hT hB hV (upd (upd (upd (aYl (aYd a (a 9))) 1 (((aYl (aYd a (a 9))) 1) + 1)) 0 1) 11 ((aYl (aYd a (a 9))) 8))] H := hP
        have hD : va_D A [cT hT hB hV (upd (upd (upd (aYl (aYd a (a 9))) 1 (((aYl (aYd a (a 9))) 1) + 1)) 0 1) 11 ((aYl (aYd a (a 9))) 8))] := hD
        refine lv_aload_n hx hb dX1_endNight_70 rfl (lv_at hl 1 rfl) ?_
        refine mv_V (b := hT) (As := []) (rest := []) (W2 := [cT hT hB hV (aF (upd (upd (upd (aYl (aYd a (a 9))) 1 (((aYl (aYd a (a 9))) 1) + 1)) 0 1) 11 ((aYl (aYd a (a 9))) 8)))]) ⟨hx, hb, hml, hown, hts⟩ (c_X1_forgetChoices l D cI cZ cJ _ hT hB hV (upd (upd (upd (aYl (aYd a (a 9))) 1 (((aYl (aYd a (a 9))) 1) + 1)) 0 1) 11 ((aYl (aYd a (a 9))) 8))) (cwV 0 hts gX1_endNight_X1_forgetChoices rfl rfl rfl (by decide +kernel) ⟨Nat.le_of_ble_eq_true rfl, Nat.le_of_ble_eq_true rfl⟩) hP hD hK hN hS hA (va_recv hK hP (ci := 1) (q0 := 0) rfl rfl) rfl hl.1 rfl (Nat.le_of_ble_eq_true rfl) dX1_endNight_71 ⟨Nat.le_of_ble_eq_true rfl, Nat.le_of_ble_eq_true rfl⟩ [0] [] rfl rfl rfl (fun i hi => nomatch hi) rfl 1 rfl (by decide) (by decide) (fun H locs hP hD hS => ?_)
        refine lv_iload_n hx hb dX1_endNight_74 rfl (lv_at hl 0 rfl) ?_
        have hP9 : va_P D vwCl [cT hT hB hV (aYe a)] H := by
          have e9_0 : (aYe a) = (aF (upd (upd (upd (aYl (aYd a (a 9))) 1 (((aYl (aYd a (a 9))) 1) + 1)) 0 1) 11 ((aYl (aYd a (a 9))) 8))) := by (first | rfl | (simp only [aYe, aY2, aY1, xDead, bI, c_1, c_2, c_4, eq_self, ↓reduceIte]; done) | (simp only [aYe, aY2, aY1, xDead, bI, c_1, c_2, c_4, eq_self, ↓reduceIte]; rfl) | (simp only [aYe, aY2, aY1, xDead, bI, c_1, c_2, eq_true c_4, eq_self, ↓reduceIte]; done) | (simp only [aYe, aY2, aY1, xDead, bI, c_1, c_2, eq_true c_4, eq_self, ↓reduceIte]; rfl) | (simp [aYe, aY2, aY1, xDead, bI, c_1, c_2, eq_true c_4]; done) | simp [aYe, aY2, aY1, xDead, bI, c_1, c_2, c_4])
          rw [e9_0]
          exact hP
        exact mi_iret hx hb hr hlocks hS (by (first | rfl | (simp only [aYe, aY2, aY1, xDead, bI, c_1, c_2, c_4, eq_self, ↓reduceIte]; done) | (simp only [aYe, aY2, aY1, xDead, bI, c_1, c_2, c_4, eq_self, ↓reduceIte]; rfl) | (simp only [aYe, aY2, aY1, xDead, bI, c_1, c_2, eq_true c_4, eq_self, ↓reduceIte]; done) | (simp only [aYe, aY2, aY1, xDead, bI, c_1, c_2, eq_true c_4, eq_self, ↓reduceIte]; rfl) | (simp [aYe, aY2, aY1, xDead, bI, c_1, c_2, eq_true c_4]; done) | simp [aYe, aY2, aY1, xDead, bI, c_1, c_2, c_4])) hP9 dX1_endNight_75
  · refine lv_iconst (v := (-1)) hx hb dX1_endNight_16 (by decide) ?_
    refine lv_goto (tgt := 24) hx hb dX1_endNight_17 (by decide) ?_
    refine lv_istore_n (lv' := [(1, .int (-1)), (0, .ref hT)]) hx hb dX1_endNight_24 rfl hl (by decide) rfl (fun ls hl => ?_)
    refine lv_iload_n hx hb dX1_endNight_25 rfl (lv_at hl 0 rfl) ?_
    refine lv_iconst (v := (-1)) hx hb dX1_endNight_26 (by decide) ?_
    refine lv_icmp_eq (tgt := 35) hx hb dX1_endNight_27 (by decide) (fun c_5 => ?_) (fun c_5 => ?_)
    · refine lv_aload_n hx hb dX1_endNight_35 rfl (lv_at hl 1 rfl) ?_
      refine va_get (D := D) (cl := vwCl) (ci := 1) (v := .int (a 0)) (C := RX1) (T := TX1) (N := 14) hx hb hts in_X1_endNight_X1 hown hK hP 0 rfl rfl 2 (by decide) (hts (.fieldLink RX1 20 "WitchTrial" "phase" "I") (List.mem_of_getElem? (i := 3) rfl)) (fun _ h9 => h9) rfl dX1_endNight_36 ?_
      refine lv_iconst (v := 2) hx hb dX1_endNight_39 (by decide) ?_
      refine lv_icmp_ne (tgt := 62) hx hb dX1_endNight_40 (by decide) (fun c_6 => ?_) (fun c_6 => ?_)
      · refine lv_aload_n hx hb dX1_endNight_62 rfl (lv_at hl 1 rfl) ?_
        refine lv_aload_n hx hb dX1_endNight_63 rfl (lv_at hl 1 rfl) ?_
        refine va_get (D := D) (cl := vwCl) (ci := 1) (v := .int (a 8)) (C := RX1) (T := TX1) (N := 14) hx hb hts in_X1_endNight_X1 hown hK hP 0 rfl rfl 10 (by decide) (hts (.fieldLink RX1 24 "WitchTrial" "protectChoice" "I") (List.mem_of_getElem? (i := 2) rfl)) (fun _ h9 => h9) rfl dX1_endNight_64 ?_
        refine va_put (D := D) (cl := vwCl) (ci := 1) (v := .int (a 8)) (ty := .int) (C := RX1) (T := TX1) (N := 14) hx hb hts in_X1_endNight_X1 tyX1 tyX1_ok nmX1 hown hK hP hD hS 0 rfl rfl 13 (by decide) (hts (.fieldLink RX1 33 "WitchTrial" "protectedLastNight" "I") (List.mem_of_getElem? (i := 5) rfl)) (fun _ h9 => h9) rfl (by decide +kernel) rfl rfl (Nat.le_of_ble_eq_true rfl) dX1_endNight_67 (fun H locs hP hD hS => ?_)
        have hP : va_P D vwCl [cT hT hB hV (upd a 11 (a 8))] H := hP
        have hD : va_D A [cT hT hB hV (upd a 11 (a 8))] := hD
        refine lv_aload_n hx hb dX1_endNight_70 rfl (lv_at hl 1 rfl) ?_
        refine mv_V (b := hT) (As := []) (rest := []) (W2 := [cT hT hB hV (aF (upd a 11 (a 8)))]) ⟨hx, hb, hml, hown, hts⟩ (c_X1_forgetChoices l D cI cZ cJ _ hT hB hV (upd a 11 (a 8))) (cwV 0 hts gX1_endNight_X1_forgetChoices rfl rfl rfl (by decide +kernel) ⟨Nat.le_of_ble_eq_true rfl, Nat.le_of_ble_eq_true rfl⟩) hP hD hK hN hS hA (va_recv hK hP (ci := 1) (q0 := 0) rfl rfl) rfl hl.1 rfl (Nat.le_of_ble_eq_true rfl) dX1_endNight_71 ⟨Nat.le_of_ble_eq_true rfl, Nat.le_of_ble_eq_true rfl⟩ [0] [] rfl rfl rfl (fun i hi => nomatch hi) rfl 1 rfl (by decide) (by decide) (fun H locs hP hD hS => ?_)
        refine lv_iload_n hx hb dX1_endNight_74 rfl (lv_at hl 0 rfl) ?_
        have hP9 : va_P D vwCl [cT hT hB hV (aYe a)] H := by
          have e9_0 : (aYe a) = (aF (upd a 11 (a 8))) := by (first | rfl | (simp only [aYe, aY2, aY1, xDead, bI, c_1, c_6, eq_self, ↓reduceIte]; done) | (simp only [aYe, aY2, aY1, xDead, bI, c_1, c_6, eq_self, ↓reduceIte]; rfl) | (simp only [aYe, aY2, aY1, xDead, bI, eq_true c_1, c_6, eq_self, ↓reduceIte]; done) | (simp only [aYe, aY2, aY1, xDead, bI, eq_true c_1, c_6, eq_self, ↓reduceIte]; rfl) | (simp [aYe, aY2, aY1, xDead, bI, eq_true c_1, c_6]; done) | simp [aYe, aY2, aY1, xDead, bI, c_1, c_6])
          rw [e9_0]
          exact hP
        exact mi_iret hx hb hr hlocks hS (by (first | rfl | (simp only [aYe, aY2, aY1, xDead, bI, c_1, c_6, eq_self, ↓reduceIte]; done) | (simp only [aYe, aY2, aY1, xDead, bI, c_1, c_6, eq_self, ↓reduceIte]; rfl) | (simp only [aYe, aY2, aY1, xDead, bI, eq_true c_1, c_6, eq_self, ↓reduceIte]; done) | (simp only [aYe, aY2, aY1, xDead, bI, eq_true c_1, c_6, eq_self, ↓reduceIte]; rfl) | (simp [aYe, aY2, aY1, xDead, bI, eq_true c_1, c_6]; done) | simp [aYe, aY2, aY1, xDead, bI, c_1, c_6])) hP9 dX1_endNight_75
      · refine lv_aload_n hx hb dX1_endNight_43 rfl (lv_at hl 1 rfl) ?_
        refine mv_V (b := hT) (As := []) (rest := []) (W2 := [cT hT hB hV (aYl a)]) ⟨hx, hb, hml, hown, hts⟩ (c_X1_seerLooks l D cI cZ cJ _ hT hB hV a) (cwV 0 hts gX1_endNight_X1_seerLooks rfl rfl rfl (by decide +kernel) ⟨Nat.le_of_ble_eq_true rfl, Nat.le_of_ble_eq_true rfl⟩) hP hD hK hN hS hA (va_recv hK hP (ci := 1) (q0 := 0) rfl rfl) rfl hl.1 rfl (Nat.le_of_ble_eq_true rfl) dX1_endNight_44 ⟨Nat.le_of_ble_eq_true rfl, Nat.le_of_ble_eq_true rfl⟩ [0] [] rfl rfl rfl (fun i hi => nomatch hi) rfl 1 rfl (by decide) (by decide) (fun H locs hP hD hS => ?_)
        refine lv_aload_n hx hb dX1_endNight_47 rfl (lv_at hl 1 rfl) ?_
        refine lv_dup hx hb dX1_endNight_48 rfl ?_
        refine va_get (D := D) (cl := vwCl) (ci := 1) (v := .int ((aYl a) 1)) (C := RX1) (T := TX1) (N := 14) hx hb hts in_X1_endNight_X1 hown hK hP 0 rfl rfl 3 (by decide) (hts (.fieldLink RX1 69 "WitchTrial" "dayNumber" "I") (List.mem_of_getElem? (i := 4) rfl)) (fun _ h9 => h9) rfl dX1_endNight_49 ?_
        refine lv_iconst (v := 1) hx hb dX1_endNight_52 (by decide) ?_
        refine lv_iadd hx hb dX1_endNight_53 ?_
        refine va_put (D := D) (cl := vwCl) (ci := 1) (v := .int (((aYl a) 1) + 1)) (ty := .int) (C := RX1) (T := TX1) (N := 14) hx hb hts in_X1_endNight_X1 tyX1 tyX1_ok nmX1 hown hK hP hD hS 0 rfl rfl 3 (by decide) (hts (.fieldLink RX1 69 "WitchTrial" "dayNumber" "I") (List.mem_of_getElem? (i := 4) rfl)) (fun _ h9 => h9) rfl (by decide +kernel) rfl rfl (Nat.le_of_ble_eq_true rfl) dX1_endNight_54 (fun H locs hP hD hS => ?_)
        have hP : va_P D vwCl [cT hT hB hV (upd (aYl a) 1 (((aYl a) 1) + 1))] H := hP
        have hD : va_D A [cT hT hB hV (upd (aYl a) 1 (((aYl a) 1) + 1))] := hD
        refine lv_aload_n hx hb dX1_endNight_57 rfl (lv_at hl 1 rfl) ?_
        refine lv_iconst (v := 1) hx hb dX1_endNight_58 (by decide) ?_
        refine va_put (D := D) (cl := vwCl) (ci := 1) (v := .int 1) (ty := .int) (C := RX1) (T := TX1) (N := 14) hx hb hts in_X1_endNight_X1 tyX1 tyX1_ok nmX1 hown hK hP hD hS 0 rfl rfl 2 (by decide) (hts (.fieldLink RX1 20 "WitchTrial" "phase" "I") (List.mem_of_getElem? (i := 3) rfl)) (fun _ h9 => h9) rfl (by decide +kernel) rfl rfl (Nat.le_of_ble_eq_true rfl) dX1_endNight_59 (fun H locs hP hD hS => ?_)
        have hP : va_P D vwCl [cT hT hB hV (upd (upd (aYl a) 1 (((aYl a) 1) + 1)) 0 1)] H := hP
        have hD : va_D A [cT hT hB hV (upd (upd (aYl a) 1 (((aYl a) 1) + 1)) 0 1)] := hD
        refine lv_aload_n hx hb dX1_endNight_62 rfl (lv_at hl 1 rfl) ?_
        refine lv_aload_n hx hb dX1_endNight_63 rfl (lv_at hl 1 rfl) ?_
        refine va_get (D := D) (cl := vwCl) (ci := 1) (v := .int ((aYl a) 8)) (C := RX1) (T := TX1) (N := 14) hx hb hts in_X1_endNight_X1 hown hK hP 0 rfl rfl 10 (by decide) (hts (.fieldLink RX1 24 "WitchTrial" "protectChoice" "I") (List.mem_of_getElem? (i := 2) rfl)) (fun _ h9 => h9) rfl dX1_endNight_64 ?_
        refine va_put (D := D) (cl := vwCl) (ci := 1) (v := .int ((aYl a) 8)) (ty := .int) (C := RX1) (T := TX1) (N := 14) hx hb hts in_X1_endNight_X1 tyX1 tyX1_ok nmX1 hown hK hP hD hS 0 rfl rfl 13 (by decide) (hts (.fieldLink RX1 33 "WitchTrial" "protectedLastNight" "I") (List.mem_of_getElem? (i := 5) rfl)) (fun _ h9 => h9) rfl (by decide +kernel) rfl rfl (Nat.le_of_ble_eq_true rfl) dX1_endNight_67 (fun H locs hP hD hS => ?_)
        have hP : va_P D vwCl [cT hT hB hV (upd (upd (upd (aYl a) 1 (((aYl a) 1) + 1)) 0 1) 11 ((aYl a) 8))] H := hP
        have hD : va_D A [cT hT hB hV (upd (upd (upd (aYl a) 1 (((aYl a) 1) + 1)) 0 1) 11 ((aYl a) 8))] := hD
        refine lv_aload_n hx hb dX1_endNight_70 rfl (lv_at hl 1 rfl) ?_
        refine mv_V (b := hT) (As := []) (rest := []) (W2 := [cT hT hB hV (aF (upd (upd (upd (aYl a) 1 (((aYl a) 1) + 1)) 0 1) 11 ((aYl a) 8)))]) ⟨hx, hb, hml, hown, hts⟩ (c_X1_forgetChoices l D cI cZ cJ _ hT hB hV (upd (upd (upd (aYl a) 1 (((aYl a) 1) + 1)) 0 1) 11 ((aYl a) 8))) (cwV 0 hts gX1_endNight_X1_forgetChoices rfl rfl rfl (by decide +kernel) ⟨Nat.le_of_ble_eq_true rfl, Nat.le_of_ble_eq_true rfl⟩) hP hD hK hN hS hA (va_recv hK hP (ci := 1) (q0 := 0) rfl rfl) rfl hl.1 rfl (Nat.le_of_ble_eq_true rfl) dX1_endNight_71 ⟨Nat.le_of_ble_eq_true rfl, Nat.le_of_ble_eq_true rfl⟩ [0] [] rfl rfl rfl (fun i hi => nomatch hi) rfl 1 rfl (by decide) (by decide) (fun H locs hP hD hS => ?_)
        refine lv_iload_n hx hb dX1_endNight_74 rfl (lv_at hl 0 rfl) ?_
        have hP9 : va_P D vwCl [cT hT hB hV (aYe a)] H := by
          have e9_0 : (aYe a) = (aF (upd (upd (upd (aYl a) 1 (((aYl a) 1) + 1)) 0 1) 11 ((aYl a) 8))) := by (first | rfl | (simp only [aYe, aY2, aY1, xDead, bI, c_1, c_6, eq_self, ↓reduceIte]; done) | (simp only [aYe, aY2, aY1, xDead, bI, c_1, c_6, eq_self, ↓reduceIte]; rfl) | (simp only [aYe, aY2, aY1, xDead, bI, eq_true c_1, eq_true c_6, eq_self, ↓reduceIte]; done) | (simp only [aYe, aY2, aY1, xDead, bI, eq_true c_1, eq_true c_6, eq_self, ↓reduceIte]; rfl) | (simp [aYe, aY2, aY1, xDead, bI, eq_true c_1, eq_true c_6]; done) | simp [aYe, aY2, aY1, xDead, bI, c_1, c_6])
          rw [e9_0]
          exact hP
        exact mi_iret hx hb hr hlocks hS (by (first | rfl | (simp only [aYe, aY2, aY1, xDead, bI, c_1, c_6, eq_self, ↓reduceIte]; done) | (simp only [aYe, aY2, aY1, xDead, bI, c_1, c_6, eq_self, ↓reduceIte]; rfl) | (simp only [aYe, aY2, aY1, xDead, bI, eq_true c_1, eq_true c_6, eq_self, ↓reduceIte]; done) | (simp only [aYe, aY2, aY1, xDead, bI, eq_true c_1, eq_true c_6, eq_self, ↓reduceIte]; rfl) | (simp [aYe, aY2, aY1, xDead, bI, eq_true c_1, eq_true c_6]; done) | simp [aYe, aY2, aY1, xDead, bI, c_1, c_6])) hP9 dX1_endNight_75
    · exact absurd c_5 (by decide)

theorem in_X1_day_X1 : ∀ w ∈ wsX10, w ∈ wsX1_day := by decide +kernel
set_option maxHeartbeats 2000000 in
set_option maxRecDepth 100000 in
theorem c_X1_day (l : Launch) (D : va_G) (cI cZ cJ : ClassId) (hT : Nat) (hB : Nat) (hV : Nat) (a : Nat → Int32) (h1 : ¬ a 0 = 0) : Rd l D cI cZ cJ yX1_day wsX1_day 1 20 [.ref hT] [cT hT hB hV a] (a 1) := by
  refine rd_of (by decide) rfl (Nat.le_of_ble_eq_true rfl) (fun p e s m below meth c ls hx hb hr hml hts hown hlocks hP hK hN hl => ?_)
  have hl : lv_has ls 1 [(0, .ref hT)] := hl
  refine lv_aload_n hx hb dX1_day_0 rfl (lv_at hl 0 rfl) ?_
  refine rv_V (b := hT) (As := []) (rest := []) ⟨hx, hb, hml, hown, hts⟩ (c_X1_requireGame l D cI cZ cJ hT hB hV a (by first | assumption | omega)) (cwV 0 hts gX1_day_X1_requireGame rfl rfl rfl (by decide +kernel) ⟨Nat.le_of_ble_eq_true rfl, Nat.le_of_ble_eq_true rfl⟩) (hP.sub (ws' := [cT hT hB hV a]) [0] rfl) hK hN (va_recv hK hP (ci := 1) (q0 := 0) rfl rfl) rfl hl.1 rfl (Nat.le_of_ble_eq_true rfl) dX1_day_1 ⟨Nat.le_of_ble_eq_true rfl, Nat.le_of_ble_eq_true rfl⟩ ?_
  refine lv_aload_n hx hb dX1_day_4 rfl (lv_at hl 0 rfl) ?_
  refine va_get (D := D) (cl := vwCl) (ci := 1) (v := .int (a 1)) (C := RX1) (T := TX1) (N := 14) hx hb hts in_X1_day_X1 hown hK hP 0 rfl rfl 3 (by decide) (hts (.fieldLink RX1 69 "WitchTrial" "dayNumber" "I") (List.mem_of_getElem? (i := 1) rfl)) (fun _ h9 => h9) rfl dX1_day_5 ?_
  exact rd_iret hx hb hr hlocks (by rfl) dX1_day_8

theorem in_X1_alive_X1 : ∀ w ∈ wsX10, w ∈ wsX1_alive := by decide +kernel
set_option maxHeartbeats 2000000 in
set_option maxRecDepth 100000 in
theorem c_X1_alive (l : Launch) (D : va_G) (cI cZ cJ : ClassId) (hT : Nat) (hB : Nat) (hV : Nat) (a : Nat → Int32) (h1 : ¬ a 0 = 0) : Rd l D cI cZ cJ yX1_alive wsX1_alive 1 20 [.ref hT] [cT hT hB hV a] (a 6) := by
  refine rd_of (by decide) rfl (Nat.le_of_ble_eq_true rfl) (fun p e s m below meth c ls hx hb hr hml hts hown hlocks hP hK hN hl => ?_)
  have hl : lv_has ls 1 [(0, .ref hT)] := hl
  refine lv_aload_n hx hb dX1_alive_0 rfl (lv_at hl 0 rfl) ?_
  refine rv_V (b := hT) (As := []) (rest := []) ⟨hx, hb, hml, hown, hts⟩ (c_X1_requireGame l D cI cZ cJ hT hB hV a (by first | assumption | omega)) (cwV 0 hts gX1_alive_X1_requireGame rfl rfl rfl (by decide +kernel) ⟨Nat.le_of_ble_eq_true rfl, Nat.le_of_ble_eq_true rfl⟩) (hP.sub (ws' := [cT hT hB hV a]) [0] rfl) hK hN (va_recv hK hP (ci := 1) (q0 := 0) rfl rfl) rfl hl.1 rfl (Nat.le_of_ble_eq_true rfl) dX1_alive_1 ⟨Nat.le_of_ble_eq_true rfl, Nat.le_of_ble_eq_true rfl⟩ ?_
  refine lv_aload_n hx hb dX1_alive_4 rfl (lv_at hl 0 rfl) ?_
  refine va_get (D := D) (cl := vwCl) (ci := 1) (v := .int (a 6)) (C := RX1) (T := TX1) (N := 14) hx hb hts in_X1_alive_X1 hown hK hP 0 rfl rfl 8 (by decide) (hts (.fieldLink RX1 63 "WitchTrial" "aliveSet" "I") (List.mem_of_getElem? (i := 1) rfl)) (fun _ h9 => h9) rfl dX1_alive_5 ?_
  exact rd_iret hx hb hr hlocks (by rfl) dX1_alive_8

theorem in_X1_lookedAt_X1 : ∀ w ∈ wsX10, w ∈ wsX1_lookedAt := by decide +kernel
set_option maxHeartbeats 2000000 in
set_option maxRecDepth 100000 in
theorem c_X1_lookedAt (l : Launch) (D : va_G) (cI cZ cJ : ClassId) (hT : Nat) (hB : Nat) (hV : Nat) (a : Nat → Int32) (h1 : ¬ a 0 = 0) : Rd l D cI cZ cJ yX1_lookedAt wsX1_lookedAt 1 20 [.ref hT] [cT hT hB hV a] (a 7) := by
  refine rd_of (by decide) rfl (Nat.le_of_ble_eq_true rfl) (fun p e s m below meth c ls hx hb hr hml hts hown hlocks hP hK hN hl => ?_)
  have hl : lv_has ls 1 [(0, .ref hT)] := hl
  refine lv_aload_n hx hb dX1_lookedAt_0 rfl (lv_at hl 0 rfl) ?_
  refine rv_V (b := hT) (As := []) (rest := []) ⟨hx, hb, hml, hown, hts⟩ (c_X1_requireGame l D cI cZ cJ hT hB hV a (by first | assumption | omega)) (cwV 0 hts gX1_lookedAt_X1_requireGame rfl rfl rfl (by decide +kernel) ⟨Nat.le_of_ble_eq_true rfl, Nat.le_of_ble_eq_true rfl⟩) (hP.sub (ws' := [cT hT hB hV a]) [0] rfl) hK hN (va_recv hK hP (ci := 1) (q0 := 0) rfl rfl) rfl hl.1 rfl (Nat.le_of_ble_eq_true rfl) dX1_lookedAt_1 ⟨Nat.le_of_ble_eq_true rfl, Nat.le_of_ble_eq_true rfl⟩ ?_
  refine lv_aload_n hx hb dX1_lookedAt_4 rfl (lv_at hl 0 rfl) ?_
  refine va_get (D := D) (cl := vwCl) (ci := 1) (v := .int (a 7)) (C := RX1) (T := TX1) (N := 14) hx hb hts in_X1_lookedAt_X1 hown hK hP 0 rfl rfl 9 (by decide) (hts (.fieldLink RX1 66 "WitchTrial" "lookedAtSet" "I") (List.mem_of_getElem? (i := 1) rfl)) (fun _ h9 => h9) rfl dX1_lookedAt_5 ?_
  exact rd_iret hx hb hr hlocks (by rfl) dX1_lookedAt_8

theorem in_X1_votesFor_X1 : ∀ w ∈ wsX10, w ∈ wsX1_votesFor := by decide +kernel
set_option maxHeartbeats 2000000 in
set_option maxRecDepth 100000 in
theorem c_X1_votesFor (l : Launch) (D : va_G) (cI cZ cJ : ClassId) (hT : Nat) (hB : Nat) (hV : Nat) (a : Nat → Int32) (v : Nat → Int32) (q : Int32) (h1 : ¬ a 0 = 0) (h2 : yPl a q = true) : Rd l D cI cZ cJ yX1_votesFor wsX1_votesFor 1 26 [.ref hT, .int q] [cT hT hB hV a, cA cI hV 8 v] (xMv v q 8) := by
  refine rd_of (by decide) rfl (Nat.le_of_ble_eq_true rfl) (fun p e s m below meth c ls hx hb hr hml hts hown hlocks hP hK hN hl => ?_)
  have hl : lv_has ls 2 [(0, .ref hT), (1, .int q)] := hl
  refine lv_aload_n hx hb dX1_votesFor_0 rfl (lv_at hl 0 rfl) ?_
  refine rv_V (b := hT) (As := []) (rest := []) ⟨hx, hb, hml, hown, hts⟩ (c_X1_requireGame l D cI cZ cJ hT hB hV a (by first | assumption | omega)) (cwV 0 hts gX1_votesFor_X1_requireGame rfl rfl rfl (by decide +kernel) ⟨Nat.le_of_ble_eq_true rfl, Nat.le_of_ble_eq_true rfl⟩) (hP.sub (ws' := [cT hT hB hV a]) [0] rfl) hK hN (va_recv hK hP (ci := 1) (q0 := 0) rfl rfl) rfl hl.1 rfl (Nat.le_of_ble_eq_true rfl) dX1_votesFor_1 ⟨Nat.le_of_ble_eq_true rfl, Nat.le_of_ble_eq_true rfl⟩ ?_
  refine lv_aload_n hx hb dX1_votesFor_4 rfl (lv_at hl 0 rfl) ?_
  refine lv_iload_n hx hb dX1_votesFor_5 rfl (lv_at hl 1 rfl) ?_
  refine rv_V (b := hT) (As := [.int q]) (rest := []) ⟨hx, hb, hml, hown, hts⟩ (c_X1_requirePlayer l D cI cZ cJ hT hB hV a q (by first | assumption | omega)) (cwV 1 hts gX1_votesFor_X1_requirePlayer rfl rfl rfl (by decide +kernel) ⟨Nat.le_of_ble_eq_true rfl, Nat.le_of_ble_eq_true rfl⟩) (hP.sub (ws' := [cT hT hB hV a]) [0] rfl) hK hN (va_recv hK hP (ci := 1) (q0 := 0) rfl rfl) rfl hl.1 rfl (Nat.le_of_ble_eq_true rfl) dX1_votesFor_6 ⟨Nat.le_of_ble_eq_true rfl, Nat.le_of_ble_eq_true rfl⟩ ?_
  refine lv_aload_n hx hb dX1_votesFor_9 rfl (lv_at hl 0 rfl) ?_
  refine lv_iload_n hx hb dX1_votesFor_10 rfl (lv_at hl 1 rfl) ?_
  refine rd_V (b := hT) (As := [.int q]) (rest := []) ⟨hx, hb, hml, hown, hts⟩ (c_X1_countVotes l D cI cZ cJ hT hB hV a v q) (cwV 1 hts gX1_votesFor_X1_countVotes rfl rfl rfl (by decide +kernel) ⟨Nat.le_of_ble_eq_true rfl, Nat.le_of_ble_eq_true rfl⟩) (hP.sub (ws' := [cT hT hB hV a, cA cI hV 8 v]) [0, 1] rfl) hK hN (va_recv hK hP (ci := 1) (q0 := 0) rfl rfl) rfl hl.1 rfl (Nat.le_of_ble_eq_true rfl) dX1_votesFor_11 ⟨Nat.le_of_ble_eq_true rfl, Nat.le_of_ble_eq_true rfl⟩ ?_
  exact rd_iret hx hb hr hlocks (by rfl) dX1_votesFor_14

theorem in_X1_worlds_X0 : ∀ w ∈ wsX00, w ∈ wsX1_worlds := by decide +kernel
theorem in_X1_worlds_X1 : ∀ w ∈ wsX10, w ∈ wsX1_worlds := by decide +kernel
set_option maxHeartbeats 2000000 in
set_option maxRecDepth 100000 in
theorem c_X1_worlds (l : Launch) (D : va_G) (cI cZ cJ : ClassId) (hT : Nat) (hB : Nat) (hV : Nat) (a : Nat → Int32) (hG : Nat) (tr : Int32) (g : Nat → Int32) (q : Int32) (K : Nat) (hK9 : K ≤ 1120) (hg : ∀ j, j < K → ¬ g j = 0) (hz : K < 1120 → g K = 0) (h1 : ¬ a 0 = 0) (h2 : yVw a q = true) : Rd l D cI cZ cJ yX1_worlds wsX1_worlds 3 63 [.ref hT, .int q] [cT hT hB hV a, cB hB hG tr, cA cI hG 1120 g] (xCnt (pAg g tr (yKn a q)) K) := by
  refine rd_of (by decide) rfl (Nat.le_of_ble_eq_true rfl) (fun p e s m below meth c ls hx hb hr hml hts hown hlocks hP hK hN hl => ?_)
  have hl : lv_has ls 2 [(0, .ref hT), (1, .int q)] := hl
  refine lv_aload_n hx hb dX1_worlds_0 rfl (lv_at hl 0 rfl) ?_
  refine rv_V (b := hT) (As := []) (rest := []) ⟨hx, hb, hml, hown, hts⟩ (c_X1_requireGame l D cI cZ cJ hT hB hV a (by first | assumption | omega)) (cwV 0 hts gX1_worlds_X1_requireGame rfl rfl rfl (by decide +kernel) ⟨Nat.le_of_ble_eq_true rfl, Nat.le_of_ble_eq_true rfl⟩) (hP.sub (ws' := [cT hT hB hV a]) [0] rfl) hK hN (va_recv hK hP (ci := 1) (q0 := 0) rfl rfl) rfl hl.1 rfl (Nat.le_of_ble_eq_true rfl) dX1_worlds_1 ⟨Nat.le_of_ble_eq_true rfl, Nat.le_of_ble_eq_true rfl⟩ ?_
  refine lv_aload_n hx hb dX1_worlds_4 rfl (lv_at hl 0 rfl) ?_
  refine lv_iload_n hx hb dX1_worlds_5 rfl (lv_at hl 1 rfl) ?_
  refine rv_V (b := hT) (As := [.int q]) (rest := []) ⟨hx, hb, hml, hown, hts⟩ (c_X1_requireViewer l D cI cZ cJ hT hB hV a q (by first | assumption | omega)) (cwV 1 hts gX1_worlds_X1_requireViewer rfl rfl rfl (by decide +kernel) ⟨Nat.le_of_ble_eq_true rfl, Nat.le_of_ble_eq_true rfl⟩) (hP.sub (ws' := [cT hT hB hV a]) [0] rfl) hK hN (va_recv hK hP (ci := 1) (q0 := 0) rfl rfl) rfl hl.1 rfl (Nat.le_of_ble_eq_true rfl) dX1_worlds_6 ⟨Nat.le_of_ble_eq_true rfl, Nat.le_of_ble_eq_true rfl⟩ ?_
  refine lv_aload_n hx hb dX1_worlds_9 rfl (lv_at hl 0 rfl) ?_
  refine va_get (D := D) (cl := vwCl) (ci := 1) (v := .ref hB) (C := RX1) (T := TX1) (N := 14) hx hb hts in_X1_worlds_X1 hown hK hP 0 rfl rfl 0 (by decide) (hts (.fieldLink RX1 12 "WitchTrial" "book" "LWitchTrial$Book;") (List.mem_of_getElem? (i := 1) rfl)) (fun _ h9 => h9) rfl dX1_worlds_10 ?_
  refine lv_aload_n hx hb dX1_worlds_13 rfl (lv_at hl 0 rfl) ?_
  refine lv_iload_n hx hb dX1_worlds_14 rfl (lv_at hl 1 rfl) ?_
  refine rd_V (b := hT) (As := [.int q]) (rest := [.ref hB]) ⟨hx, hb, hml, hown, hts⟩ (c_X1_knownBits l D cI cZ cJ hT hB hV a q) (cwV 1 hts gX1_worlds_X1_knownBits rfl rfl rfl (by decide +kernel) ⟨Nat.le_of_ble_eq_true rfl, Nat.le_of_ble_eq_true rfl⟩) (hP.sub (ws' := [cT hT hB hV a]) [0] rfl) hK hN (va_recv hK hP (ci := 1) (q0 := 0) rfl rfl) rfl hl.1 rfl (Nat.le_of_ble_eq_true rfl) dX1_worlds_15 ⟨Nat.le_of_ble_eq_true rfl, Nat.le_of_ble_eq_true rfl⟩ ?_
  refine rd_VN (b := hB) (As := [.int (yKn a q)]) (rest := []) ⟨hx, hb, hml, hown, hts⟩ (c_X0_count l D cI cZ cJ hB hG tr g (yKn a q) K (by first | assumption | omega) (by first | assumption | omega) (by first | assumption | omega)) ⟨va_cnB 1 hts gX1_worlds_X0_count_n89 rfl rfl rfl (hN.link 6 rfl) (hts (.initialized RX0) (List.mem_of_getElem? (i := 43) rfl)) (by decide +kernel) ⟨Nat.le_of_ble_eq_true rfl, Nat.le_of_ble_eq_true rfl⟩, (hts (.instanceMethod yX0_count) (List.mem_of_getElem? (i := 42) rfl)), (hts (.selects RX0 yX0_count yX0_count) (List.mem_of_getElem? (i := 44) rfl))⟩ (hP.sub (ws' := [cB hB hG tr, cA cI hG 1120 g]) [1, 2] rfl) hK hN (va_recv hK hP (ci := 0) (q0 := 1) rfl rfl) rfl hl.1 rfl (Nat.le_of_ble_eq_true rfl) dX1_worlds_18 ⟨Nat.le_of_ble_eq_true rfl, Nat.le_of_ble_eq_true rfl⟩ ?_
  exact rd_iret hx hb hr hlocks (by rfl) dX1_worlds_21

theorem in_X1_worldsWith_X0 : ∀ w ∈ wsX00, w ∈ wsX1_worldsWith := by decide +kernel
theorem in_X1_worldsWith_X1 : ∀ w ∈ wsX10, w ∈ wsX1_worldsWith := by decide +kernel
set_option maxHeartbeats 2000000 in
set_option maxRecDepth 100000 in
theorem c_X1_worldsWith (l : Launch) (D : va_G) (cI cZ cJ : ClassId) (hT : Nat) (hB : Nat) (hV : Nat) (a : Nat → Int32) (hG : Nat) (tr : Int32) (g : Nat → Int32) (q : Int32) (r : Int32) (k : Int32) (K : Nat) (hK9 : K ≤ 1120) (hg : ∀ j, j < K → ¬ g j = 0) (hz : K < 1120 → g K = 0) (h1 : ¬ a 0 = 0) (h2 : yVw a q = true) (h3 : yPl a r = true) (h4 : ¬ k < 0) (h5 : k ≤ 3) : Rd l D cI cZ cJ yX1_worldsWith wsX1_worldsWith 3 68 [.ref hT, .int q, .int r, .int k] [cT hT hB hV a, cB hB hG tr, cA cI hG 1120 g] (xCnt (pRo g tr (yKn a q) r k) K) := by
  refine rd_of (by decide) rfl (Nat.le_of_ble_eq_true rfl) (fun p e s m below meth c ls hx hb hr hml hts hown hlocks hP hK hN hl => ?_)
  have hl : lv_has ls 4 [(0, .ref hT), (1, .int q), (2, .int r), (3, .int k)] := hl
  refine lv_aload_n hx hb dX1_worldsWith_0 rfl (lv_at hl 0 rfl) ?_
  refine rv_V (b := hT) (As := []) (rest := []) ⟨hx, hb, hml, hown, hts⟩ (c_X1_requireGame l D cI cZ cJ hT hB hV a (by first | assumption | omega)) (cwV 0 hts gX1_worldsWith_X1_requireGame rfl rfl rfl (by decide +kernel) ⟨Nat.le_of_ble_eq_true rfl, Nat.le_of_ble_eq_true rfl⟩) (hP.sub (ws' := [cT hT hB hV a]) [0] rfl) hK hN (va_recv hK hP (ci := 1) (q0 := 0) rfl rfl) rfl hl.1 rfl (Nat.le_of_ble_eq_true rfl) dX1_worldsWith_1 ⟨Nat.le_of_ble_eq_true rfl, Nat.le_of_ble_eq_true rfl⟩ ?_
  refine lv_aload_n hx hb dX1_worldsWith_4 rfl (lv_at hl 0 rfl) ?_
  refine lv_iload_n hx hb dX1_worldsWith_5 rfl (lv_at hl 1 rfl) ?_
  refine rv_V (b := hT) (As := [.int q]) (rest := []) ⟨hx, hb, hml, hown, hts⟩ (c_X1_requireViewer l D cI cZ cJ hT hB hV a q (by first | assumption | omega)) (cwV 1 hts gX1_worldsWith_X1_requireViewer rfl rfl rfl (by decide +kernel) ⟨Nat.le_of_ble_eq_true rfl, Nat.le_of_ble_eq_true rfl⟩) (hP.sub (ws' := [cT hT hB hV a]) [0] rfl) hK hN (va_recv hK hP (ci := 1) (q0 := 0) rfl rfl) rfl hl.1 rfl (Nat.le_of_ble_eq_true rfl) dX1_worldsWith_6 ⟨Nat.le_of_ble_eq_true rfl, Nat.le_of_ble_eq_true rfl⟩ ?_
  refine lv_aload_n hx hb dX1_worldsWith_9 rfl (lv_at hl 0 rfl) ?_
  refine lv_iload_n hx hb dX1_worldsWith_10 rfl (lv_at hl 2 rfl) ?_
  refine rv_V (b := hT) (As := [.int r]) (rest := []) ⟨hx, hb, hml, hown, hts⟩ (c_X1_requirePlayer l D cI cZ cJ hT hB hV a r (by first | assumption | omega)) (cwV 1 hts gX1_worldsWith_X1_requirePlayer rfl rfl rfl (by decide +kernel) ⟨Nat.le_of_ble_eq_true rfl, Nat.le_of_ble_eq_true rfl⟩) (hP.sub (ws' := [cT hT hB hV a]) [0] rfl) hK hN (va_recv hK hP (ci := 1) (q0 := 0) rfl rfl) rfl hl.1 rfl (Nat.le_of_ble_eq_true rfl) dX1_worldsWith_11 ⟨Nat.le_of_ble_eq_true rfl, Nat.le_of_ble_eq_true rfl⟩ ?_
  refine lv_iload_n hx hb dX1_worldsWith_14 rfl (lv_at hl 3 rfl) ?_
  refine lv_if_lt (tgt := 23) hx hb dX1_worldsWith_15 (by decide) (fun c_1 => ?_) (fun c_1 => ?_)
  · simp [h4, h5] at c_1
  · refine lv_iload_n hx hb dX1_worldsWith_18 rfl (lv_at hl 3 rfl) ?_
    refine lv_iconst (v := 3) hx hb dX1_worldsWith_19 (by decide) ?_
    refine lv_icmp_le (tgt := 33) hx hb dX1_worldsWith_20 (by decide) (fun c_2 => ?_) (fun c_2 => ?_)
    · refine lv_aload_n hx hb dX1_worldsWith_33 rfl (lv_at hl 0 rfl) ?_
      refine va_get (D := D) (cl := vwCl) (ci := 1) (v := .ref hB) (C := RX1) (T := TX1) (N := 14) hx hb hts in_X1_worldsWith_X1 hown hK hP 0 rfl rfl 0 (by decide) (hts (.fieldLink RX1 12 "WitchTrial" "book" "LWitchTrial$Book;") (List.mem_of_getElem? (i := 3) rfl)) (fun _ h9 => h9) rfl dX1_worldsWith_34 ?_
      refine lv_aload_n hx hb dX1_worldsWith_37 rfl (lv_at hl 0 rfl) ?_
      refine lv_iload_n hx hb dX1_worldsWith_38 rfl (lv_at hl 1 rfl) ?_
      refine rd_V (b := hT) (As := [.int q]) (rest := [.ref hB]) ⟨hx, hb, hml, hown, hts⟩ (c_X1_knownBits l D cI cZ cJ hT hB hV a q) (cwV 1 hts gX1_worldsWith_X1_knownBits rfl rfl rfl (by decide +kernel) ⟨Nat.le_of_ble_eq_true rfl, Nat.le_of_ble_eq_true rfl⟩) (hP.sub (ws' := [cT hT hB hV a]) [0] rfl) hK hN (va_recv hK hP (ci := 1) (q0 := 0) rfl rfl) rfl hl.1 rfl (Nat.le_of_ble_eq_true rfl) dX1_worldsWith_39 ⟨Nat.le_of_ble_eq_true rfl, Nat.le_of_ble_eq_true rfl⟩ ?_
      refine lv_iload_n hx hb dX1_worldsWith_42 rfl (lv_at hl 2 rfl) ?_
      refine lv_iload_n hx hb dX1_worldsWith_43 rfl (lv_at hl 3 rfl) ?_
      refine rd_VN (b := hB) (As := [.int (yKn a q), .int r, .int k]) (rest := []) ⟨hx, hb, hml, hown, hts⟩ (c_X0_countWithRole l D cI cZ cJ hB hG tr g (yKn a q) r k K (by first | assumption | omega) (by first | assumption | omega) (by first | assumption | omega)) ⟨va_cnB 3 hts gX1_worldsWith_X0_countWithRole_n150 rfl rfl rfl (hN.link 10 rfl) (hts (.initialized RX0) (List.mem_of_getElem? (i := 45) rfl)) (by decide +kernel) ⟨Nat.le_of_ble_eq_true rfl, Nat.le_of_ble_eq_true rfl⟩, (hts (.instanceMethod yX0_countWithRole) (List.mem_of_getElem? (i := 44) rfl)), (hts (.selects RX0 yX0_countWithRole yX0_countWithRole) (List.mem_of_getElem? (i := 46) rfl))⟩ (hP.sub (ws' := [cB hB hG tr, cA cI hG 1120 g]) [1, 2] rfl) hK hN (va_recv hK hP (ci := 0) (q0 := 1) rfl rfl) rfl hl.1 rfl (Nat.le_of_ble_eq_true rfl) dX1_worldsWith_44 ⟨Nat.le_of_ble_eq_true rfl, Nat.le_of_ble_eq_true rfl⟩ ?_
      exact rd_iret hx hb hr hlocks (by rfl) dX1_worldsWith_47
    · simp [h4, h5] at c_2

theorem in_X1_sureWitches_X0 : ∀ w ∈ wsX00, w ∈ wsX1_sureWitches := by decide +kernel
theorem in_X1_sureWitches_X1 : ∀ w ∈ wsX10, w ∈ wsX1_sureWitches := by decide +kernel
set_option maxHeartbeats 2000000 in
set_option maxRecDepth 100000 in
theorem c_X1_sureWitches (l : Launch) (D : va_G) (cI cZ cJ : ClassId) (hT : Nat) (hB : Nat) (hV : Nat) (a : Nat → Int32) (hG : Nat) (tr : Int32) (g : Nat → Int32) (q : Int32) (K : Nat) (hK9 : K ≤ 1120) (hg : ∀ j, j < K → ¬ g j = 0) (hz : K < 1120 → g K = 0) (h1 : ¬ a 0 = 0) (h2 : yVw a q = true) : Rd l D cI cZ cJ yX1_sureWitches wsX1_sureWitches 3 63 [.ref hT, .int q] [cT hT hB hV a, cB hB hG tr, cA cI hG 1120 g] (yWa g tr (yKn a q) K) := by
  refine rd_of (by decide) rfl (Nat.le_of_ble_eq_true rfl) (fun p e s m below meth c ls hx hb hr hml hts hown hlocks hP hK hN hl => ?_)
  have hl : lv_has ls 2 [(0, .ref hT), (1, .int q)] := hl
  refine lv_aload_n hx hb dX1_sureWitches_0 rfl (lv_at hl 0 rfl) ?_
  refine rv_V (b := hT) (As := []) (rest := []) ⟨hx, hb, hml, hown, hts⟩ (c_X1_requireGame l D cI cZ cJ hT hB hV a (by first | assumption | omega)) (cwV 0 hts gX1_sureWitches_X1_requireGame rfl rfl rfl (by decide +kernel) ⟨Nat.le_of_ble_eq_true rfl, Nat.le_of_ble_eq_true rfl⟩) (hP.sub (ws' := [cT hT hB hV a]) [0] rfl) hK hN (va_recv hK hP (ci := 1) (q0 := 0) rfl rfl) rfl hl.1 rfl (Nat.le_of_ble_eq_true rfl) dX1_sureWitches_1 ⟨Nat.le_of_ble_eq_true rfl, Nat.le_of_ble_eq_true rfl⟩ ?_
  refine lv_aload_n hx hb dX1_sureWitches_4 rfl (lv_at hl 0 rfl) ?_
  refine lv_iload_n hx hb dX1_sureWitches_5 rfl (lv_at hl 1 rfl) ?_
  refine rv_V (b := hT) (As := [.int q]) (rest := []) ⟨hx, hb, hml, hown, hts⟩ (c_X1_requireViewer l D cI cZ cJ hT hB hV a q (by first | assumption | omega)) (cwV 1 hts gX1_sureWitches_X1_requireViewer rfl rfl rfl (by decide +kernel) ⟨Nat.le_of_ble_eq_true rfl, Nat.le_of_ble_eq_true rfl⟩) (hP.sub (ws' := [cT hT hB hV a]) [0] rfl) hK hN (va_recv hK hP (ci := 1) (q0 := 0) rfl rfl) rfl hl.1 rfl (Nat.le_of_ble_eq_true rfl) dX1_sureWitches_6 ⟨Nat.le_of_ble_eq_true rfl, Nat.le_of_ble_eq_true rfl⟩ ?_
  refine lv_aload_n hx hb dX1_sureWitches_9 rfl (lv_at hl 0 rfl) ?_
  refine va_get (D := D) (cl := vwCl) (ci := 1) (v := .ref hB) (C := RX1) (T := TX1) (N := 14) hx hb hts in_X1_sureWitches_X1 hown hK hP 0 rfl rfl 0 (by decide) (hts (.fieldLink RX1 12 "WitchTrial" "book" "LWitchTrial$Book;") (List.mem_of_getElem? (i := 1) rfl)) (fun _ h9 => h9) rfl dX1_sureWitches_10 ?_
  refine lv_aload_n hx hb dX1_sureWitches_13 rfl (lv_at hl 0 rfl) ?_
  refine lv_iload_n hx hb dX1_sureWitches_14 rfl (lv_at hl 1 rfl) ?_
  refine rd_V (b := hT) (As := [.int q]) (rest := [.ref hB]) ⟨hx, hb, hml, hown, hts⟩ (c_X1_knownBits l D cI cZ cJ hT hB hV a q) (cwV 1 hts gX1_sureWitches_X1_knownBits rfl rfl rfl (by decide +kernel) ⟨Nat.le_of_ble_eq_true rfl, Nat.le_of_ble_eq_true rfl⟩) (hP.sub (ws' := [cT hT hB hV a]) [0] rfl) hK hN (va_recv hK hP (ci := 1) (q0 := 0) rfl rfl) rfl hl.1 rfl (Nat.le_of_ble_eq_true rfl) dX1_sureWitches_15 ⟨Nat.le_of_ble_eq_true rfl, Nat.le_of_ble_eq_true rfl⟩ ?_
  refine rd_VN (b := hB) (As := [.int (yKn a q)]) (rest := []) ⟨hx, hb, hml, hown, hts⟩ (c_X0_witchesInAll l D cI cZ cJ hB hG tr g (yKn a q) K (by first | assumption | omega) (by first | assumption | omega) (by first | assumption | omega)) ⟨va_cnB 1 hts gX1_sureWitches_X0_witchesInAll_n153 rfl rfl rfl (hN.link 13 rfl) (hts (.initialized RX0) (List.mem_of_getElem? (i := 43) rfl)) (by decide +kernel) ⟨Nat.le_of_ble_eq_true rfl, Nat.le_of_ble_eq_true rfl⟩, (hts (.instanceMethod yX0_witchesInAll) (List.mem_of_getElem? (i := 42) rfl)), (hts (.selects RX0 yX0_witchesInAll yX0_witchesInAll) (List.mem_of_getElem? (i := 44) rfl))⟩ (hP.sub (ws' := [cB hB hG tr, cA cI hG 1120 g]) [1, 2] rfl) hK hN (va_recv hK hP (ci := 0) (q0 := 1) rfl rfl) rfl hl.1 rfl (Nat.le_of_ble_eq_true rfl) dX1_sureWitches_18 ⟨Nat.le_of_ble_eq_true rfl, Nat.le_of_ble_eq_true rfl⟩ ?_
  exact rd_iret hx hb hr hlocks (by rfl) dX1_sureWitches_21

theorem in_X1_sureHonest_X0 : ∀ w ∈ wsX00, w ∈ wsX1_sureHonest := by decide +kernel
theorem in_X1_sureHonest_X1 : ∀ w ∈ wsX10, w ∈ wsX1_sureHonest := by decide +kernel
set_option maxHeartbeats 2000000 in
set_option maxRecDepth 100000 in
theorem c_X1_sureHonest (l : Launch) (D : va_G) (cI cZ cJ : ClassId) (hT : Nat) (hB : Nat) (hV : Nat) (a : Nat → Int32) (hG : Nat) (tr : Int32) (g : Nat → Int32) (q : Int32) (K : Nat) (hK9 : K ≤ 1120) (hg : ∀ j, j < K → ¬ g j = 0) (hz : K < 1120 → g K = 0) (h1 : ¬ a 0 = 0) (h2 : yVw a q = true) : Rd l D cI cZ cJ yX1_sureHonest wsX1_sureHonest 3 63 [.ref hT, .int q] [cT hT hB hV a, cB hB hG tr, cA cI hG 1120 g] (xAll (a 2) &&& (yWy g tr (yKn a q) K ^^^ (-1))) := by
  refine rd_of (by decide) rfl (Nat.le_of_ble_eq_true rfl) (fun p e s m below meth c ls hx hb hr hml hts hown hlocks hP hK hN hl => ?_)
  have hl : lv_has ls 2 [(0, .ref hT), (1, .int q)] := hl
  refine lv_aload_n hx hb dX1_sureHonest_0 rfl (lv_at hl 0 rfl) ?_
  refine rv_V (b := hT) (As := []) (rest := []) ⟨hx, hb, hml, hown, hts⟩ (c_X1_requireGame l D cI cZ cJ hT hB hV a (by first | assumption | omega)) (cwV 0 hts gX1_sureHonest_X1_requireGame rfl rfl rfl (by decide +kernel) ⟨Nat.le_of_ble_eq_true rfl, Nat.le_of_ble_eq_true rfl⟩) (hP.sub (ws' := [cT hT hB hV a]) [0] rfl) hK hN (va_recv hK hP (ci := 1) (q0 := 0) rfl rfl) rfl hl.1 rfl (Nat.le_of_ble_eq_true rfl) dX1_sureHonest_1 ⟨Nat.le_of_ble_eq_true rfl, Nat.le_of_ble_eq_true rfl⟩ ?_
  refine lv_aload_n hx hb dX1_sureHonest_4 rfl (lv_at hl 0 rfl) ?_
  refine lv_iload_n hx hb dX1_sureHonest_5 rfl (lv_at hl 1 rfl) ?_
  refine rv_V (b := hT) (As := [.int q]) (rest := []) ⟨hx, hb, hml, hown, hts⟩ (c_X1_requireViewer l D cI cZ cJ hT hB hV a q (by first | assumption | omega)) (cwV 1 hts gX1_sureHonest_X1_requireViewer rfl rfl rfl (by decide +kernel) ⟨Nat.le_of_ble_eq_true rfl, Nat.le_of_ble_eq_true rfl⟩) (hP.sub (ws' := [cT hT hB hV a]) [0] rfl) hK hN (va_recv hK hP (ci := 1) (q0 := 0) rfl rfl) rfl hl.1 rfl (Nat.le_of_ble_eq_true rfl) dX1_sureHonest_6 ⟨Nat.le_of_ble_eq_true rfl, Nat.le_of_ble_eq_true rfl⟩ ?_
  refine lv_aload_n hx hb dX1_sureHonest_9 rfl (lv_at hl 0 rfl) ?_
  refine va_get (D := D) (cl := vwCl) (ci := 1) (v := .int (a 2)) (C := RX1) (T := TX1) (N := 14) hx hb hts in_X1_sureHonest_X1 hown hK hP 0 rfl rfl 4 (by decide) (hts (.fieldLink RX1 47 "WitchTrial" "playerCount" "I") (List.mem_of_getElem? (i := 1) rfl)) (fun _ h9 => h9) rfl dX1_sureHonest_10 ?_
  refine rd_S (As := [.int (a 2)]) (rest := []) ⟨hx, hb, hml, hown, hts⟩ (c_X1_everyone l D cI cZ cJ (a 2)) (va_cwS 1 hts gX1_sureHonest_X1_everyone rfl rfl rfl (by decide +kernel) ⟨Nat.le_of_ble_eq_true rfl, Nat.le_of_ble_eq_true rfl⟩) (hP.sub (ws' := []) [] rfl) hK hN rfl hl.1 rfl (Nat.le_of_ble_eq_true rfl) dX1_sureHonest_13 ⟨Nat.le_of_ble_eq_true rfl, Nat.le_of_ble_eq_true rfl⟩ ?_
  refine lv_aload_n hx hb dX1_sureHonest_16 rfl (lv_at hl 0 rfl) ?_
  refine va_get (D := D) (cl := vwCl) (ci := 1) (v := .ref hB) (C := RX1) (T := TX1) (N := 14) hx hb hts in_X1_sureHonest_X1 hown hK hP 0 rfl rfl 0 (by decide) (hts (.fieldLink RX1 12 "WitchTrial" "book" "LWitchTrial$Book;") (List.mem_of_getElem? (i := 2) rfl)) (fun _ h9 => h9) rfl dX1_sureHonest_17 ?_
  refine lv_aload_n hx hb dX1_sureHonest_20 rfl (lv_at hl 0 rfl) ?_
  refine lv_iload_n hx hb dX1_sureHonest_21 rfl (lv_at hl 1 rfl) ?_
  refine rd_V (b := hT) (As := [.int q]) (rest := [.ref hB, .int (xAll (a 2))]) ⟨hx, hb, hml, hown, hts⟩ (c_X1_knownBits l D cI cZ cJ hT hB hV a q) (cwV 1 hts gX1_sureHonest_X1_knownBits rfl rfl rfl (by decide +kernel) ⟨Nat.le_of_ble_eq_true rfl, Nat.le_of_ble_eq_true rfl⟩) (hP.sub (ws' := [cT hT hB hV a]) [0] rfl) hK hN (va_recv hK hP (ci := 1) (q0 := 0) rfl rfl) rfl hl.1 rfl (Nat.le_of_ble_eq_true rfl) dX1_sureHonest_22 ⟨Nat.le_of_ble_eq_true rfl, Nat.le_of_ble_eq_true rfl⟩ ?_
  refine rd_VN (b := hB) (As := [.int (yKn a q)]) (rest := [.int (xAll (a 2))]) ⟨hx, hb, hml, hown, hts⟩ (c_X0_witchesInAny l D cI cZ cJ hB hG tr g (yKn a q) K (by first | assumption | omega) (by first | assumption | omega) (by first | assumption | omega)) ⟨va_cnB 1 hts gX1_sureHonest_X0_witchesInAny_n156 rfl rfl rfl (hN.link 14 rfl) (hts (.initialized RX0) (List.mem_of_getElem? (i := 43) rfl)) (by decide +kernel) ⟨Nat.le_of_ble_eq_true rfl, Nat.le_of_ble_eq_true rfl⟩, (hts (.instanceMethod yX0_witchesInAny) (List.mem_of_getElem? (i := 42) rfl)), (hts (.selects RX0 yX0_witchesInAny yX0_witchesInAny) (List.mem_of_getElem? (i := 44) rfl))⟩ (hP.sub (ws' := [cB hB hG tr, cA cI hG 1120 g]) [1, 2] rfl) hK hN (va_recv hK hP (ci := 0) (q0 := 1) rfl rfl) rfl hl.1 rfl (Nat.le_of_ble_eq_true rfl) dX1_sureHonest_25 ⟨Nat.le_of_ble_eq_true rfl, Nat.le_of_ble_eq_true rfl⟩ ?_
  refine lv_iconst (v := (-1)) hx hb dX1_sureHonest_28 (by decide) ?_
  refine lv_ixor hx hb dX1_sureHonest_29 ?_
  refine lv_iand hx hb dX1_sureHonest_30 ?_
  exact rd_iret hx hb hr hlocks (by rfl) dX1_sureHonest_31

theorem in_X1_witchSets_X0 : ∀ w ∈ wsX00, w ∈ wsX1_witchSets := by decide +kernel
theorem in_X1_witchSets_X1 : ∀ w ∈ wsX10, w ∈ wsX1_witchSets := by decide +kernel
set_option maxHeartbeats 2000000 in
set_option maxRecDepth 100000 in
theorem c_X1_witchSets (l : Launch) (D : va_G) (cI cZ cJ : ClassId) (hT : Nat) (hB : Nat) (hV : Nat) (a : Nat → Int32) (hG : Nat) (tr : Int32) (g : Nat → Int32) (q : Int32) (K : Nat) (hK9 : K ≤ 1120) (hg : ∀ j, j < K → ¬ g j = 0) (hz : K < 1120 → g K = 0) (h1 : ¬ a 0 = 0) (h2 : yVw a q = true) : Rd l D cI cZ cJ yX1_witchSets wsX1_witchSets 3 63 [.ref hT, .int q] [cT hT hB hV a, cB hB hG tr, cA cI hG 1120 g] ((yCs g tr (yKn a q) K).1) := by
  refine rd_of (by decide) rfl (Nat.le_of_ble_eq_true rfl) (fun p e s m below meth c ls hx hb hr hml hts hown hlocks hP hK hN hl => ?_)
  have hl : lv_has ls 2 [(0, .ref hT), (1, .int q)] := hl
  refine lv_aload_n hx hb dX1_witchSets_0 rfl (lv_at hl 0 rfl) ?_
  refine rv_V (b := hT) (As := []) (rest := []) ⟨hx, hb, hml, hown, hts⟩ (c_X1_requireGame l D cI cZ cJ hT hB hV a (by first | assumption | omega)) (cwV 0 hts gX1_witchSets_X1_requireGame rfl rfl rfl (by decide +kernel) ⟨Nat.le_of_ble_eq_true rfl, Nat.le_of_ble_eq_true rfl⟩) (hP.sub (ws' := [cT hT hB hV a]) [0] rfl) hK hN (va_recv hK hP (ci := 1) (q0 := 0) rfl rfl) rfl hl.1 rfl (Nat.le_of_ble_eq_true rfl) dX1_witchSets_1 ⟨Nat.le_of_ble_eq_true rfl, Nat.le_of_ble_eq_true rfl⟩ ?_
  refine lv_aload_n hx hb dX1_witchSets_4 rfl (lv_at hl 0 rfl) ?_
  refine lv_iload_n hx hb dX1_witchSets_5 rfl (lv_at hl 1 rfl) ?_
  refine rv_V (b := hT) (As := [.int q]) (rest := []) ⟨hx, hb, hml, hown, hts⟩ (c_X1_requireViewer l D cI cZ cJ hT hB hV a q (by first | assumption | omega)) (cwV 1 hts gX1_witchSets_X1_requireViewer rfl rfl rfl (by decide +kernel) ⟨Nat.le_of_ble_eq_true rfl, Nat.le_of_ble_eq_true rfl⟩) (hP.sub (ws' := [cT hT hB hV a]) [0] rfl) hK hN (va_recv hK hP (ci := 1) (q0 := 0) rfl rfl) rfl hl.1 rfl (Nat.le_of_ble_eq_true rfl) dX1_witchSets_6 ⟨Nat.le_of_ble_eq_true rfl, Nat.le_of_ble_eq_true rfl⟩ ?_
  refine lv_aload_n hx hb dX1_witchSets_9 rfl (lv_at hl 0 rfl) ?_
  refine va_get (D := D) (cl := vwCl) (ci := 1) (v := .ref hB) (C := RX1) (T := TX1) (N := 14) hx hb hts in_X1_witchSets_X1 hown hK hP 0 rfl rfl 0 (by decide) (hts (.fieldLink RX1 12 "WitchTrial" "book" "LWitchTrial$Book;") (List.mem_of_getElem? (i := 1) rfl)) (fun _ h9 => h9) rfl dX1_witchSets_10 ?_
  refine lv_aload_n hx hb dX1_witchSets_13 rfl (lv_at hl 0 rfl) ?_
  refine lv_iload_n hx hb dX1_witchSets_14 rfl (lv_at hl 1 rfl) ?_
  refine rd_V (b := hT) (As := [.int q]) (rest := [.ref hB]) ⟨hx, hb, hml, hown, hts⟩ (c_X1_knownBits l D cI cZ cJ hT hB hV a q) (cwV 1 hts gX1_witchSets_X1_knownBits rfl rfl rfl (by decide +kernel) ⟨Nat.le_of_ble_eq_true rfl, Nat.le_of_ble_eq_true rfl⟩) (hP.sub (ws' := [cT hT hB hV a]) [0] rfl) hK hN (va_recv hK hP (ci := 1) (q0 := 0) rfl rfl) rfl hl.1 rfl (Nat.le_of_ble_eq_true rfl) dX1_witchSets_15 ⟨Nat.le_of_ble_eq_true rfl, Nat.le_of_ble_eq_true rfl⟩ ?_
  refine rd_VN (b := hB) (As := [.int (yKn a q)]) (rest := []) ⟨hx, hb, hml, hown, hts⟩ (c_X0_countWitchSets l D cI cZ cJ hB hG tr g (yKn a q) K (by first | assumption | omega) (by first | assumption | omega) (by first | assumption | omega)) ⟨va_cnB 1 hts gX1_witchSets_X0_countWitchSets_n159 rfl rfl rfl (hN.link 15 rfl) (hts (.initialized RX0) (List.mem_of_getElem? (i := 43) rfl)) (by decide +kernel) ⟨Nat.le_of_ble_eq_true rfl, Nat.le_of_ble_eq_true rfl⟩, (hts (.instanceMethod yX0_countWitchSets) (List.mem_of_getElem? (i := 42) rfl)), (hts (.selects RX0 yX0_countWitchSets yX0_countWitchSets) (List.mem_of_getElem? (i := 44) rfl))⟩ (hP.sub (ws' := [cB hB hG tr, cA cI hG 1120 g]) [1, 2] rfl) hK hN (va_recv hK hP (ci := 0) (q0 := 1) rfl rfl) rfl hl.1 rfl (Nat.le_of_ble_eq_true rfl) dX1_witchSets_18 ⟨Nat.le_of_ble_eq_true rfl, Nat.le_of_ble_eq_true rfl⟩ ?_
  exact rd_iret hx hb hr hlocks (by rfl) dX1_witchSets_21

theorem in_X1_suspect_X0 : ∀ w ∈ wsX00, w ∈ wsX1_suspect := by decide +kernel
theorem in_X1_suspect_X1 : ∀ w ∈ wsX10, w ∈ wsX1_suspect := by decide +kernel
set_option maxHeartbeats 2000000 in
set_option maxRecDepth 100000 in
theorem c_X1_suspect (l : Launch) (D : va_G) (cI cZ cJ : ClassId) (hT : Nat) (hB : Nat) (hV : Nat) (a : Nat → Int32) (hG : Nat) (tr : Int32) (g : Nat → Int32) (q : Int32) (K : Nat) (n : Nat) (hK9 : K ≤ 1120) (hg : ∀ j, j < K → ¬ g j = 0) (hz : K < 1120 → g K = 0) (hn : a 2 = nI n) (hn8 : n ≤ 8) (h1 : ¬ a 0 = 0) (h2 : yVw a q = true) : Rd l D cI cZ cJ yX1_suspect wsX1_suspect 3 68 [.ref hT, .int q] [cT hT hB hV a, cB hB hG tr, cA cI hG 1120 g] ((ySu a (fun n9 => xCnt (pRo g tr (yKn a q) (nI n9) 1) K) q n).1) := by
  refine rd_of (by decide) rfl (Nat.le_of_ble_eq_true rfl) (fun p e s m below meth c ls hx hb hr hml hts hown hlocks hP hK hN hl => ?_)
  have hl : lv_has ls 7 [(0, .ref hT), (1, .int q)] := hl
  refine lv_aload_n hx hb dX1_suspect_0 rfl (lv_at hl 0 rfl) ?_
  refine rv_V (b := hT) (As := []) (rest := []) ⟨hx, hb, hml, hown, hts⟩ (c_X1_requireGame l D cI cZ cJ hT hB hV a (by first | assumption | omega)) (cwV 0 hts gX1_suspect_X1_requireGame rfl rfl rfl (by decide +kernel) ⟨Nat.le_of_ble_eq_true rfl, Nat.le_of_ble_eq_true rfl⟩) (hP.sub (ws' := [cT hT hB hV a]) [0] rfl) hK hN (va_recv hK hP (ci := 1) (q0 := 0) rfl rfl) rfl hl.1 rfl (Nat.le_of_ble_eq_true rfl) dX1_suspect_1 ⟨Nat.le_of_ble_eq_true rfl, Nat.le_of_ble_eq_true rfl⟩ ?_
  refine lv_aload_n hx hb dX1_suspect_4 rfl (lv_at hl 0 rfl) ?_
  refine lv_iload_n hx hb dX1_suspect_5 rfl (lv_at hl 1 rfl) ?_
  refine rv_V (b := hT) (As := [.int q]) (rest := []) ⟨hx, hb, hml, hown, hts⟩ (c_X1_requireViewer l D cI cZ cJ hT hB hV a q (by first | assumption | omega)) (cwV 1 hts gX1_suspect_X1_requireViewer rfl rfl rfl (by decide +kernel) ⟨Nat.le_of_ble_eq_true rfl, Nat.le_of_ble_eq_true rfl⟩) (hP.sub (ws' := [cT hT hB hV a]) [0] rfl) hK hN (va_recv hK hP (ci := 1) (q0 := 0) rfl rfl) rfl hl.1 rfl (Nat.le_of_ble_eq_true rfl) dX1_suspect_6 ⟨Nat.le_of_ble_eq_true rfl, Nat.le_of_ble_eq_true rfl⟩ ?_
  refine lv_aload_n hx hb dX1_suspect_9 rfl (lv_at hl 0 rfl) ?_
  refine lv_iload_n hx hb dX1_suspect_10 rfl (lv_at hl 1 rfl) ?_
  refine rd_V (b := hT) (As := [.int q]) (rest := []) ⟨hx, hb, hml, hown, hts⟩ (c_X1_knownBits l D cI cZ cJ hT hB hV a q) (cwV 1 hts gX1_suspect_X1_knownBits rfl rfl rfl (by decide +kernel) ⟨Nat.le_of_ble_eq_true rfl, Nat.le_of_ble_eq_true rfl⟩) (hP.sub (ws' := [cT hT hB hV a]) [0] rfl) hK hN (va_recv hK hP (ci := 1) (q0 := 0) rfl rfl) rfl hl.1 rfl (Nat.le_of_ble_eq_true rfl) dX1_suspect_11 ⟨Nat.le_of_ble_eq_true rfl, Nat.le_of_ble_eq_true rfl⟩ ?_
  refine lv_istore_n (lv' := [(2, .int (yKn a q)), (0, .ref hT), (1, .int q)]) hx hb dX1_suspect_14 rfl hl (by decide) rfl (fun ls hl => ?_)
  refine lv_iconst (v := (-1)) hx hb dX1_suspect_15 (by decide) ?_
  refine lv_istore_n (lv' := [(3, .int (-1)), (2, .int (yKn a q)), (0, .ref hT), (1, .int q)]) hx hb dX1_suspect_16 rfl hl (by decide) rfl (fun ls hl => ?_)
  refine lv_iconst (v := (-1)) hx hb dX1_suspect_17 (by decide) ?_
  refine lv_istore (lv' := [(4, .int (-1)), (3, .int (-1)), (2, .int (yKn a q)), (0, .ref hT), (1, .int q)]) hx hb dX1_suspect_18 hl (by decide) rfl (fun ls hl => ?_)
  refine lv_iconst (v := 0) hx hb dX1_suspect_20 (by decide) ?_
  refine lv_istore (lv' := [(5, .int 0), (4, .int (-1)), (3, .int (-1)), (2, .int (yKn a q)), (0, .ref hT), (1, .int q)]) hx hb dX1_suspect_21 hl (by decide) rfl (fun ls hl => ?_)
  refine loop_R (nL := 7) (h := 23) n (fun i => [(0, .ref hT), (1, .int q), (2, .int (yKn a q)), (3, .int ((ySu a (fun n9 => xCnt (pRo g tr (yKn a q) (nI n9) 1) K) q i).1)), (4, .int ((ySu a (fun n9 => xCnt (pRo g tr (yKn a q) (nI n9) 1) K) q i).2)), (5, .int (nI i))]) (fun _ => True) (fun i hi hI ih_i ls hl => ?_) 0 (by omega) trivial ls ?_
  · have hl : lv_has ls 7 [(0, .ref hT), (1, .int q), (2, .int (yKn a q)), (3, .int ((ySu a (fun n9 => xCnt (pRo g tr (yKn a q) (nI n9) 1) K) q i).1)), (4, .int ((ySu a (fun n9 => xCnt (pRo g tr (yKn a q) (nI n9) 1) K) q i).2)), (5, .int (nI i))] := hl
    refine lv_iload hx hb dX1_suspect_23 (lv_at hl 5 rfl) ?_
    refine lv_aload_n hx hb dX1_suspect_25 rfl (lv_at hl 0 rfl) ?_
    refine va_get (D := D) (cl := vwCl) (ci := 1) (v := .int (a 2)) (C := RX1) (T := TX1) (N := 14) hx hb hts in_X1_suspect_X1 hown hK hP 0 rfl rfl 4 (by decide) (hts (.fieldLink RX1 47 "WitchTrial" "playerCount" "I") (List.mem_of_getElem? (i := 1) rfl)) (fun _ h9 => h9) rfl dX1_suspect_26 ?_
    refine lv_icmp_ge (tgt := 80) hx hb dX1_suspect_29 (by decide) (fun c_2 => ?_) (fun c_2 => ?_)
    · have hi9 : n = i := (geN hi (by omega) hn c_2).symm
      subst hi9
      refine lv_iload_n hx hb dX1_suspect_80 rfl (lv_at hl 3 rfl) ?_
      exact rd_iret hx hb hr hlocks (by rfl) dX1_suspect_81
    · have hlt : i < n := ltN hi (by omega) hn c_2
      refine lv_aload_n hx hb dX1_suspect_32 rfl (lv_at hl 0 rfl) ?_
      refine lv_iload hx hb dX1_suspect_33 (lv_at hl 5 rfl) ?_
      refine rd_V (b := hT) (As := [.int (nI i)]) (rest := []) ⟨hx, hb, hml, hown, hts⟩ (c_X1_isAlive l D cI cZ cJ hT hB hV a (nI i)) (cwV 1 hts gX1_suspect_X1_isAlive rfl rfl rfl (by decide +kernel) ⟨Nat.le_of_ble_eq_true rfl, Nat.le_of_ble_eq_true rfl⟩) (hP.sub (ws' := [cT hT hB hV a]) [0] rfl) hK hN (va_recv hK hP (ci := 1) (q0 := 0) rfl rfl) rfl hl.1 rfl (Nat.le_of_ble_eq_true rfl) dX1_suspect_35 ⟨Nat.le_of_ble_eq_true rfl, Nat.le_of_ble_eq_true rfl⟩ ?_
      refine lv_if_eq (tgt := 74) hx hb dX1_suspect_38 (by decide) (fun c_3 => ?_) (fun c_3 => ?_)
      · have c_3 : (yIn (a 6) (nI i)) = false := bI_0 c_3
        refine lv_iinc (v := (nI (i + 1))) (lv' := [(5, .int (nI (i + 1))), (0, .ref hT), (1, .int q), (2, .int (yKn a q)), (3, .int ((ySu a (fun n9 => xCnt (pRo g tr (yKn a q) (nI n9) 1) K) q i).1)), (4, .int ((ySu a (fun n9 => xCnt (pRo g tr (yKn a q) (nI n9) 1) K) q i).2))]) hx hb dX1_suspect_74 hl (k := 5) rfl (nI_1 i) (by decide) rfl (fun ls hl => ?_)
        refine lv_goto (tgt := 23) hx hb dX1_suspect_77 (by decide) ?_
        have eb_0 : (ySu a (fun n9 => xCnt (pRo g tr (yKn a q) (nI n9) 1) K) q (i + 1)).1 = (ySu a (fun n9 => xCnt (pRo g tr (yKn a q) (nI n9) 1) K) q i).1 := by (first | rfl | (simp only [bI, ySu, c_2, c_3, eq_self, ↓reduceIte]; done) | (simp only [bI, ySu, c_2, c_3, eq_self, ↓reduceIte]; rfl) | simp [bI, ySu, c_2, c_3])
        have eb_1 : (ySu a (fun n9 => xCnt (pRo g tr (yKn a q) (nI n9) 1) K) q (i + 1)).2 = (ySu a (fun n9 => xCnt (pRo g tr (yKn a q) (nI n9) 1) K) q i).2 := by (first | rfl | (simp only [bI, ySu, c_2, c_3, eq_self, ↓reduceIte]; done) | (simp only [bI, ySu, c_2, c_3, eq_self, ↓reduceIte]; rfl) | simp [bI, ySu, c_2, c_3])
        exact ih_i (by omega) trivial ls (by show lv_has ls 7 [(0, .ref hT), (1, .int q), (2, .int (yKn a q)), (3, .int ((ySu a (fun n9 => xCnt (pRo g tr (yKn a q) (nI n9) 1) K) q (i + 1)).1)), (4, .int ((ySu a (fun n9 => xCnt (pRo g tr (yKn a q) (nI n9) 1) K) q (i + 1)).2)), (5, .int (nI (i + 1)))]; rw [eb_0]; rw [eb_1]; exact lv_sub hl [1, 2, 3, 4, 5, 0] rfl)
      · have c_3 : (yIn (a 6) (nI i)) = true := bI_1 c_3
        refine lv_iload hx hb dX1_suspect_41 (lv_at hl 5 rfl) ?_
        refine lv_iload_n hx hb dX1_suspect_43 rfl (lv_at hl 1 rfl) ?_
        refine lv_icmp_eq (tgt := 74) hx hb dX1_suspect_44 (by decide) (fun c_4 => ?_) (fun c_4 => ?_)
        · refine lv_iinc (v := (nI (i + 1))) (lv' := [(5, .int (nI (i + 1))), (0, .ref hT), (1, .int q), (2, .int (yKn a q)), (3, .int ((ySu a (fun n9 => xCnt (pRo g tr (yKn a q) (nI n9) 1) K) q i).1)), (4, .int ((ySu a (fun n9 => xCnt (pRo g tr (yKn a q) (nI n9) 1) K) q i).2))]) hx hb dX1_suspect_74 hl (k := 5) rfl (nI_1 i) (by decide) rfl (fun ls hl => ?_)
          refine lv_goto (tgt := 23) hx hb dX1_suspect_77 (by decide) ?_
          have eb_0 : (ySu a (fun n9 => xCnt (pRo g tr (yKn a q) (nI n9) 1) K) q (i + 1)).1 = (ySu a (fun n9 => xCnt (pRo g tr (yKn a q) (nI n9) 1) K) q i).1 := by (first | rfl | (simp only [bI, ySu, c_2, c_3, c_4, eq_self, ↓reduceIte]; done) | (simp only [bI, ySu, c_2, c_3, c_4, eq_self, ↓reduceIte]; rfl) | (simp only [bI, ySu, c_2, c_3, eq_true c_4, eq_self, ↓reduceIte]; done) | (simp only [bI, ySu, c_2, c_3, eq_true c_4, eq_self, ↓reduceIte]; rfl) | (simp [bI, ySu, c_2, c_3, eq_true c_4]; done) | simp [bI, ySu, c_2, c_3, c_4])
          have eb_1 : (ySu a (fun n9 => xCnt (pRo g tr (yKn a q) (nI n9) 1) K) q (i + 1)).2 = (ySu a (fun n9 => xCnt (pRo g tr (yKn a q) (nI n9) 1) K) q i).2 := by (first | rfl | (simp only [bI, ySu, c_2, c_3, c_4, eq_self, ↓reduceIte]; done) | (simp only [bI, ySu, c_2, c_3, c_4, eq_self, ↓reduceIte]; rfl) | (simp only [bI, ySu, c_2, c_3, eq_true c_4, eq_self, ↓reduceIte]; done) | (simp only [bI, ySu, c_2, c_3, eq_true c_4, eq_self, ↓reduceIte]; rfl) | (simp [bI, ySu, c_2, c_3, eq_true c_4]; done) | simp [bI, ySu, c_2, c_3, c_4])
          exact ih_i (by omega) trivial ls (by show lv_has ls 7 [(0, .ref hT), (1, .int q), (2, .int (yKn a q)), (3, .int ((ySu a (fun n9 => xCnt (pRo g tr (yKn a q) (nI n9) 1) K) q (i + 1)).1)), (4, .int ((ySu a (fun n9 => xCnt (pRo g tr (yKn a q) (nI n9) 1) K) q (i + 1)).2)), (5, .int (nI (i + 1)))]; rw [eb_0]; rw [eb_1]; exact lv_sub hl [1, 2, 3, 4, 5, 0] rfl)
        · refine lv_aload_n hx hb dX1_suspect_47 rfl (lv_at hl 0 rfl) ?_
          refine va_get (D := D) (cl := vwCl) (ci := 1) (v := .ref hB) (C := RX1) (T := TX1) (N := 14) hx hb hts in_X1_suspect_X1 hown hK hP 0 rfl rfl 0 (by decide) (hts (.fieldLink RX1 12 "WitchTrial" "book" "LWitchTrial$Book;") (List.mem_of_getElem? (i := 2) rfl)) (fun _ h9 => h9) rfl dX1_suspect_48 ?_
          refine lv_iload_n hx hb dX1_suspect_51 rfl (lv_at hl 2 rfl) ?_
          refine lv_iload hx hb dX1_suspect_52 (lv_at hl 5 rfl) ?_
          refine lv_iconst (v := 1) hx hb dX1_suspect_54 (by decide) ?_
          refine rd_VN (b := hB) (As := [.int (yKn a q), .int (nI i), .int 1]) (rest := []) ⟨hx, hb, hml, hown, hts⟩ (c_X0_countWithRole l D cI cZ cJ hB hG tr g (yKn a q) (nI i) 1 K (by first | assumption | omega) (by first | assumption | omega) (by first | assumption | omega)) ⟨va_cnB 3 hts gX1_suspect_X0_countWithRole_n150 rfl rfl rfl (hN.link 10 rfl) (hts (.initialized RX0) (List.mem_of_getElem? (i := 47) rfl)) (by decide +kernel) ⟨Nat.le_of_ble_eq_true rfl, Nat.le_of_ble_eq_true rfl⟩, (hts (.instanceMethod yX0_countWithRole) (List.mem_of_getElem? (i := 46) rfl)), (hts (.selects RX0 yX0_countWithRole yX0_countWithRole) (List.mem_of_getElem? (i := 48) rfl))⟩ (hP.sub (ws' := [cB hB hG tr, cA cI hG 1120 g]) [1, 2] rfl) hK hN (va_recv hK hP (ci := 0) (q0 := 1) rfl rfl) rfl hl.1 rfl (Nat.le_of_ble_eq_true rfl) dX1_suspect_55 ⟨Nat.le_of_ble_eq_true rfl, Nat.le_of_ble_eq_true rfl⟩ ?_
          refine lv_istore (lv' := [(6, .int (xCnt (pRo g tr (yKn a q) (nI i) 1) K)), (0, .ref hT), (1, .int q), (2, .int (yKn a q)), (3, .int ((ySu a (fun n9 => xCnt (pRo g tr (yKn a q) (nI n9) 1) K) q i).1)), (4, .int ((ySu a (fun n9 => xCnt (pRo g tr (yKn a q) (nI n9) 1) K) q i).2)), (5, .int (nI i))]) hx hb dX1_suspect_58 hl (by decide) rfl (fun ls hl => ?_)
          refine lv_iload hx hb dX1_suspect_60 (lv_at hl 0 rfl) ?_
          refine lv_iload hx hb dX1_suspect_62 (lv_at hl 5 rfl) ?_
          refine lv_icmp_le (tgt := 74) hx hb dX1_suspect_64 (by decide) (fun c_5 => ?_) (fun c_5 => ?_)
          · refine lv_iinc (v := (nI (i + 1))) (lv' := [(5, .int (nI (i + 1))), (6, .int (xCnt (pRo g tr (yKn a q) (nI i) 1) K)), (0, .ref hT), (1, .int q), (2, .int (yKn a q)), (3, .int ((ySu a (fun n9 => xCnt (pRo g tr (yKn a q) (nI n9) 1) K) q i).1)), (4, .int ((ySu a (fun n9 => xCnt (pRo g tr (yKn a q) (nI n9) 1) K) q i).2))]) hx hb dX1_suspect_74 hl (k := 6) rfl (nI_1 i) (by decide) rfl (fun ls hl => ?_)
            refine lv_goto (tgt := 23) hx hb dX1_suspect_77 (by decide) ?_
            have eb_0 : (ySu a (fun n9 => xCnt (pRo g tr (yKn a q) (nI n9) 1) K) q (i + 1)).1 = (ySu a (fun n9 => xCnt (pRo g tr (yKn a q) (nI n9) 1) K) q i).1 := by (first | rfl | (simp only [bI, ySu, c_2, c_3, c_4, c_5, eq_self, ↓reduceIte]; done) | (simp only [bI, ySu, c_2, c_3, c_4, c_5, eq_self, ↓reduceIte]; rfl) | simp [bI, ySu, c_2, c_3, c_4, c_5])
            have eb_1 : (ySu a (fun n9 => xCnt (pRo g tr (yKn a q) (nI n9) 1) K) q (i + 1)).2 = (ySu a (fun n9 => xCnt (pRo g tr (yKn a q) (nI n9) 1) K) q i).2 := by (first | rfl | (simp only [bI, ySu, c_2, c_3, c_4, c_5, eq_self, ↓reduceIte]; done) | (simp only [bI, ySu, c_2, c_3, c_4, c_5, eq_self, ↓reduceIte]; rfl) | simp [bI, ySu, c_2, c_3, c_4, c_5])
            exact ih_i (by omega) trivial ls (by show lv_has ls 7 [(0, .ref hT), (1, .int q), (2, .int (yKn a q)), (3, .int ((ySu a (fun n9 => xCnt (pRo g tr (yKn a q) (nI n9) 1) K) q (i + 1)).1)), (4, .int ((ySu a (fun n9 => xCnt (pRo g tr (yKn a q) (nI n9) 1) K) q (i + 1)).2)), (5, .int (nI (i + 1)))]; rw [eb_0]; rw [eb_1]; exact lv_sub hl [2, 3, 4, 5, 6, 0] rfl)
          · refine lv_iload hx hb dX1_suspect_67 (lv_at hl 0 rfl) ?_
            refine lv_istore (lv' := [(4, .int (xCnt (pRo g tr (yKn a q) (nI i) 1) K)), (6, .int (xCnt (pRo g tr (yKn a q) (nI i) 1) K)), (0, .ref hT), (1, .int q), (2, .int (yKn a q)), (3, .int ((ySu a (fun n9 => xCnt (pRo g tr (yKn a q) (nI n9) 1) K) q i).1)), (5, .int (nI i))]) hx hb dX1_suspect_69 hl (by decide) rfl (fun ls hl => ?_)
            refine lv_iload hx hb dX1_suspect_71 (lv_at hl 6 rfl) ?_
            refine lv_istore_n (lv' := [(3, .int (nI i)), (4, .int (xCnt (pRo g tr (yKn a q) (nI i) 1) K)), (6, .int (xCnt (pRo g tr (yKn a q) (nI i) 1) K)), (0, .ref hT), (1, .int q), (2, .int (yKn a q)), (5, .int (nI i))]) hx hb dX1_suspect_73 rfl hl (by decide) rfl (fun ls hl => ?_)
            refine lv_iinc (v := (nI (i + 1))) (lv' := [(5, .int (nI (i + 1))), (3, .int (nI i)), (4, .int (xCnt (pRo g tr (yKn a q) (nI i) 1) K)), (6, .int (xCnt (pRo g tr (yKn a q) (nI i) 1) K)), (0, .ref hT), (1, .int q), (2, .int (yKn a q))]) hx hb dX1_suspect_74 hl (k := 6) rfl (nI_1 i) (by decide) rfl (fun ls hl => ?_)
            refine lv_goto (tgt := 23) hx hb dX1_suspect_77 (by decide) ?_
            have eb_0 : (ySu a (fun n9 => xCnt (pRo g tr (yKn a q) (nI n9) 1) K) q (i + 1)).1 = (nI i) := by (first | rfl | (simp only [bI, ySu, c_2, c_3, c_4, c_5, eq_self, ↓reduceIte]; done) | (simp only [bI, ySu, c_2, c_3, c_4, c_5, eq_self, ↓reduceIte]; rfl) | simp [bI, ySu, c_2, c_3, c_4, c_5])
            have eb_1 : (ySu a (fun n9 => xCnt (pRo g tr (yKn a q) (nI n9) 1) K) q (i + 1)).2 = (xCnt (pRo g tr (yKn a q) (nI i) 1) K) := by (first | rfl | (simp only [bI, ySu, c_2, c_3, c_4, c_5, eq_self, ↓reduceIte]; done) | (simp only [bI, ySu, c_2, c_3, c_4, c_5, eq_self, ↓reduceIte]; rfl) | simp [bI, ySu, c_2, c_3, c_4, c_5])
            exact ih_i (by omega) trivial ls (by show lv_has ls 7 [(0, .ref hT), (1, .int q), (2, .int (yKn a q)), (3, .int ((ySu a (fun n9 => xCnt (pRo g tr (yKn a q) (nI n9) 1) K) q (i + 1)).1)), (4, .int ((ySu a (fun n9 => xCnt (pRo g tr (yKn a q) (nI n9) 1) K) q (i + 1)).2)), (5, .int (nI (i + 1)))]; rw [eb_0]; rw [eb_1]; exact lv_sub hl [4, 5, 6, 1, 2, 0] rfl)
  · show lv_has ls 7 [(0, .ref hT), (1, .int q), (2, .int (yKn a q)), (3, .int ((ySu a (fun n9 => xCnt (pRo g tr (yKn a q) (nI n9) 1) K) q 0).1)), (4, .int ((ySu a (fun n9 => xCnt (pRo g tr (yKn a q) (nI n9) 1) K) q 0).2)), (5, .int (nI 0))]
    have en_0 : (ySu a (fun n9 => xCnt (pRo g tr (yKn a q) (nI n9) 1) K) q 0).1 = (-1) := by rfl
    rw [en_0]
    have en_1 : (ySu a (fun n9 => xCnt (pRo g tr (yKn a q) (nI n9) 1) K) q 0).2 = (-1) := by rfl
    rw [en_1]
    have en_2 : (nI 0) = 0 := by exact nI_0
    rw [en_2]
    exact lv_sub hl [4, 5, 3, 2, 1, 0] rfl

theorem in_X1_bestLook_X0 : ∀ w ∈ wsX00, w ∈ wsX1_bestLook := by decide +kernel
theorem in_X1_bestLook_X1 : ∀ w ∈ wsX10, w ∈ wsX1_bestLook := by decide +kernel
set_option maxHeartbeats 2000000 in
set_option maxRecDepth 100000 in
theorem c_X1_bestLook (l : Launch) (D : va_G) (cI cZ cJ : ClassId) (hT : Nat) (hB : Nat) (hV : Nat) (a : Nat → Int32) (hG : Nat) (tr : Int32) (g : Nat → Int32) (K : Nat) (n : Nat) (hK9 : K ≤ 1120) (hg : ∀ j, j < K → ¬ g j = 0) (hz : K < 1120 → g K = 0) (hn : a 2 = nI n) (hn8 : n ≤ 8) (h1 : ¬ a 0 = 0) : Rd l D cI cZ cJ yX1_bestLook wsX1_bestLook 3 68 [.ref hT] [cT hT hB hV a, cB hB hG tr, cA cI hG 1120 g] ((yBe a (fun n9 => xCnt (pRo g tr (yKn a (a 4)) (nI n9) 1) K) (xCnt (pAg g tr (yKn a (a 4))) K) n).1) := by
  refine rd_of (by decide) rfl (Nat.le_of_ble_eq_true rfl) (fun p e s m below meth c ls hx hb hr hml hts hown hlocks hP hK hN hl => ?_)
  have hl : lv_has ls 8 [(0, .ref hT)] := hl
  refine lv_aload_n hx hb dX1_bestLook_0 rfl (lv_at hl 0 rfl) ?_
  refine rv_V (b := hT) (As := []) (rest := []) ⟨hx, hb, hml, hown, hts⟩ (c_X1_requireGame l D cI cZ cJ hT hB hV a (by first | assumption | omega)) (cwV 0 hts gX1_bestLook_X1_requireGame rfl rfl rfl (by decide +kernel) ⟨Nat.le_of_ble_eq_true rfl, Nat.le_of_ble_eq_true rfl⟩) (hP.sub (ws' := [cT hT hB hV a]) [0] rfl) hK hN (va_recv hK hP (ci := 1) (q0 := 0) rfl rfl) rfl hl.1 rfl (Nat.le_of_ble_eq_true rfl) dX1_bestLook_1 ⟨Nat.le_of_ble_eq_true rfl, Nat.le_of_ble_eq_true rfl⟩ ?_
  refine lv_aload_n hx hb dX1_bestLook_4 rfl (lv_at hl 0 rfl) ?_
  refine lv_aload_n hx hb dX1_bestLook_5 rfl (lv_at hl 0 rfl) ?_
  refine va_get (D := D) (cl := vwCl) (ci := 1) (v := .int (a 4)) (C := RX1) (T := TX1) (N := 14) hx hb hts in_X1_bestLook_X1 hown hK hP 0 rfl rfl 6 (by decide) (hts (.fieldLink RX1 53 "WitchTrial" "seerPlayer" "I") (List.mem_of_getElem? (i := 1) rfl)) (fun _ h9 => h9) rfl dX1_bestLook_6 ?_
  refine rd_V (b := hT) (As := [.int (a 4)]) (rest := []) ⟨hx, hb, hml, hown, hts⟩ (c_X1_knownBits l D cI cZ cJ hT hB hV a (a 4)) (cwV 1 hts gX1_bestLook_X1_knownBits rfl rfl rfl (by decide +kernel) ⟨Nat.le_of_ble_eq_true rfl, Nat.le_of_ble_eq_true rfl⟩) (hP.sub (ws' := [cT hT hB hV a]) [0] rfl) hK hN (va_recv hK hP (ci := 1) (q0 := 0) rfl rfl) rfl hl.1 rfl (Nat.le_of_ble_eq_true rfl) dX1_bestLook_9 ⟨Nat.le_of_ble_eq_true rfl, Nat.le_of_ble_eq_true rfl⟩ ?_
  refine lv_istore_n (lv' := [(1, .int (yKn a (a 4))), (0, .ref hT)]) hx hb dX1_bestLook_12 rfl hl (by decide) rfl (fun ls hl => ?_)
  refine lv_aload_n hx hb dX1_bestLook_13 rfl (lv_at hl 1 rfl) ?_
  refine va_get (D := D) (cl := vwCl) (ci := 1) (v := .ref hB) (C := RX1) (T := TX1) (N := 14) hx hb hts in_X1_bestLook_X1 hown hK hP 0 rfl rfl 0 (by decide) (hts (.fieldLink RX1 12 "WitchTrial" "book" "LWitchTrial$Book;") (List.mem_of_getElem? (i := 2) rfl)) (fun _ h9 => h9) rfl dX1_bestLook_14 ?_
  refine lv_iload_n hx hb dX1_bestLook_17 rfl (lv_at hl 0 rfl) ?_
  refine rd_VN (b := hB) (As := [.int (yKn a (a 4))]) (rest := []) ⟨hx, hb, hml, hown, hts⟩ (c_X0_count l D cI cZ cJ hB hG tr g (yKn a (a 4)) K (by first | assumption | omega) (by first | assumption | omega) (by first | assumption | omega)) ⟨va_cnB 1 hts gX1_bestLook_X0_count_n89 rfl rfl rfl (hN.link 6 rfl) (hts (.initialized RX0) (List.mem_of_getElem? (i := 37) rfl)) (by decide +kernel) ⟨Nat.le_of_ble_eq_true rfl, Nat.le_of_ble_eq_true rfl⟩, (hts (.instanceMethod yX0_count) (List.mem_of_getElem? (i := 36) rfl)), (hts (.selects RX0 yX0_count yX0_count) (List.mem_of_getElem? (i := 38) rfl))⟩ (hP.sub (ws' := [cB hB hG tr, cA cI hG 1120 g]) [1, 2] rfl) hK hN (va_recv hK hP (ci := 0) (q0 := 1) rfl rfl) rfl hl.1 rfl (Nat.le_of_ble_eq_true rfl) dX1_bestLook_18 ⟨Nat.le_of_ble_eq_true rfl, Nat.le_of_ble_eq_true rfl⟩ ?_
  refine lv_istore_n (lv' := [(2, .int (xCnt (pAg g tr (yKn a (a 4))) K)), (1, .int (yKn a (a 4))), (0, .ref hT)]) hx hb dX1_bestLook_21 rfl hl (by decide) rfl (fun ls hl => ?_)
  refine lv_iconst (v := (-1)) hx hb dX1_bestLook_22 (by decide) ?_
  refine lv_istore_n (lv' := [(3, .int (-1)), (2, .int (xCnt (pAg g tr (yKn a (a 4))) K)), (1, .int (yKn a (a 4))), (0, .ref hT)]) hx hb dX1_bestLook_23 rfl hl (by decide) rfl (fun ls hl => ?_)
  refine lv_iload_n hx hb dX1_bestLook_24 rfl (lv_at hl 1 rfl) ?_
  refine lv_iconst (v := 1) hx hb dX1_bestLook_25 (by decide) ?_
  refine lv_iadd hx hb dX1_bestLook_26 ?_
  refine lv_istore (lv' := [(4, .int ((xCnt (pAg g tr (yKn a (a 4))) K) + 1)), (3, .int (-1)), (2, .int (xCnt (pAg g tr (yKn a (a 4))) K)), (1, .int (yKn a (a 4))), (0, .ref hT)]) hx hb dX1_bestLook_27 hl (by decide) rfl (fun ls hl => ?_)
  refine lv_iconst (v := 0) hx hb dX1_bestLook_29 (by decide) ?_
  refine lv_istore (lv' := [(5, .int 0), (4, .int ((xCnt (pAg g tr (yKn a (a 4))) K) + 1)), (3, .int (-1)), (2, .int (xCnt (pAg g tr (yKn a (a 4))) K)), (1, .int (yKn a (a 4))), (0, .ref hT)]) hx hb dX1_bestLook_30 hl (by decide) rfl (fun ls hl => ?_)
  refine loop_R (nL := 8) (h := 32) n (fun i => [(0, .ref hT), (1, .int (yKn a (a 4))), (2, .int (xCnt (pAg g tr (yKn a (a 4))) K)), (3, .int ((yBe a (fun n9 => xCnt (pRo g tr (yKn a (a 4)) (nI n9) 1) K) (xCnt (pAg g tr (yKn a (a 4))) K) i).1)), (4, .int ((yBe a (fun n9 => xCnt (pRo g tr (yKn a (a 4)) (nI n9) 1) K) (xCnt (pAg g tr (yKn a (a 4))) K) i).2)), (5, .int (nI i))]) (fun _ => True) (fun i hi hI ih_i ls hl => ?_) 0 (by omega) trivial ls ?_
  · have hl : lv_has ls 8 [(0, .ref hT), (1, .int (yKn a (a 4))), (2, .int (xCnt (pAg g tr (yKn a (a 4))) K)), (3, .int ((yBe a (fun n9 => xCnt (pRo g tr (yKn a (a 4)) (nI n9) 1) K) (xCnt (pAg g tr (yKn a (a 4))) K) i).1)), (4, .int ((yBe a (fun n9 => xCnt (pRo g tr (yKn a (a 4)) (nI n9) 1) K) (xCnt (pAg g tr (yKn a (a 4))) K) i).2)), (5, .int (nI i))] := hl
    refine lv_iload hx hb dX1_bestLook_32 (lv_at hl 5 rfl) ?_
    refine lv_aload_n hx hb dX1_bestLook_34 rfl (lv_at hl 0 rfl) ?_
    refine va_get (D := D) (cl := vwCl) (ci := 1) (v := .int (a 2)) (C := RX1) (T := TX1) (N := 14) hx hb hts in_X1_bestLook_X1 hown hK hP 0 rfl rfl 4 (by decide) (hts (.fieldLink RX1 47 "WitchTrial" "playerCount" "I") (List.mem_of_getElem? (i := 3) rfl)) (fun _ h9 => h9) rfl dX1_bestLook_35 ?_
    refine lv_icmp_ge (tgt := 103) hx hb dX1_bestLook_38 (by decide) (fun c_2 => ?_) (fun c_2 => ?_)
    · have hi9 : n = i := (geN hi (by omega) hn c_2).symm
      subst hi9
      refine lv_iload_n hx hb dX1_bestLook_103 rfl (lv_at hl 3 rfl) ?_
      exact rd_iret hx hb hr hlocks (by rfl) dX1_bestLook_104
    · have hlt : i < n := ltN hi (by omega) hn c_2
      refine lv_aload_n hx hb dX1_bestLook_41 rfl (lv_at hl 0 rfl) ?_
      refine lv_iload hx hb dX1_bestLook_42 (lv_at hl 5 rfl) ?_
      refine rd_V (b := hT) (As := [.int (nI i)]) (rest := []) ⟨hx, hb, hml, hown, hts⟩ (c_X1_isAlive l D cI cZ cJ hT hB hV a (nI i)) (cwV 1 hts gX1_bestLook_X1_isAlive rfl rfl rfl (by decide +kernel) ⟨Nat.le_of_ble_eq_true rfl, Nat.le_of_ble_eq_true rfl⟩) (hP.sub (ws' := [cT hT hB hV a]) [0] rfl) hK hN (va_recv hK hP (ci := 1) (q0 := 0) rfl rfl) rfl hl.1 rfl (Nat.le_of_ble_eq_true rfl) dX1_bestLook_44 ⟨Nat.le_of_ble_eq_true rfl, Nat.le_of_ble_eq_true rfl⟩ ?_
      refine lv_if_eq (tgt := 97) hx hb dX1_bestLook_47 (by decide) (fun c_3 => ?_) (fun c_3 => ?_)
      · have c_3 : (yIn (a 6) (nI i)) = false := bI_0 c_3
        refine lv_iinc (v := (nI (i + 1))) (lv' := [(5, .int (nI (i + 1))), (0, .ref hT), (1, .int (yKn a (a 4))), (2, .int (xCnt (pAg g tr (yKn a (a 4))) K)), (3, .int ((yBe a (fun n9 => xCnt (pRo g tr (yKn a (a 4)) (nI n9) 1) K) (xCnt (pAg g tr (yKn a (a 4))) K) i).1)), (4, .int ((yBe a (fun n9 => xCnt (pRo g tr (yKn a (a 4)) (nI n9) 1) K) (xCnt (pAg g tr (yKn a (a 4))) K) i).2))]) hx hb dX1_bestLook_97 hl (k := 5) rfl (nI_1 i) (by decide) rfl (fun ls hl => ?_)
        refine lv_goto (tgt := 32) hx hb dX1_bestLook_100 (by decide) ?_
        have eb_0 : (yBe a (fun n9 => xCnt (pRo g tr (yKn a (a 4)) (nI n9) 1) K) (xCnt (pAg g tr (yKn a (a 4))) K) (i + 1)).1 = (yBe a (fun n9 => xCnt (pRo g tr (yKn a (a 4)) (nI n9) 1) K) (xCnt (pAg g tr (yKn a (a 4))) K) i).1 := by (first | rfl | (simp only [bI, yBe, c_2, c_3, eq_self, ↓reduceIte]; done) | (simp only [bI, yBe, c_2, c_3, eq_self, ↓reduceIte]; rfl) | simp [bI, yBe, c_2, c_3])
        have eb_1 : (yBe a (fun n9 => xCnt (pRo g tr (yKn a (a 4)) (nI n9) 1) K) (xCnt (pAg g tr (yKn a (a 4))) K) (i + 1)).2 = (yBe a (fun n9 => xCnt (pRo g tr (yKn a (a 4)) (nI n9) 1) K) (xCnt (pAg g tr (yKn a (a 4))) K) i).2 := by (first | rfl | (simp only [bI, yBe, c_2, c_3, eq_self, ↓reduceIte]; done) | (simp only [bI, yBe, c_2, c_3, eq_self, ↓reduceIte]; rfl) | simp [bI, yBe, c_2, c_3])
        exact ih_i (by omega) trivial ls (by show lv_has ls 8 [(0, .ref hT), (1, .int (yKn a (a 4))), (2, .int (xCnt (pAg g tr (yKn a (a 4))) K)), (3, .int ((yBe a (fun n9 => xCnt (pRo g tr (yKn a (a 4)) (nI n9) 1) K) (xCnt (pAg g tr (yKn a (a 4))) K) (i + 1)).1)), (4, .int ((yBe a (fun n9 => xCnt (pRo g tr (yKn a (a 4)) (nI n9) 1) K) (xCnt (pAg g tr (yKn a (a 4))) K) (i + 1)).2)), (5, .int (nI (i + 1)))]; rw [eb_0]; rw [eb_1]; exact lv_sub hl [1, 2, 3, 4, 5, 0] rfl)
      · have c_3 : (yIn (a 6) (nI i)) = true := bI_1 c_3
        refine lv_iload hx hb dX1_bestLook_50 (lv_at hl 5 rfl) ?_
        refine lv_aload_n hx hb dX1_bestLook_52 rfl (lv_at hl 0 rfl) ?_
        refine va_get (D := D) (cl := vwCl) (ci := 1) (v := .int (a 4)) (C := RX1) (T := TX1) (N := 14) hx hb hts in_X1_bestLook_X1 hown hK hP 0 rfl rfl 6 (by decide) (hts (.fieldLink RX1 53 "WitchTrial" "seerPlayer" "I") (List.mem_of_getElem? (i := 1) rfl)) (fun _ h9 => h9) rfl dX1_bestLook_53 ?_
        refine lv_icmp_eq (tgt := 97) hx hb dX1_bestLook_56 (by decide) (fun c_4 => ?_) (fun c_4 => ?_)
        · refine lv_iinc (v := (nI (i + 1))) (lv' := [(5, .int (nI (i + 1))), (0, .ref hT), (1, .int (yKn a (a 4))), (2, .int (xCnt (pAg g tr (yKn a (a 4))) K)), (3, .int ((yBe a (fun n9 => xCnt (pRo g tr (yKn a (a 4)) (nI n9) 1) K) (xCnt (pAg g tr (yKn a (a 4))) K) i).1)), (4, .int ((yBe a (fun n9 => xCnt (pRo g tr (yKn a (a 4)) (nI n9) 1) K) (xCnt (pAg g tr (yKn a (a 4))) K) i).2))]) hx hb dX1_bestLook_97 hl (k := 5) rfl (nI_1 i) (by decide) rfl (fun ls hl => ?_)
          refine lv_goto (tgt := 32) hx hb dX1_bestLook_100 (by decide) ?_
          have eb_0 : (yBe a (fun n9 => xCnt (pRo g tr (yKn a (a 4)) (nI n9) 1) K) (xCnt (pAg g tr (yKn a (a 4))) K) (i + 1)).1 = (yBe a (fun n9 => xCnt (pRo g tr (yKn a (a 4)) (nI n9) 1) K) (xCnt (pAg g tr (yKn a (a 4))) K) i).1 := by (first | rfl | (simp only [bI, yBe, c_2, c_3, c_4, eq_self, ↓reduceIte]; done) | (simp only [bI, yBe, c_2, c_3, c_4, eq_self, ↓reduceIte]; rfl) | (simp only [bI, yBe, c_2, c_3, eq_true c_4, eq_self, ↓reduceIte]; done) | (simp only [bI, yBe, c_2, c_3, eq_true c_4, eq_self, ↓reduceIte]; rfl) | (simp [bI, yBe, c_2, c_3, eq_true c_4]; done) | simp [bI, yBe, c_2, c_3, c_4])
          have eb_1 : (yBe a (fun n9 => xCnt (pRo g tr (yKn a (a 4)) (nI n9) 1) K) (xCnt (pAg g tr (yKn a (a 4))) K) (i + 1)).2 = (yBe a (fun n9 => xCnt (pRo g tr (yKn a (a 4)) (nI n9) 1) K) (xCnt (pAg g tr (yKn a (a 4))) K) i).2 := by (first | rfl | (simp only [bI, yBe, c_2, c_3, c_4, eq_self, ↓reduceIte]; done) | (simp only [bI, yBe, c_2, c_3, c_4, eq_self, ↓reduceIte]; rfl) | (simp only [bI, yBe, c_2, c_3, eq_true c_4, eq_self, ↓reduceIte]; done) | (simp only [bI, yBe, c_2, c_3, eq_true c_4, eq_self, ↓reduceIte]; rfl) | (simp [bI, yBe, c_2, c_3, eq_true c_4]; done) | simp [bI, yBe, c_2, c_3, c_4])
          exact ih_i (by omega) trivial ls (by show lv_has ls 8 [(0, .ref hT), (1, .int (yKn a (a 4))), (2, .int (xCnt (pAg g tr (yKn a (a 4))) K)), (3, .int ((yBe a (fun n9 => xCnt (pRo g tr (yKn a (a 4)) (nI n9) 1) K) (xCnt (pAg g tr (yKn a (a 4))) K) (i + 1)).1)), (4, .int ((yBe a (fun n9 => xCnt (pRo g tr (yKn a (a 4)) (nI n9) 1) K) (xCnt (pAg g tr (yKn a (a 4))) K) (i + 1)).2)), (5, .int (nI (i + 1)))]; rw [eb_0]; rw [eb_1]; exact lv_sub hl [1, 2, 3, 4, 5, 0] rfl)
        · refine lv_aload_n hx hb dX1_bestLook_59 rfl (lv_at hl 0 rfl) ?_
          refine va_get (D := D) (cl := vwCl) (ci := 1) (v := .ref hB) (C := RX1) (T := TX1) (N := 14) hx hb hts in_X1_bestLook_X1 hown hK hP 0 rfl rfl 0 (by decide) (hts (.fieldLink RX1 12 "WitchTrial" "book" "LWitchTrial$Book;") (List.mem_of_getElem? (i := 2) rfl)) (fun _ h9 => h9) rfl dX1_bestLook_60 ?_
          refine lv_iload_n hx hb dX1_bestLook_63 rfl (lv_at hl 1 rfl) ?_
          refine lv_iload hx hb dX1_bestLook_64 (lv_at hl 5 rfl) ?_
          refine lv_iconst (v := 1) hx hb dX1_bestLook_66 (by decide) ?_
          refine rd_VN (b := hB) (As := [.int (yKn a (a 4)), .int (nI i), .int 1]) (rest := []) ⟨hx, hb, hml, hown, hts⟩ (c_X0_countWithRole l D cI cZ cJ hB hG tr g (yKn a (a 4)) (nI i) 1 K (by first | assumption | omega) (by first | assumption | omega) (by first | assumption | omega)) ⟨va_cnB 3 hts gX1_bestLook_X0_countWithRole_n150 rfl rfl rfl (hN.link 10 rfl) (hts (.initialized RX0) (List.mem_of_getElem? (i := 37) rfl)) (by decide +kernel) ⟨Nat.le_of_ble_eq_true rfl, Nat.le_of_ble_eq_true rfl⟩, (hts (.instanceMethod yX0_countWithRole) (List.mem_of_getElem? (i := 50) rfl)), (hts (.selects RX0 yX0_countWithRole yX0_countWithRole) (List.mem_of_getElem? (i := 51) rfl))⟩ (hP.sub (ws' := [cB hB hG tr, cA cI hG 1120 g]) [1, 2] rfl) hK hN (va_recv hK hP (ci := 0) (q0 := 1) rfl rfl) rfl hl.1 rfl (Nat.le_of_ble_eq_true rfl) dX1_bestLook_67 ⟨Nat.le_of_ble_eq_true rfl, Nat.le_of_ble_eq_true rfl⟩ ?_
          refine lv_istore (lv' := [(6, .int (xCnt (pRo g tr (yKn a (a 4)) (nI i) 1) K)), (0, .ref hT), (1, .int (yKn a (a 4))), (2, .int (xCnt (pAg g tr (yKn a (a 4))) K)), (3, .int ((yBe a (fun n9 => xCnt (pRo g tr (yKn a (a 4)) (nI n9) 1) K) (xCnt (pAg g tr (yKn a (a 4))) K) i).1)), (4, .int ((yBe a (fun n9 => xCnt (pRo g tr (yKn a (a 4)) (nI n9) 1) K) (xCnt (pAg g tr (yKn a (a 4))) K) i).2)), (5, .int (nI i))]) hx hb dX1_bestLook_70 hl (by decide) rfl (fun ls hl => ?_)
          refine lv_iload hx hb dX1_bestLook_72 (lv_at hl 0 rfl) ?_
          refine lv_iload_n hx hb dX1_bestLook_74 rfl (lv_at hl 3 rfl) ?_
          refine lv_iload hx hb dX1_bestLook_75 (lv_at hl 0 rfl) ?_
          refine lv_isub hx hb dX1_bestLook_77 ?_
          refine va_mmax hx hb (hml.trans hl.1.symm) hown (hts (.methodLink RX1 162 Lib.Math.max.name) (List.mem_of_getElem? (i := 4) rfl)) (hts (.static Lib.Math.max.name) (List.mem_of_getElem? (i := 5) rfl)) (hts (.initialized "java/lang/Math") (List.mem_of_getElem? (i := 6) rfl)) (hts (.code Lib.Math.max.name Lib.Math.max.code 2 (some .int)) (List.mem_of_getElem? (i := 7) rfl)) (Nat.le_of_ble_eq_true rfl) (Nat.le_of_ble_eq_true rfl) (Nat.le_of_ble_eq_true rfl) (Nat.le_of_ble_eq_true rfl) dX1_bestLook_78 ?_
          refine W.eq (g2 := F0 m 81 ls [.int (yMx (xCnt (pRo g tr (yKn a (a 4)) (nI i) 1) K) ((xCnt (pAg g tr (yKn a (a 4))) K) - (xCnt (pRo g tr (yKn a (a 4)) (nI i) 1) K)))]) rfl ?_
          refine lv_istore (lv' := [(7, .int (yMx (xCnt (pRo g tr (yKn a (a 4)) (nI i) 1) K) ((xCnt (pAg g tr (yKn a (a 4))) K) - (xCnt (pRo g tr (yKn a (a 4)) (nI i) 1) K)))), (6, .int (xCnt (pRo g tr (yKn a (a 4)) (nI i) 1) K)), (0, .ref hT), (1, .int (yKn a (a 4))), (2, .int (xCnt (pAg g tr (yKn a (a 4))) K)), (3, .int ((yBe a (fun n9 => xCnt (pRo g tr (yKn a (a 4)) (nI n9) 1) K) (xCnt (pAg g tr (yKn a (a 4))) K) i).1)), (4, .int ((yBe a (fun n9 => xCnt (pRo g tr (yKn a (a 4)) (nI n9) 1) K) (xCnt (pAg g tr (yKn a (a 4))) K) i).2)), (5, .int (nI i))]) hx hb dX1_bestLook_81 hl (by decide) rfl (fun ls hl => ?_)
          refine lv_iload hx hb dX1_bestLook_83 (lv_at hl 0 rfl) ?_
          refine lv_iload hx hb dX1_bestLook_85 (lv_at hl 6 rfl) ?_
          refine lv_icmp_ge (tgt := 97) hx hb dX1_bestLook_87 (by decide) (fun c_5 => ?_) (fun c_5 => ?_)
          · refine lv_iinc (v := (nI (i + 1))) (lv' := [(5, .int (nI (i + 1))), (7, .int (yMx (xCnt (pRo g tr (yKn a (a 4)) (nI i) 1) K) ((xCnt (pAg g tr (yKn a (a 4))) K) - (xCnt (pRo g tr (yKn a (a 4)) (nI i) 1) K)))), (6, .int (xCnt (pRo g tr (yKn a (a 4)) (nI i) 1) K)), (0, .ref hT), (1, .int (yKn a (a 4))), (2, .int (xCnt (pAg g tr (yKn a (a 4))) K)), (3, .int ((yBe a (fun n9 => xCnt (pRo g tr (yKn a (a 4)) (nI n9) 1) K) (xCnt (pAg g tr (yKn a (a 4))) K) i).1)), (4, .int ((yBe a (fun n9 => xCnt (pRo g tr (yKn a (a 4)) (nI n9) 1) K) (xCnt (pAg g tr (yKn a (a 4))) K) i).2))]) hx hb dX1_bestLook_97 hl (k := 7) rfl (nI_1 i) (by decide) rfl (fun ls hl => ?_)
            refine lv_goto (tgt := 32) hx hb dX1_bestLook_100 (by decide) ?_
            have eb_0 : (yBe a (fun n9 => xCnt (pRo g tr (yKn a (a 4)) (nI n9) 1) K) (xCnt (pAg g tr (yKn a (a 4))) K) (i + 1)).1 = (yBe a (fun n9 => xCnt (pRo g tr (yKn a (a 4)) (nI n9) 1) K) (xCnt (pAg g tr (yKn a (a 4))) K) i).1 := by (first | rfl | (simp only [bI, yBe, c_2, c_3, c_4, c_5, eq_self, ↓reduceIte]; done) | (simp only [bI, yBe, c_2, c_3, c_4, c_5, eq_self, ↓reduceIte]; rfl) | simp [bI, yBe, c_2, c_3, c_4, c_5])
            have eb_1 : (yBe a (fun n9 => xCnt (pRo g tr (yKn a (a 4)) (nI n9) 1) K) (xCnt (pAg g tr (yKn a (a 4))) K) (i + 1)).2 = (yBe a (fun n9 => xCnt (pRo g tr (yKn a (a 4)) (nI n9) 1) K) (xCnt (pAg g tr (yKn a (a 4))) K) i).2 := by (first | rfl | (simp only [bI, yBe, c_2, c_3, c_4, c_5, eq_self, ↓reduceIte]; done) | (simp only [bI, yBe, c_2, c_3, c_4, c_5, eq_self, ↓reduceIte]; rfl) | simp [bI, yBe, c_2, c_3, c_4, c_5])
            exact ih_i (by omega) trivial ls (by show lv_has ls 8 [(0, .ref hT), (1, .int (yKn a (a 4))), (2, .int (xCnt (pAg g tr (yKn a (a 4))) K)), (3, .int ((yBe a (fun n9 => xCnt (pRo g tr (yKn a (a 4)) (nI n9) 1) K) (xCnt (pAg g tr (yKn a (a 4))) K) (i + 1)).1)), (4, .int ((yBe a (fun n9 => xCnt (pRo g tr (yKn a (a 4)) (nI n9) 1) K) (xCnt (pAg g tr (yKn a (a 4))) K) (i + 1)).2)), (5, .int (nI (i + 1)))]; rw [eb_0]; rw [eb_1]; exact lv_sub hl [3, 4, 5, 6, 7, 0] rfl)
          · refine lv_iload hx hb dX1_bestLook_90 (lv_at hl 0 rfl) ?_
            refine lv_istore (lv' := [(4, .int (yMx (xCnt (pRo g tr (yKn a (a 4)) (nI i) 1) K) ((xCnt (pAg g tr (yKn a (a 4))) K) - (xCnt (pRo g tr (yKn a (a 4)) (nI i) 1) K)))), (7, .int (yMx (xCnt (pRo g tr (yKn a (a 4)) (nI i) 1) K) ((xCnt (pAg g tr (yKn a (a 4))) K) - (xCnt (pRo g tr (yKn a (a 4)) (nI i) 1) K)))), (6, .int (xCnt (pRo g tr (yKn a (a 4)) (nI i) 1) K)), (0, .ref hT), (1, .int (yKn a (a 4))), (2, .int (xCnt (pAg g tr (yKn a (a 4))) K)), (3, .int ((yBe a (fun n9 => xCnt (pRo g tr (yKn a (a 4)) (nI n9) 1) K) (xCnt (pAg g tr (yKn a (a 4))) K) i).1)), (5, .int (nI i))]) hx hb dX1_bestLook_92 hl (by decide) rfl (fun ls hl => ?_)
            refine lv_iload hx hb dX1_bestLook_94 (lv_at hl 7 rfl) ?_
            refine lv_istore_n (lv' := [(3, .int (nI i)), (4, .int (yMx (xCnt (pRo g tr (yKn a (a 4)) (nI i) 1) K) ((xCnt (pAg g tr (yKn a (a 4))) K) - (xCnt (pRo g tr (yKn a (a 4)) (nI i) 1) K)))), (7, .int (yMx (xCnt (pRo g tr (yKn a (a 4)) (nI i) 1) K) ((xCnt (pAg g tr (yKn a (a 4))) K) - (xCnt (pRo g tr (yKn a (a 4)) (nI i) 1) K)))), (6, .int (xCnt (pRo g tr (yKn a (a 4)) (nI i) 1) K)), (0, .ref hT), (1, .int (yKn a (a 4))), (2, .int (xCnt (pAg g tr (yKn a (a 4))) K)), (5, .int (nI i))]) hx hb dX1_bestLook_96 rfl hl (by decide) rfl (fun ls hl => ?_)
            refine lv_iinc (v := (nI (i + 1))) (lv' := [(5, .int (nI (i + 1))), (3, .int (nI i)), (4, .int (yMx (xCnt (pRo g tr (yKn a (a 4)) (nI i) 1) K) ((xCnt (pAg g tr (yKn a (a 4))) K) - (xCnt (pRo g tr (yKn a (a 4)) (nI i) 1) K)))), (7, .int (yMx (xCnt (pRo g tr (yKn a (a 4)) (nI i) 1) K) ((xCnt (pAg g tr (yKn a (a 4))) K) - (xCnt (pRo g tr (yKn a (a 4)) (nI i) 1) K)))), (6, .int (xCnt (pRo g tr (yKn a (a 4)) (nI i) 1) K)), (0, .ref hT), (1, .int (yKn a (a 4))), (2, .int (xCnt (pAg g tr (yKn a (a 4))) K))]) hx hb dX1_bestLook_97 hl (k := 7) rfl (nI_1 i) (by decide) rfl (fun ls hl => ?_)
            refine lv_goto (tgt := 32) hx hb dX1_bestLook_100 (by decide) ?_
            have eb_0 : (yBe a (fun n9 => xCnt (pRo g tr (yKn a (a 4)) (nI n9) 1) K) (xCnt (pAg g tr (yKn a (a 4))) K) (i + 1)).1 = (nI i) := by (first | rfl | (simp only [bI, yBe, c_2, c_3, c_4, c_5, eq_self, ↓reduceIte]; done) | (simp only [bI, yBe, c_2, c_3, c_4, c_5, eq_self, ↓reduceIte]; rfl) | simp [bI, yBe, c_2, c_3, c_4, c_5])
            have eb_1 : (yBe a (fun n9 => xCnt (pRo g tr (yKn a (a 4)) (nI n9) 1) K) (xCnt (pAg g tr (yKn a (a 4))) K) (i + 1)).2 = (yMx (xCnt (pRo g tr (yKn a (a 4)) (nI i) 1) K) ((xCnt (pAg g tr (yKn a (a 4))) K) - (xCnt (pRo g tr (yKn a (a 4)) (nI i) 1) K))) := by (first | rfl | (simp only [bI, yBe, c_2, c_3, c_4, c_5, eq_self, ↓reduceIte]; done) | (simp only [bI, yBe, c_2, c_3, c_4, c_5, eq_self, ↓reduceIte]; rfl) | simp [bI, yBe, c_2, c_3, c_4, c_5])
            exact ih_i (by omega) trivial ls (by show lv_has ls 8 [(0, .ref hT), (1, .int (yKn a (a 4))), (2, .int (xCnt (pAg g tr (yKn a (a 4))) K)), (3, .int ((yBe a (fun n9 => xCnt (pRo g tr (yKn a (a 4)) (nI n9) 1) K) (xCnt (pAg g tr (yKn a (a 4))) K) (i + 1)).1)), (4, .int ((yBe a (fun n9 => xCnt (pRo g tr (yKn a (a 4)) (nI n9) 1) K) (xCnt (pAg g tr (yKn a (a 4))) K) (i + 1)).2)), (5, .int (nI (i + 1)))]; rw [eb_0]; rw [eb_1]; exact lv_sub hl [5, 6, 7, 1, 2, 0] rfl)
  · show lv_has ls 8 [(0, .ref hT), (1, .int (yKn a (a 4))), (2, .int (xCnt (pAg g tr (yKn a (a 4))) K)), (3, .int ((yBe a (fun n9 => xCnt (pRo g tr (yKn a (a 4)) (nI n9) 1) K) (xCnt (pAg g tr (yKn a (a 4))) K) 0).1)), (4, .int ((yBe a (fun n9 => xCnt (pRo g tr (yKn a (a 4)) (nI n9) 1) K) (xCnt (pAg g tr (yKn a (a 4))) K) 0).2)), (5, .int (nI 0))]
    have en_0 : (yBe a (fun n9 => xCnt (pRo g tr (yKn a (a 4)) (nI n9) 1) K) (xCnt (pAg g tr (yKn a (a 4))) K) 0).1 = (-1) := by rfl
    rw [en_0]
    have en_1 : (yBe a (fun n9 => xCnt (pRo g tr (yKn a (a 4)) (nI n9) 1) K) (xCnt (pAg g tr (yKn a (a 4))) K) 0).2 = ((xCnt (pAg g tr (yKn a (a 4))) K) + 1) := by rfl
    rw [en_1]
    have en_2 : (nI 0) = 0 := by exact nI_0
    rw [en_2]
    exact lv_sub hl [5, 4, 3, 2, 1, 0] rfl

theorem in_X1_isPossible_X0 : ∀ w ∈ wsX00, w ∈ wsX1_isPossible := by decide +kernel
theorem in_X1_isPossible_X1 : ∀ w ∈ wsX10, w ∈ wsX1_isPossible := by decide +kernel
set_option maxHeartbeats 2000000 in
set_option maxRecDepth 100000 in
theorem c_X1_isPossible (l : Launch) (D : va_G) (cI cZ cJ : ClassId) (hT : Nat) (hB : Nat) (hV : Nat) (a : Nat → Int32) (hG : Nat) (tr : Int32) (g : Nat → Int32) (q : Int32) (t : Int32) (r : Int32) (u : Int32) (K : Nat) (hK9 : K ≤ 1120) (hg : ∀ j, j < K → ¬ g j = 0) (hz : K < 1120 → g K = 0) (h1 : ¬ a 0 = 0) (h2 : yVw a q = true) (h3 : yPl a r = true) (h4 : yPl a u = true) : Rd l D cI cZ cJ yX1_isPossible wsX1_isPossible 3 63 [.ref hT, .int q, .int t, .int r, .int u] [cT hT hB hV a, cB hB hG tr, cA cI hG 1120 g] (bI (decide (t &&& (-256) = 0) && (yHs g (yWo t r u) K && yAgr (yWo t r u) tr (yKn a q)))) := by
  refine rd_of (by decide) rfl (Nat.le_of_ble_eq_true rfl) (fun p e s m below meth c ls hx hb hr hml hts hown hlocks hP hK hN hl => ?_)
  have hl : lv_has ls 5 [(0, .ref hT), (1, .int q), (2, .int t), (3, .int r), (4, .int u)] := hl
  refine lv_aload_n hx hb dX1_isPossible_0 rfl (lv_at hl 0 rfl) ?_
  refine rv_V (b := hT) (As := []) (rest := []) ⟨hx, hb, hml, hown, hts⟩ (c_X1_requireGame l D cI cZ cJ hT hB hV a (by first | assumption | omega)) (cwV 0 hts gX1_isPossible_X1_requireGame rfl rfl rfl (by decide +kernel) ⟨Nat.le_of_ble_eq_true rfl, Nat.le_of_ble_eq_true rfl⟩) (hP.sub (ws' := [cT hT hB hV a]) [0] rfl) hK hN (va_recv hK hP (ci := 1) (q0 := 0) rfl rfl) rfl hl.1 rfl (Nat.le_of_ble_eq_true rfl) dX1_isPossible_1 ⟨Nat.le_of_ble_eq_true rfl, Nat.le_of_ble_eq_true rfl⟩ ?_
  refine lv_aload_n hx hb dX1_isPossible_4 rfl (lv_at hl 0 rfl) ?_
  refine lv_iload_n hx hb dX1_isPossible_5 rfl (lv_at hl 1 rfl) ?_
  refine rv_V (b := hT) (As := [.int q]) (rest := []) ⟨hx, hb, hml, hown, hts⟩ (c_X1_requireViewer l D cI cZ cJ hT hB hV a q (by first | assumption | omega)) (cwV 1 hts gX1_isPossible_X1_requireViewer rfl rfl rfl (by decide +kernel) ⟨Nat.le_of_ble_eq_true rfl, Nat.le_of_ble_eq_true rfl⟩) (hP.sub (ws' := [cT hT hB hV a]) [0] rfl) hK hN (va_recv hK hP (ci := 1) (q0 := 0) rfl rfl) rfl hl.1 rfl (Nat.le_of_ble_eq_true rfl) dX1_isPossible_6 ⟨Nat.le_of_ble_eq_true rfl, Nat.le_of_ble_eq_true rfl⟩ ?_
  refine lv_aload_n hx hb dX1_isPossible_9 rfl (lv_at hl 0 rfl) ?_
  refine lv_iload_n hx hb dX1_isPossible_10 rfl (lv_at hl 3 rfl) ?_
  refine rv_V (b := hT) (As := [.int r]) (rest := []) ⟨hx, hb, hml, hown, hts⟩ (c_X1_requirePlayer l D cI cZ cJ hT hB hV a r (by first | assumption | omega)) (cwV 1 hts gX1_isPossible_X1_requirePlayer rfl rfl rfl (by decide +kernel) ⟨Nat.le_of_ble_eq_true rfl, Nat.le_of_ble_eq_true rfl⟩) (hP.sub (ws' := [cT hT hB hV a]) [0] rfl) hK hN (va_recv hK hP (ci := 1) (q0 := 0) rfl rfl) rfl hl.1 rfl (Nat.le_of_ble_eq_true rfl) dX1_isPossible_11 ⟨Nat.le_of_ble_eq_true rfl, Nat.le_of_ble_eq_true rfl⟩ ?_
  refine lv_aload_n hx hb dX1_isPossible_14 rfl (lv_at hl 0 rfl) ?_
  refine lv_iload hx hb dX1_isPossible_15 (lv_at hl 4 rfl) ?_
  refine rv_V (b := hT) (As := [.int u]) (rest := []) ⟨hx, hb, hml, hown, hts⟩ (c_X1_requirePlayer l D cI cZ cJ hT hB hV a u (by first | assumption | omega)) (cwV 1 hts gX1_isPossible_X1_requirePlayer rfl rfl rfl (by decide +kernel) ⟨Nat.le_of_ble_eq_true rfl, Nat.le_of_ble_eq_true rfl⟩) (hP.sub (ws' := [cT hT hB hV a]) [0] rfl) hK hN (va_recv hK hP (ci := 1) (q0 := 0) rfl rfl) rfl hl.1 rfl (Nat.le_of_ble_eq_true rfl) dX1_isPossible_17 ⟨Nat.le_of_ble_eq_true rfl, Nat.le_of_ble_eq_true rfl⟩ ?_
  refine lv_iload_n hx hb dX1_isPossible_20 rfl (lv_at hl 2 rfl) ?_
  refine lv_sipush (v := (-256)) hx hb dX1_isPossible_21 (by decide) ?_
  refine lv_iand hx hb dX1_isPossible_24 ?_
  refine lv_if_ne (tgt := 54) hx hb dX1_isPossible_25 (by decide) (fun c_1 => ?_) (fun c_1 => ?_)
  · refine lv_iconst (v := 0) hx hb dX1_isPossible_54 (by decide) ?_
    exact rd_zret hx hb hr hlocks (by (first | rfl | (simp only [bI, c_1, eq_self, ↓reduceIte]; done) | (simp only [bI, c_1, eq_self, ↓reduceIte]; rfl) | simp [bI, c_1])) rfl dX1_isPossible_55
  · refine lv_aload_n hx hb dX1_isPossible_28 rfl (lv_at hl 0 rfl) ?_
    refine va_get (D := D) (cl := vwCl) (ci := 1) (v := .ref hB) (C := RX1) (T := TX1) (N := 14) hx hb hts in_X1_isPossible_X1 hown hK hP 0 rfl rfl 0 (by decide) (hts (.fieldLink RX1 12 "WitchTrial" "book" "LWitchTrial$Book;") (List.mem_of_getElem? (i := 1) rfl)) (fun _ h9 => h9) rfl dX1_isPossible_29 ?_
    refine lv_iload_n hx hb dX1_isPossible_32 rfl (lv_at hl 2 rfl) ?_
    refine lv_iload_n hx hb dX1_isPossible_33 rfl (lv_at hl 3 rfl) ?_
    refine lv_iload hx hb dX1_isPossible_34 (lv_at hl 4 rfl) ?_
    refine rd_S (As := [.int t, .int r, .int u]) (rest := [.ref hB]) ⟨hx, hb, hml, hown, hts⟩ (c_X1_worldOf l D cI cZ cJ t r u) (va_cwS 3 hts gX1_isPossible_X1_worldOf rfl rfl rfl (by decide +kernel) ⟨Nat.le_of_ble_eq_true rfl, Nat.le_of_ble_eq_true rfl⟩) (hP.sub (ws' := []) [] rfl) hK hN rfl hl.1 rfl (Nat.le_of_ble_eq_true rfl) dX1_isPossible_36 ⟨Nat.le_of_ble_eq_true rfl, Nat.le_of_ble_eq_true rfl⟩ ?_
    refine lv_aload_n hx hb dX1_isPossible_39 rfl (lv_at hl 0 rfl) ?_
    refine lv_iload_n hx hb dX1_isPossible_40 rfl (lv_at hl 1 rfl) ?_
    refine rd_V (b := hT) (As := [.int q]) (rest := [.int (yWo t r u), .ref hB]) ⟨hx, hb, hml, hown, hts⟩ (c_X1_knownBits l D cI cZ cJ hT hB hV a q) (cwV 1 hts gX1_isPossible_X1_knownBits rfl rfl rfl (by decide +kernel) ⟨Nat.le_of_ble_eq_true rfl, Nat.le_of_ble_eq_true rfl⟩) (hP.sub (ws' := [cT hT hB hV a]) [0] rfl) hK hN (va_recv hK hP (ci := 1) (q0 := 0) rfl rfl) rfl hl.1 rfl (Nat.le_of_ble_eq_true rfl) dX1_isPossible_41 ⟨Nat.le_of_ble_eq_true rfl, Nat.le_of_ble_eq_true rfl⟩ ?_
    refine rd_VN (b := hB) (As := [.int (yWo t r u), .int (yKn a q)]) (rest := []) ⟨hx, hb, hml, hown, hts⟩ (c_X0_contains l D cI cZ cJ hB hG tr g (yWo t r u) (yKn a q) K (by first | assumption | omega) (by first | assumption | omega) (by first | assumption | omega)) ⟨va_cnB 2 hts gX1_isPossible_X0_contains_n167 rfl rfl rfl (hN.link 16 rfl) (hts (.initialized RX0) (List.mem_of_getElem? (i := 46) rfl)) (by decide +kernel) ⟨Nat.le_of_ble_eq_true rfl, Nat.le_of_ble_eq_true rfl⟩, (hts (.instanceMethod yX0_contains) (List.mem_of_getElem? (i := 45) rfl)), (hts (.selects RX0 yX0_contains yX0_contains) (List.mem_of_getElem? (i := 47) rfl))⟩ (hP.sub (ws' := [cB hB hG tr, cA cI hG 1120 g]) [1, 2] rfl) hK hN (va_recv hK hP (ci := 0) (q0 := 1) rfl rfl) rfl hl.1 rfl (Nat.le_of_ble_eq_true rfl) dX1_isPossible_44 ⟨Nat.le_of_ble_eq_true rfl, Nat.le_of_ble_eq_true rfl⟩ ?_
    refine lv_if_eq (tgt := 54) hx hb dX1_isPossible_47 (by decide) (fun c_2 => ?_) (fun c_2 => ?_)
    · have c_2 : (yHs g (yWo t r u) K && yAgr (yWo t r u) tr (yKn a q)) = false := bI_0 c_2
      refine lv_iconst (v := 0) hx hb dX1_isPossible_54 (by decide) ?_
      exact rd_zret hx hb hr hlocks (by (first | rfl | (simp only [bI, c_1, c_2, eq_self, ↓reduceIte]; done) | (simp only [bI, c_1, c_2, eq_self, ↓reduceIte]; rfl) | (simp only [bI, eq_true c_1, c_2, eq_self, ↓reduceIte]; done) | (simp only [bI, eq_true c_1, c_2, eq_self, ↓reduceIte]; rfl) | (simp [bI, eq_true c_1, c_2]; done) | simp [bI, c_1, c_2])) rfl dX1_isPossible_55
    · have c_2 : (yHs g (yWo t r u) K && yAgr (yWo t r u) tr (yKn a q)) = true := bI_1 c_2
      refine lv_iconst (v := 1) hx hb dX1_isPossible_50 (by decide) ?_
      refine lv_goto (tgt := 55) hx hb dX1_isPossible_51 (by decide) ?_
      exact rd_zret hx hb hr hlocks (by (first | rfl | (simp only [bI, c_1, c_2, eq_self, ↓reduceIte]; done) | (simp only [bI, c_1, c_2, eq_self, ↓reduceIte]; rfl) | (simp only [bI, eq_true c_1, c_2, eq_self, ↓reduceIte]; done) | (simp only [bI, eq_true c_1, c_2, eq_self, ↓reduceIte]; rfl) | (simp [bI, eq_true c_1, c_2]; done) | simp [bI, c_1, c_2])) rfl dX1_isPossible_55
