theorem in_X0_keepClaim_X0 : ∀ w ∈ wsX00, w ∈ wsX0_keepClaim := by decide +kernel
set_option maxHeartbeats 2000000 in
set_option maxRecDepth 100000 in
theorem c_X0_keepClaim (l : Launch) (D : va_G) (cI cZ cJ : ClassId) (sz : Nat) (hB : Nat) (hG : Nat) (tr : Int32) (g : Nat → Int32) (q : Int32) (bits : Int32) (b : Bool) (K : Nat) (hK9 : K ≤ 1120) (hg : ∀ j, j < K → ¬ g j = 0) (hz : K < 1120 → g K = 0) : Mv l D cI cZ cJ yX0_keepClaim wsX0_keepClaim 2 43 sz [.ref hB, .int q, .int bits, .int (bI b)] [cB hB hG tr, cA cI hG 1120 g] [cB hB hG tr, cA cI hG 1120 (kcF (pAc q bits b) g K)] := by
  refine mv_of (by decide) rfl (Nat.le_of_ble_eq_true rfl) (fun p e s m below meth c ls A hx hb hr hml hts hown hlocks hin hP hK hN hD hA hS hl => ?_)
  have hl : lv_has ls 7 [(0, .ref hB), (1, .int q), (2, .int bits), (3, .int (bI b))] := hl
  refine lv_iconst (v := 0) hx hb dX0_keepClaim_0 (by decide) ?_
  refine lv_istore (lv' := [(4, .int 0), (0, .ref hB), (1, .int q), (2, .int bits), (3, .int (bI b))]) hx hb dX0_keepClaim_1 hl (by decide) rfl (fun ls hl => ?_)
  refine lv_iconst (v := 0) hx hb dX0_keepClaim_3 (by decide) ?_
  refine lv_istore (lv' := [(5, .int 0), (4, .int 0), (0, .ref hB), (1, .int q), (2, .int bits), (3, .int (bI b))]) hx hb dX0_keepClaim_4 hl (by decide) rfl (fun ls hl => ?_)
  refine loop_M (D := D) (nL := 7) (h := 6) K (fun i => [(0, .ref hB), (1, .int q), (2, .int bits), (3, .int (bI b)), (4, .int (nI (nCt (kcP (pAc q bits b) g) i))), (5, .int (nI i))]) (fun i => [cB hB hG tr, cA cI hG 1120 (kcF (pAc q bits b) g i)]) (fun _ => True) (fun i hi hI ih_i H locs ls hP hD hS hl => ?_) 0 (by omega) trivial _ _ ls ?_ ?_ hS ?_
  · have hl : lv_has ls 7 [(0, .ref hB), (1, .int q), (2, .int bits), (3, .int (bI b)), (4, .int (nI (nCt (kcP (pAc q bits b) g) i))), (5, .int (nI i))] := hl
    have hP : va_P D vwCl [cB hB hG tr, cA cI hG 1120 (kcF (pAc q bits b) g i)] H := hP
    have hD : va_D A [cB hB hG tr, cA cI hG 1120 (kcF (pAc q bits b) g i)] := hD
    refine lv_iload hx hb dX0_keepClaim_6 (lv_at hl 5 rfl) ?_
    refine lv_aload_n hx hb dX0_keepClaim_8 rfl (lv_at hl 0 rfl) ?_
    refine va_get (D := D) (cl := vwCl) (ci := 0) (v := .ref hG) (C := RX0) (T := TX0) (N := 2) hx hb hts in_X0_keepClaim_X0 hown hK hP 0 rfl rfl 0 (by decide) (hts (.fieldLink RX0 11 "WitchTrial$Book" "pages" "[I") (List.mem_of_getElem? (i := 1) rfl)) (fun _ h9 => h9) rfl dX0_keepClaim_9 ?_
    refine va_alen (D := D) (cl := vwCl) hx hb hK hP 1 0 rfl rfl (v := 1120) rfl dX0_keepClaim_12 ?_
    refine lv_icmp_ge (tgt := 82) hx hb dX0_keepClaim_13 (by decide) (fun c_2 => ?_) (fun c_2 => ?_)
    · have hi9 : K = i := (kEx1 hi hK9 c_2).symm
      subst hi9
      have hP9 : va_P D vwCl [cB hB hG tr, cA cI hG 1120 (kcF (pAc q bits b) g K)] H := by
        exact hP
      exact mv_ret hx hb hr hlocks hS hP9 dX0_keepClaim_82
    · have hlt : i < 1120 := ltN (by omega) (by omega) rfl c_2
      refine lv_aload_n hx hb dX0_keepClaim_16 rfl (lv_at hl 0 rfl) ?_
      refine va_get (D := D) (cl := vwCl) (ci := 0) (v := .ref hG) (C := RX0) (T := TX0) (N := 2) hx hb hts in_X0_keepClaim_X0 hown hK hP 0 rfl rfl 0 (by decide) (hts (.fieldLink RX0 11 "WitchTrial$Book" "pages" "[I") (List.mem_of_getElem? (i := 1) rfl)) (fun _ h9 => h9) rfl dX0_keepClaim_17 ?_
      refine lv_iload hx hb dX0_keepClaim_20 (lv_at hl 5 rfl) ?_
      refine q_iald (D := D) (j := i) (v := (g i)) hx hb hK hP 1 0 rfl rfl (by omega) (Nat.le_of_ble_eq_true rfl) (kcF_at _ _ _) dX0_keepClaim_22 ?_
      refine lv_if_eq (tgt := 82) hx hb dX0_keepClaim_23 (by decide) (fun c_3 => ?_) (fun c_3 => ?_)
      · have hi9 : K = i := (kEx2 hi hg c_3).symm
        subst hi9
        have hP9 : va_P D vwCl [cB hB hG tr, cA cI hG 1120 (kcF (pAc q bits b) g K)] H := by
          exact hP
        exact mv_ret hx hb hr hlocks hS hP9 dX0_keepClaim_82
      · have hlK : i < K := kEx3 hi hlt hz c_3
        refine lv_aload_n hx hb dX0_keepClaim_26 rfl (lv_at hl 0 rfl) ?_
        refine va_get (D := D) (cl := vwCl) (ci := 0) (v := .ref hG) (C := RX0) (T := TX0) (N := 2) hx hb hts in_X0_keepClaim_X0 hown hK hP 0 rfl rfl 0 (by decide) (hts (.fieldLink RX0 11 "WitchTrial$Book" "pages" "[I") (List.mem_of_getElem? (i := 1) rfl)) (fun _ h9 => h9) rfl dX0_keepClaim_27 ?_
        refine lv_iload hx hb dX0_keepClaim_30 (lv_at hl 5 rfl) ?_
        refine q_iald (D := D) (j := i) (v := (g i)) hx hb hK hP 1 0 rfl rfl (by omega) (Nat.le_of_ble_eq_true rfl) (kcF_at _ _ _) dX0_keepClaim_32 ?_
        refine lv_istore (lv' := [(6, .int (g i)), (0, .ref hB), (1, .int q), (2, .int bits), (3, .int (bI b)), (4, .int (nI (nCt (kcP (pAc q bits b) g) i))), (5, .int (nI i))]) hx hb dX0_keepClaim_33 hl (by decide) rfl (fun ls hl => ?_)
        refine lv_aload_n hx hb dX0_keepClaim_35 rfl (lv_at hl 1 rfl) ?_
        refine va_get (D := D) (cl := vwCl) (ci := 0) (v := .ref hG) (C := RX0) (T := TX0) (N := 2) hx hb hts in_X0_keepClaim_X0 hown hK hP 0 rfl rfl 0 (by decide) (hts (.fieldLink RX0 11 "WitchTrial$Book" "pages" "[I") (List.mem_of_getElem? (i := 1) rfl)) (fun _ h9 => h9) rfl dX0_keepClaim_36 ?_
        refine lv_iload hx hb dX0_keepClaim_39 (lv_at hl 6 rfl) ?_
        refine lv_iconst (v := 0) hx hb dX0_keepClaim_41 (by decide) ?_
        refine q_iast (D := D) (j := i) hx hb hK hP hD hS 1 0 rfl rfl (by omega) (Nat.le_of_ble_eq_true rfl) dX0_keepClaim_42 (fun H locs hP hD hS => ?_)
        have hP : va_P D vwCl [cB hB hG tr, cA cI hG 1120 (upd (kcF (pAc q bits b) g i) i 0)] H := hP
        have hD : va_D A [cB hB hG tr, cA cI hG 1120 (upd (kcF (pAc q bits b) g i) i 0)] := hD
        refine lv_iload hx hb dX0_keepClaim_43 (lv_at hl 0 rfl) ?_
        refine lv_iload_n hx hb dX0_keepClaim_45 rfl (lv_at hl 2 rfl) ?_
        refine lv_iload_n hx hb dX0_keepClaim_46 rfl (lv_at hl 3 rfl) ?_
        refine lv_iload_n hx hb dX0_keepClaim_47 rfl (lv_at hl 4 rfl) ?_
        refine rd_S (As := [.int (g i), .int q, .int bits, .int (bI b)]) (rest := []) ⟨hx, hb, hml, hown, hts⟩ (c_X0_agreesWithClaim l D cI cZ cJ (g i) q bits b) (va_cwS 4 hts gX0_keepClaim_X0_agreesWithClaim rfl rfl rfl (by decide +kernel) ⟨Nat.le_of_ble_eq_true rfl, Nat.le_of_ble_eq_true rfl⟩) (hP.sub (ws' := []) [] rfl) hK hN rfl hl.1 rfl (Nat.le_of_ble_eq_true rfl) dX0_keepClaim_48 ⟨Nat.le_of_ble_eq_true rfl, Nat.le_of_ble_eq_true rfl⟩ ?_
        refine lv_if_eq (tgt := 76) hx hb dX0_keepClaim_51 (by decide) (fun c_4 => ?_) (fun c_4 => ?_)
        · have c_4 : (yAg (g i) q bits b) = false := bI_0 c_4
          refine lv_iinc (v := (nI (i + 1))) (lv' := [(5, .int (nI (i + 1))), (6, .int (g i)), (0, .ref hB), (1, .int q), (2, .int bits), (3, .int (bI b)), (4, .int (nI (nCt (kcP (pAc q bits b) g) i)))]) hx hb dX0_keepClaim_76 hl (k := 6) rfl (nI_1 i) (by decide) rfl (fun ls hl => ?_)
          refine lv_goto (tgt := 6) hx hb dX0_keepClaim_79 (by decide) ?_
          have eb_0 : (nI (nCt (kcP (pAc q bits b) g) (i + 1))) = (nI (nCt (kcP (pAc q bits b) g) i)) := by (first | rfl | (simp only [bI, kcF, pAc, nCt, kcP, c_2, c_3, c_4, eq_self, ↓reduceIte]; done) | (simp only [bI, kcF, pAc, nCt, kcP, c_2, c_3, c_4, eq_self, ↓reduceIte]; rfl) | simp [bI, kcF, pAc, nCt, kcP, c_2, c_3, c_4])
          have ew_0 : (kcF (pAc q bits b) g (i + 1)) = (upd (kcF (pAc q bits b) g i) i 0) := by (first | rfl | (simp only [bI, kcF, pAc, nCt, kcP, c_2, c_3, c_4, eq_self, ↓reduceIte]; done) | (simp only [bI, kcF, pAc, nCt, kcP, c_2, c_3, c_4, eq_self, ↓reduceIte]; rfl) | simp [bI, kcF, pAc, nCt, kcP, c_2, c_3, c_4])
          exact ih_i (by omega) trivial _ _ ls (by show va_P D vwCl [cB hB hG tr, cA cI hG 1120 (kcF (pAc q bits b) g (i + 1))] _; rw [ew_0]; exact hP) (by show va_D A [cB hB hG tr, cA cI hG 1120 (kcF (pAc q bits b) g (i + 1))]; rw [ew_0]; exact hD) hS (by show lv_has ls 7 [(0, .ref hB), (1, .int q), (2, .int bits), (3, .int (bI b)), (4, .int (nI (nCt (kcP (pAc q bits b) g) (i + 1)))), (5, .int (nI (i + 1)))]; rw [eb_0]; exact lv_sub hl [2, 3, 4, 5, 6, 0] rfl)
        · have c_4 : (yAg (g i) q bits b) = true := bI_1 c_4
          refine lv_iload hx hb dX0_keepClaim_54 (lv_at hl 5 rfl) ?_
          refine lv_aload_n hx hb dX0_keepClaim_56 rfl (lv_at hl 1 rfl) ?_
          refine va_get (D := D) (cl := vwCl) (ci := 0) (v := .ref hG) (C := RX0) (T := TX0) (N := 2) hx hb hts in_X0_keepClaim_X0 hown hK hP 0 rfl rfl 0 (by decide) (hts (.fieldLink RX0 11 "WitchTrial$Book" "pages" "[I") (List.mem_of_getElem? (i := 1) rfl)) (fun _ h9 => h9) rfl dX0_keepClaim_57 ?_
          refine va_alen (D := D) (cl := vwCl) hx hb hK hP 1 0 rfl rfl (v := 1120) rfl dX0_keepClaim_60 ?_
          refine lv_icmp_ge (tgt := 76) hx hb dX0_keepClaim_61 (by decide) (fun c_5 => ?_) (fun c_5 => ?_)
          · exact absurd c_5 (fun h9 => by have h8 := nCt_le (kcP (pAc q bits b) g) i; have h7 := (nI_leI (a := 1120) (by omega) (by omega)).mp h9; omega)
          · refine lv_aload_n hx hb dX0_keepClaim_64 rfl (lv_at hl 1 rfl) ?_
            refine va_get (D := D) (cl := vwCl) (ci := 0) (v := .ref hG) (C := RX0) (T := TX0) (N := 2) hx hb hts in_X0_keepClaim_X0 hown hK hP 0 rfl rfl 0 (by decide) (hts (.fieldLink RX0 11 "WitchTrial$Book" "pages" "[I") (List.mem_of_getElem? (i := 1) rfl)) (fun _ h9 => h9) rfl dX0_keepClaim_65 ?_
            refine lv_iload hx hb dX0_keepClaim_68 (lv_at hl 5 rfl) ?_
            refine lv_iload hx hb dX0_keepClaim_70 (lv_at hl 0 rfl) ?_
            refine q_iast (D := D) (j := (nCt (kcP (pAc q bits b) g) i)) hx hb hK hP hD hS 1 0 rfl rfl (by have h9 := nCt_le (kcP (pAc q bits b) g) i; omega) (Nat.le_of_ble_eq_true rfl) dX0_keepClaim_72 (fun H locs hP hD hS => ?_)
            have hP : va_P D vwCl [cB hB hG tr, cA cI hG 1120 (upd (upd (kcF (pAc q bits b) g i) i 0) (nCt (kcP (pAc q bits b) g) i) (g i))] H := hP
            have hD : va_D A [cB hB hG tr, cA cI hG 1120 (upd (upd (kcF (pAc q bits b) g i) i 0) (nCt (kcP (pAc q bits b) g) i) (g i))] := hD
            refine lv_iinc (v := (nI ((nCt (kcP (pAc q bits b) g) i) + 1))) (lv' := [(4, .int (nI ((nCt (kcP (pAc q bits b) g) i) + 1))), (6, .int (g i)), (0, .ref hB), (1, .int q), (2, .int bits), (3, .int (bI b)), (5, .int (nI i))]) hx hb dX0_keepClaim_73 hl (k := 5) rfl (nI_1 (nCt (kcP (pAc q bits b) g) i)) (by decide) rfl (fun ls hl => ?_)
            refine lv_iinc (v := (nI (i + 1))) (lv' := [(5, .int (nI (i + 1))), (4, .int (nI ((nCt (kcP (pAc q bits b) g) i) + 1))), (6, .int (g i)), (0, .ref hB), (1, .int q), (2, .int bits), (3, .int (bI b))]) hx hb dX0_keepClaim_76 hl (k := 6) rfl (nI_1 i) (by decide) rfl (fun ls hl => ?_)
            refine lv_goto (tgt := 6) hx hb dX0_keepClaim_79 (by decide) ?_
            have eb_0 : (nI (nCt (kcP (pAc q bits b) g) (i + 1))) = (nI ((nCt (kcP (pAc q bits b) g) i) + 1)) := by (first | rfl | (simp only [bI, kcF, pAc, nCt, kcP, c_2, c_3, c_4, eq_self, ↓reduceIte]; done) | (simp only [bI, kcF, pAc, nCt, kcP, c_2, c_3, c_4, eq_self, ↓reduceIte]; rfl) | simp [bI, kcF, pAc, nCt, kcP, c_2, c_3, c_4])
            have ew_0 : (kcF (pAc q bits b) g (i + 1)) = (upd (upd (kcF (pAc q bits b) g i) i 0) (nCt (kcP (pAc q bits b) g) i) (g i)) := by (first | rfl | (simp only [bI, kcF, pAc, nCt, kcP, c_2, c_3, c_4, eq_self, ↓reduceIte]; done) | (simp only [bI, kcF, pAc, nCt, kcP, c_2, c_3, c_4, eq_self, ↓reduceIte]; rfl) | simp [bI, kcF, pAc, nCt, kcP, c_2, c_3, c_4])
            exact ih_i (by omega) trivial _ _ ls (by show va_P D vwCl [cB hB hG tr, cA cI hG 1120 (kcF (pAc q bits b) g (i + 1))] _; rw [ew_0]; exact hP) (by show va_D A [cB hB hG tr, cA cI hG 1120 (kcF (pAc q bits b) g (i + 1))]; rw [ew_0]; exact hD) hS (by show lv_has ls 7 [(0, .ref hB), (1, .int q), (2, .int bits), (3, .int (bI b)), (4, .int (nI (nCt (kcP (pAc q bits b) g) (i + 1)))), (5, .int (nI (i + 1)))]; rw [eb_0]; exact lv_sub hl [3, 4, 5, 6, 1, 0] rfl)
  · show va_P D vwCl [cB hB hG tr, cA cI hG 1120 (kcF (pAc q bits b) g 0)] _
    have ez_0 : (kcF (pAc q bits b) g 0) = g := by rfl
    rw [ez_0]
    exact hP
  · show va_D A [cB hB hG tr, cA cI hG 1120 (kcF (pAc q bits b) g 0)]
    have ez_0 : (kcF (pAc q bits b) g 0) = g := by rfl
    rw [ez_0]
    exact hD
  · show lv_has ls 7 [(0, .ref hB), (1, .int q), (2, .int bits), (3, .int (bI b)), (4, .int (nI (nCt (kcP (pAc q bits b) g) 0))), (5, .int (nI 0))]
    have en_0 : (nI (nCt (kcP (pAc q bits b) g) 0)) = 0 := by exact nI_0
    rw [en_0]
    have en_1 : (nI 0) = 0 := by exact nI_0
    rw [en_1]
    exact lv_sub hl [2, 3, 4, 5, 1, 0] rfl

theorem in_X0_addWorlds_X0 : ∀ w ∈ wsX00, w ∈ wsX0_addWorlds := by decide +kernel
set_option maxHeartbeats 2000000 in
set_option maxRecDepth 100000 in
theorem c_X0_addWorlds (l : Launch) (D : va_G) (cI cZ cJ : ClassId) (sz : Nat) (hB : Nat) (hG : Nat) (tr : Int32) (n : Nat) (W : Nat) (P : Nat → Bool) (hn8 : n ≤ 8) (hW9 : W < 256) (hP9 : ∀ x y, x < n → y < n → P (64 * W + (8 * x + y)) = (!decide (nI x = nI y) && yHo (nI n) (nI W) (nI x) && yHo (nI n) (nI W) (nI y))) (hF9 : ∀ x y, x < 8 → y < 8 → (n ≤ x ∨ n ≤ y) → P (64 * W + (8 * x + y)) = false) (hB9 : nCt P 16384 ≤ 1120) : Mi l D cI cZ cJ yX0_addWorlds wsX0_addWorlds 2 42 sz [.ref hB, .int (nI n), .int (nI W), .int (nI (nCt P (64 * W)))] [cB hB hG tr, cA cI hG 1120 (pgF P (64 * W))] [cB hB hG tr, cA cI hG 1120 (pgF P (64 * W + 64))] (nI (nCt P (64 * W + 64))) := by
  refine mi_of (by decide) rfl (Nat.le_of_ble_eq_true rfl) (fun p e s m below meth c ls A hx hb hr hml hts hown hlocks hin hP hK hN hD hA hS hl => ?_)
  have hl : lv_has ls 8 [(0, .ref hB), (1, .int (nI n)), (2, .int (nI W)), (3, .int (nI (nCt P (64 * W))))] := hl
  refine lv_iload_n hx hb dX0_addWorlds_0 rfl (lv_at hl 3 rfl) ?_
  refine lv_istore (lv' := [(4, .int (nI (nCt P (64 * W)))), (0, .ref hB), (1, .int (nI n)), (2, .int (nI W)), (3, .int (nI (nCt P (64 * W))))]) hx hb dX0_addWorlds_1 hl (by decide) rfl (fun ls hl => ?_)
  refine lv_iconst (v := 0) hx hb dX0_addWorlds_3 (by decide) ?_
  refine lv_istore (lv' := [(5, .int 0), (4, .int (nI (nCt P (64 * W)))), (0, .ref hB), (1, .int (nI n)), (2, .int (nI W)), (3, .int (nI (nCt P (64 * W))))]) hx hb dX0_addWorlds_4 hl (by decide) rfl (fun ls hl => ?_)
  refine loop_M (D := D) (nL := 8) (h := 6) n (fun i => [(0, .ref hB), (1, .int (nI n)), (2, .int (nI W)), (3, .int (nI (nCt P (64 * W)))), (4, .int (nI (nCt P (64 * W + 8 * i)))), (5, .int (nI i))]) (fun i => [cB hB hG tr, cA cI hG 1120 (pgF P (64 * W + 8 * i))]) (fun _ => True) (fun i hi hI ih_i H locs ls hP hD hS hl => ?_) 0 (by omega) trivial _ _ ls ?_ ?_ hS ?_
  · have hl : lv_has ls 8 [(0, .ref hB), (1, .int (nI n)), (2, .int (nI W)), (3, .int (nI (nCt P (64 * W)))), (4, .int (nI (nCt P (64 * W + 8 * i)))), (5, .int (nI i))] := hl
    have hP : va_P D vwCl [cB hB hG tr, cA cI hG 1120 (pgF P (64 * W + 8 * i))] H := hP
    have hD : va_D A [cB hB hG tr, cA cI hG 1120 (pgF P (64 * W + 8 * i))] := hD
    refine lv_iload hx hb dX0_addWorlds_6 (lv_at hl 5 rfl) ?_
    refine lv_iload_n hx hb dX0_addWorlds_8 rfl (lv_at hl 1 rfl) ?_
    refine lv_icmp_ge (tgt := 105) hx hb dX0_addWorlds_9 (by decide) (fun c_2 => ?_) (fun c_2 => ?_)
    · have hi9 : n = i := (geN hi (by omega) rfl c_2).symm
      subst hi9
      refine lv_iload hx hb dX0_addWorlds_105 (lv_at hl 4 rfl) ?_
      have hP9a : va_P D vwCl [cB hB hG tr, cA cI hG 1120 (pgF P (64 * W + 64))] H := by
        rw [show pgF P (64 * W + 64) = pgF P (64 * W + 8 * n) from pgF_skip (by omega) (awE hF9 hn8)]
        exact hP
      exact mi_iret hx hb hr hlocks hS (congrArg nI (nCt_skip (by omega) (awE hF9 hn8)).symm) hP9a dX0_addWorlds_107
    · have hlt : i < n := ltN hi (by omega) rfl c_2
      refine lv_iconst (v := 0) hx hb dX0_addWorlds_12 (by decide) ?_
      refine lv_istore (lv' := [(6, .int 0), (0, .ref hB), (1, .int (nI n)), (2, .int (nI W)), (3, .int (nI (nCt P (64 * W)))), (4, .int (nI (nCt P (64 * W + 8 * i)))), (5, .int (nI i))]) hx hb dX0_addWorlds_13 hl (by decide) rfl (fun ls hl => ?_)
      refine loop_M (D := D) (nL := 8) (h := 15) n (fun j => [(0, .ref hB), (1, .int (nI n)), (2, .int (nI W)), (3, .int (nI (nCt P (64 * W)))), (4, .int (nI (nCt P (64 * W + (8 * i + j))))), (5, .int (nI i)), (6, .int (nI j))]) (fun j => [cB hB hG tr, cA cI hG 1120 (pgF P (64 * W + (8 * i + j)))]) (fun _ => True) (fun j hj hI ih_j H locs ls hP hD hS hl => ?_) 0 (by omega) trivial _ _ ls ?_ ?_ hS ?_
      · have hl : lv_has ls 8 [(0, .ref hB), (1, .int (nI n)), (2, .int (nI W)), (3, .int (nI (nCt P (64 * W)))), (4, .int (nI (nCt P (64 * W + (8 * i + j))))), (5, .int (nI i)), (6, .int (nI j))] := hl
        have hP : va_P D vwCl [cB hB hG tr, cA cI hG 1120 (pgF P (64 * W + (8 * i + j)))] H := hP
        have hD : va_D A [cB hB hG tr, cA cI hG 1120 (pgF P (64 * W + (8 * i + j)))] := hD
        refine lv_iload hx hb dX0_addWorlds_15 (lv_at hl 6 rfl) ?_
        refine lv_iload_n hx hb dX0_addWorlds_17 rfl (lv_at hl 1 rfl) ?_
        refine lv_icmp_ge (tgt := 99) hx hb dX0_addWorlds_18 (by decide) (fun c_4 => ?_) (fun c_4 => ?_)
        · have hj9 : n = j := (geN hj (by omega) rfl c_4).symm
          subst hj9
          refine lv_iinc (v := (nI (i + 1))) (lv' := [(5, .int (nI (i + 1))), (0, .ref hB), (1, .int (nI n)), (2, .int (nI W)), (3, .int (nI (nCt P (64 * W)))), (4, .int (nI (nCt P (64 * W + (8 * i + n))))), (6, .int (nI n))]) hx hb dX0_addWorlds_99 hl (k := 5) rfl (nI_1 i) (by decide) rfl (fun ls hl => ?_)
          refine lv_goto (tgt := 6) hx hb dX0_addWorlds_102 (by decide) ?_
          have eb_0 : (nI (nCt P (64 * W + 8 * (i + 1)))) = (nI (nCt P (64 * W + (8 * i + n)))) := by exact congrArg nI (nCt_skip (by omega) (awS hF9 hlt hn8))
          have ew_0 : (pgF P (64 * W + 8 * (i + 1))) = (pgF P (64 * W + (8 * i + n))) := by exact pgF_skip (by omega) (awS hF9 hlt hn8)
          exact ih_i (by omega) trivial _ _ ls (by show va_P D vwCl [cB hB hG tr, cA cI hG 1120 (pgF P (64 * W + 8 * (i + 1)))] _; rw [ew_0]; exact hP) (by show va_D A [cB hB hG tr, cA cI hG 1120 (pgF P (64 * W + 8 * (i + 1)))]; rw [ew_0]; exact hD) hS (by show lv_has ls 8 [(0, .ref hB), (1, .int (nI n)), (2, .int (nI W)), (3, .int (nI (nCt P (64 * W)))), (4, .int (nI (nCt P (64 * W + 8 * (i + 1))))), (5, .int (nI (i + 1)))]; rw [eb_0]; exact lv_sub hl [1, 2, 3, 4, 5, 0] rfl)
        · have hlj : j < n := ltN hj (by omega) rfl c_4
          refine lv_iload hx hb dX0_addWorlds_21 (lv_at hl 5 rfl) ?_
          refine lv_iload hx hb dX0_addWorlds_23 (lv_at hl 6 rfl) ?_
          refine lv_icmp_eq (tgt := 52) hx hb dX0_addWorlds_25 (by decide) (fun c_5 => ?_) (fun c_5 => ?_)
          · refine lv_iconst (v := 0) hx hb dX0_addWorlds_52 (by decide) ?_
            refine lv_istore (lv' := [(7, .int 0), (0, .ref hB), (1, .int (nI n)), (2, .int (nI W)), (3, .int (nI (nCt P (64 * W)))), (4, .int (nI (nCt P (64 * W + (8 * i + j))))), (5, .int (nI i)), (6, .int (nI j))]) hx hb dX0_addWorlds_53 hl (by decide) rfl (fun ls hl => ?_)
            refine lv_iload hx hb dX0_addWorlds_55 (lv_at hl 0 rfl) ?_
            refine lv_if_eq (tgt := 93) hx hb dX0_addWorlds_57 (by decide) (fun c_6 => ?_) (fun c_6 => ?_)
            · refine lv_iinc (v := (nI (j + 1))) (lv' := [(6, .int (nI (j + 1))), (7, .int 0), (0, .ref hB), (1, .int (nI n)), (2, .int (nI W)), (3, .int (nI (nCt P (64 * W)))), (4, .int (nI (nCt P (64 * W + (8 * i + j))))), (5, .int (nI i))]) hx hb dX0_addWorlds_93 hl (k := 7) rfl (nI_1 j) (by decide) rfl (fun ls hl => ?_)
              refine lv_goto (tgt := 15) hx hb dX0_addWorlds_96 (by decide) ?_
              have eb_0 : (nI (nCt P (64 * W + (8 * i + (j + 1))))) = (nI (nCt P (64 * W + (8 * i + j)))) := by exact congrArg nI (nCt_f (by simp [hP9 i j hlt hlj, c_2, c_4, c_5]))
              have ew_0 : (pgF P (64 * W + (8 * i + (j + 1)))) = (pgF P (64 * W + (8 * i + j))) := by exact pgF_f (by simp [hP9 i j hlt hlj, c_2, c_4, c_5])
              exact ih_j (by omega) trivial _ _ ls (by show va_P D vwCl [cB hB hG tr, cA cI hG 1120 (pgF P (64 * W + (8 * i + (j + 1))))] _; rw [ew_0]; exact hP) (by show va_D A [cB hB hG tr, cA cI hG 1120 (pgF P (64 * W + (8 * i + (j + 1))))]; rw [ew_0]; exact hD) hS (by show lv_has ls 8 [(0, .ref hB), (1, .int (nI n)), (2, .int (nI W)), (3, .int (nI (nCt P (64 * W)))), (4, .int (nI (nCt P (64 * W + (8 * i + (j + 1)))))), (5, .int (nI i)), (6, .int (nI (j + 1)))]; rw [eb_0]; exact lv_sub hl [2, 3, 4, 5, 6, 7, 0] rfl)
            · exact absurd c_6 (by decide)
          · refine lv_iload_n hx hb dX0_addWorlds_28 rfl (lv_at hl 1 rfl) ?_
            refine lv_iload_n hx hb dX0_addWorlds_29 rfl (lv_at hl 2 rfl) ?_
            refine lv_iload hx hb dX0_addWorlds_30 (lv_at hl 5 rfl) ?_
            refine rd_SN (As := [.int (nI n), .int (nI W), .int (nI i)]) (rest := []) ⟨hx, hb, hml, hown, hts⟩ (c_X1_isHonestIn l D cI cZ cJ (nI n) (nI W) (nI i)) ⟨va_cnB 3 hts gX0_addWorlds_X1_isHonestIn_n41 rfl rfl rfl (hN.link 4 rfl) (hts (.initialized RX1) (List.mem_of_getElem? (i := 3) rfl)) (by decide +kernel) ⟨Nat.le_of_ble_eq_true rfl, Nat.le_of_ble_eq_true rfl⟩, (hts (.static yX1_isHonestIn) (List.mem_of_getElem? (i := 2) rfl)), trivial⟩ (hP.sub (ws' := []) [] rfl) hK hN rfl hl.1 rfl (Nat.le_of_ble_eq_true rfl) dX0_addWorlds_32 ⟨Nat.le_of_ble_eq_true rfl, Nat.le_of_ble_eq_true rfl⟩ ?_
            refine lv_if_eq (tgt := 52) hx hb dX0_addWorlds_35 (by decide) (fun c_7 => ?_) (fun c_7 => ?_)
            · have c_7 : (yHo (nI n) (nI W) (nI i)) = false := bI_0 c_7
              refine lv_iconst (v := 0) hx hb dX0_addWorlds_52 (by decide) ?_
              refine lv_istore (lv' := [(7, .int 0), (0, .ref hB), (1, .int (nI n)), (2, .int (nI W)), (3, .int (nI (nCt P (64 * W)))), (4, .int (nI (nCt P (64 * W + (8 * i + j))))), (5, .int (nI i)), (6, .int (nI j))]) hx hb dX0_addWorlds_53 hl (by decide) rfl (fun ls hl => ?_)
              refine lv_iload hx hb dX0_addWorlds_55 (lv_at hl 0 rfl) ?_
              refine lv_if_eq (tgt := 93) hx hb dX0_addWorlds_57 (by decide) (fun c_8 => ?_) (fun c_8 => ?_)
              · refine lv_iinc (v := (nI (j + 1))) (lv' := [(6, .int (nI (j + 1))), (7, .int 0), (0, .ref hB), (1, .int (nI n)), (2, .int (nI W)), (3, .int (nI (nCt P (64 * W)))), (4, .int (nI (nCt P (64 * W + (8 * i + j))))), (5, .int (nI i))]) hx hb dX0_addWorlds_93 hl (k := 7) rfl (nI_1 j) (by decide) rfl (fun ls hl => ?_)
                refine lv_goto (tgt := 15) hx hb dX0_addWorlds_96 (by decide) ?_
                have eb_0 : (nI (nCt P (64 * W + (8 * i + (j + 1))))) = (nI (nCt P (64 * W + (8 * i + j)))) := by exact congrArg nI (nCt_f (by simp [hP9 i j hlt hlj, c_2, c_4, c_5, c_7]))
                have ew_0 : (pgF P (64 * W + (8 * i + (j + 1)))) = (pgF P (64 * W + (8 * i + j))) := by exact pgF_f (by simp [hP9 i j hlt hlj, c_2, c_4, c_5, c_7])
                exact ih_j (by omega) trivial _ _ ls (by show va_P D vwCl [cB hB hG tr, cA cI hG 1120 (pgF P (64 * W + (8 * i + (j + 1))))] _; rw [ew_0]; exact hP) (by show va_D A [cB hB hG tr, cA cI hG 1120 (pgF P (64 * W + (8 * i + (j + 1))))]; rw [ew_0]; exact hD) hS (by show lv_has ls 8 [(0, .ref hB), (1, .int (nI n)), (2, .int (nI W)), (3, .int (nI (nCt P (64 * W)))), (4, .int (nI (nCt P (64 * W + (8 * i + (j + 1)))))), (5, .int (nI i)), (6, .int (nI (j + 1)))]; rw [eb_0]; exact lv_sub hl [2, 3, 4, 5, 6, 7, 0] rfl)
              · exact absurd c_8 (by decide)
            · have c_7 : (yHo (nI n) (nI W) (nI i)) = true := bI_1 c_7
              refine lv_iload_n hx hb dX0_addWorlds_38 rfl (lv_at hl 1 rfl) ?_
              refine lv_iload_n hx hb dX0_addWorlds_39 rfl (lv_at hl 2 rfl) ?_
              refine lv_iload hx hb dX0_addWorlds_40 (lv_at hl 6 rfl) ?_
              refine rd_SN (As := [.int (nI n), .int (nI W), .int (nI j)]) (rest := []) ⟨hx, hb, hml, hown, hts⟩ (c_X1_isHonestIn l D cI cZ cJ (nI n) (nI W) (nI j)) ⟨va_cnB 3 hts gX0_addWorlds_X1_isHonestIn_n41 rfl rfl rfl (hN.link 4 rfl) (hts (.initialized RX1) (List.mem_of_getElem? (i := 3) rfl)) (by decide +kernel) ⟨Nat.le_of_ble_eq_true rfl, Nat.le_of_ble_eq_true rfl⟩, (hts (.static yX1_isHonestIn) (List.mem_of_getElem? (i := 2) rfl)), trivial⟩ (hP.sub (ws' := []) [] rfl) hK hN rfl hl.1 rfl (Nat.le_of_ble_eq_true rfl) dX0_addWorlds_42 ⟨Nat.le_of_ble_eq_true rfl, Nat.le_of_ble_eq_true rfl⟩ ?_
              refine lv_if_eq (tgt := 52) hx hb dX0_addWorlds_45 (by decide) (fun c_9 => ?_) (fun c_9 => ?_)
              · have c_9 : (yHo (nI n) (nI W) (nI j)) = false := bI_0 c_9
                refine lv_iconst (v := 0) hx hb dX0_addWorlds_52 (by decide) ?_
                refine lv_istore (lv' := [(7, .int 0), (0, .ref hB), (1, .int (nI n)), (2, .int (nI W)), (3, .int (nI (nCt P (64 * W)))), (4, .int (nI (nCt P (64 * W + (8 * i + j))))), (5, .int (nI i)), (6, .int (nI j))]) hx hb dX0_addWorlds_53 hl (by decide) rfl (fun ls hl => ?_)
                refine lv_iload hx hb dX0_addWorlds_55 (lv_at hl 0 rfl) ?_
                refine lv_if_eq (tgt := 93) hx hb dX0_addWorlds_57 (by decide) (fun c_10 => ?_) (fun c_10 => ?_)
                · refine lv_iinc (v := (nI (j + 1))) (lv' := [(6, .int (nI (j + 1))), (7, .int 0), (0, .ref hB), (1, .int (nI n)), (2, .int (nI W)), (3, .int (nI (nCt P (64 * W)))), (4, .int (nI (nCt P (64 * W + (8 * i + j))))), (5, .int (nI i))]) hx hb dX0_addWorlds_93 hl (k := 7) rfl (nI_1 j) (by decide) rfl (fun ls hl => ?_)
                  refine lv_goto (tgt := 15) hx hb dX0_addWorlds_96 (by decide) ?_
                  have eb_0 : (nI (nCt P (64 * W + (8 * i + (j + 1))))) = (nI (nCt P (64 * W + (8 * i + j)))) := by exact congrArg nI (nCt_f (by simp [hP9 i j hlt hlj, c_2, c_4, c_5, c_7, c_9]))
                  have ew_0 : (pgF P (64 * W + (8 * i + (j + 1)))) = (pgF P (64 * W + (8 * i + j))) := by exact pgF_f (by simp [hP9 i j hlt hlj, c_2, c_4, c_5, c_7, c_9])
                  exact ih_j (by omega) trivial _ _ ls (by show va_P D vwCl [cB hB hG tr, cA cI hG 1120 (pgF P (64 * W + (8 * i + (j + 1))))] _; rw [ew_0]; exact hP) (by show va_D A [cB hB hG tr, cA cI hG 1120 (pgF P (64 * W + (8 * i + (j + 1))))]; rw [ew_0]; exact hD) hS (by show lv_has ls 8 [(0, .ref hB), (1, .int (nI n)), (2, .int (nI W)), (3, .int (nI (nCt P (64 * W)))), (4, .int (nI (nCt P (64 * W + (8 * i + (j + 1)))))), (5, .int (nI i)), (6, .int (nI (j + 1)))]; rw [eb_0]; exact lv_sub hl [2, 3, 4, 5, 6, 7, 0] rfl)
                · exact absurd c_10 (by decide)
              · have c_9 : (yHo (nI n) (nI W) (nI j)) = true := bI_1 c_9
                refine lv_iconst (v := 1) hx hb dX0_addWorlds_48 (by decide) ?_
                refine lv_goto (tgt := 53) hx hb dX0_addWorlds_49 (by decide) ?_
                refine lv_istore (lv' := [(7, .int 1), (0, .ref hB), (1, .int (nI n)), (2, .int (nI W)), (3, .int (nI (nCt P (64 * W)))), (4, .int (nI (nCt P (64 * W + (8 * i + j))))), (5, .int (nI i)), (6, .int (nI j))]) hx hb dX0_addWorlds_53 hl (by decide) rfl (fun ls hl => ?_)
                refine lv_iload hx hb dX0_addWorlds_55 (lv_at hl 0 rfl) ?_
                have hPt : P (64 * W + (8 * i + j)) = true := by simp [hP9 i j hlt hlj, c_2, c_4, c_5, c_7, c_9]
                refine lv_if_eq (tgt := 93) hx hb dX0_addWorlds_57 (by decide) (fun c_11 => ?_) (fun c_11 => ?_)
                · exact absurd c_11 (by decide)
                · refine lv_iload hx hb dX0_addWorlds_60 (lv_at hl 5 rfl) ?_
                  refine lv_if_lt (tgt := 93) hx hb dX0_addWorlds_62 (by decide) (fun c_12 => ?_) (fun c_12 => ?_)
                  · exact absurd c_12 (nI_pos (by have := nCt_le P (64 * W + (8 * i + j)); omega))
                  · refine lv_iload hx hb dX0_addWorlds_65 (lv_at hl 5 rfl) ?_
                    refine lv_aload_n hx hb dX0_addWorlds_67 rfl (lv_at hl 1 rfl) ?_
                    refine va_get (D := D) (cl := vwCl) (ci := 0) (v := .ref hG) (C := RX0) (T := TX0) (N := 2) hx hb hts in_X0_addWorlds_X0 hown hK hP 0 rfl rfl 0 (by decide) (hts (.fieldLink RX0 11 "WitchTrial$Book" "pages" "[I") (List.mem_of_getElem? (i := 1) rfl)) (fun _ h9 => h9) rfl dX0_addWorlds_68 ?_
                    refine va_alen (D := D) (cl := vwCl) hx hb hK hP 1 0 rfl rfl (v := 1120) rfl dX0_addWorlds_71 ?_
                    refine lv_icmp_ge (tgt := 93) hx hb dX0_addWorlds_72 (by decide) (fun c_13 => ?_) (fun c_13 => ?_)
                    · exact absurd c_13 (awF hB9 hPt (by omega))
                    · refine lv_aload_n hx hb dX0_addWorlds_75 rfl (lv_at hl 1 rfl) ?_
                      refine va_get (D := D) (cl := vwCl) (ci := 0) (v := .ref hG) (C := RX0) (T := TX0) (N := 2) hx hb hts in_X0_addWorlds_X0 hown hK hP 0 rfl rfl 0 (by decide) (hts (.fieldLink RX0 11 "WitchTrial$Book" "pages" "[I") (List.mem_of_getElem? (i := 1) rfl)) (fun _ h9 => h9) rfl dX0_addWorlds_76 ?_
                      refine lv_iload hx hb dX0_addWorlds_79 (lv_at hl 5 rfl) ?_
                      refine lv_iload_n hx hb dX0_addWorlds_81 rfl (lv_at hl 3 rfl) ?_
                      refine lv_iload hx hb dX0_addWorlds_82 (lv_at hl 6 rfl) ?_
                      refine lv_iload hx hb dX0_addWorlds_84 (lv_at hl 7 rfl) ?_
                      refine rd_SN (As := [.int (nI W), .int (nI i), .int (nI j)]) (rest := [.int (nI (nCt P (64 * W + (8 * i + j)))), .ref hG]) ⟨hx, hb, hml, hown, hts⟩ (c_X1_worldOf l D cI cZ cJ (nI W) (nI i) (nI j)) ⟨va_cnB 3 hts gX0_addWorlds_X1_worldOf_n45 rfl rfl rfl (hN.link 5 rfl) (hts (.initialized RX1) (List.mem_of_getElem? (i := 3) rfl)) (by decide +kernel) ⟨Nat.le_of_ble_eq_true rfl, Nat.le_of_ble_eq_true rfl⟩, (hts (.static yX1_worldOf) (List.mem_of_getElem? (i := 8) rfl)), trivial⟩ (hP.sub (ws' := []) [] rfl) hK hN rfl hl.1 rfl (Nat.le_of_ble_eq_true rfl) dX0_addWorlds_86 ⟨Nat.le_of_ble_eq_true rfl, Nat.le_of_ble_eq_true rfl⟩ ?_
                      refine q_iast (D := D) (j := (nCt P (64 * W + (8 * i + j)))) hx hb hK hP hD hS 1 0 rfl rfl (awI hB9 hPt (by omega)) (Nat.le_of_ble_eq_true rfl) dX0_addWorlds_89 (fun H locs hP hD hS => ?_)
                      have hP : va_P D vwCl [cB hB hG tr, cA cI hG 1120 (upd (pgF P (64 * W + (8 * i + j))) (nCt P (64 * W + (8 * i + j))) (yWo (nI W) (nI i) (nI j)))] H := hP
                      have hD : va_D A [cB hB hG tr, cA cI hG 1120 (upd (pgF P (64 * W + (8 * i + j))) (nCt P (64 * W + (8 * i + j))) (yWo (nI W) (nI i) (nI j)))] := hD
                      refine lv_iinc (v := (nI ((nCt P (64 * W + (8 * i + j))) + 1))) (lv' := [(4, .int (nI ((nCt P (64 * W + (8 * i + j))) + 1))), (7, .int 1), (0, .ref hB), (1, .int (nI n)), (2, .int (nI W)), (3, .int (nI (nCt P (64 * W)))), (5, .int (nI i)), (6, .int (nI j))]) hx hb dX0_addWorlds_90 hl (k := 5) rfl (nI_1 (nCt P (64 * W + (8 * i + j)))) (by decide) rfl (fun ls hl => ?_)
                      refine lv_iinc (v := (nI (j + 1))) (lv' := [(6, .int (nI (j + 1))), (4, .int (nI ((nCt P (64 * W + (8 * i + j))) + 1))), (7, .int 1), (0, .ref hB), (1, .int (nI n)), (2, .int (nI W)), (3, .int (nI (nCt P (64 * W)))), (5, .int (nI i))]) hx hb dX0_addWorlds_93 hl (k := 7) rfl (nI_1 j) (by decide) rfl (fun ls hl => ?_)
                      refine lv_goto (tgt := 15) hx hb dX0_addWorlds_96 (by decide) ?_
                      have eb_0 : (nI (nCt P (64 * W + (8 * i + (j + 1))))) = (nI ((nCt P (64 * W + (8 * i + j))) + 1)) := by exact congrArg nI (nCt_t hPt)
                      have ew_0 : (pgF P (64 * W + (8 * i + (j + 1)))) = (upd (pgF P (64 * W + (8 * i + j))) (nCt P (64 * W + (8 * i + j))) (yWo (nI W) (nI i) (nI j))) := by exact pgF_t hlt hlj hn8 hPt
                      exact ih_j (by omega) trivial _ _ ls (by show va_P D vwCl [cB hB hG tr, cA cI hG 1120 (pgF P (64 * W + (8 * i + (j + 1))))] _; rw [ew_0]; exact hP) (by show va_D A [cB hB hG tr, cA cI hG 1120 (pgF P (64 * W + (8 * i + (j + 1))))]; rw [ew_0]; exact hD) hS (by show lv_has ls 8 [(0, .ref hB), (1, .int (nI n)), (2, .int (nI W)), (3, .int (nI (nCt P (64 * W)))), (4, .int (nI (nCt P (64 * W + (8 * i + (j + 1)))))), (5, .int (nI i)), (6, .int (nI (j + 1)))]; rw [eb_0]; exact lv_sub hl [3, 4, 5, 6, 1, 7, 0] rfl)
      · show va_P D vwCl [cB hB hG tr, cA cI hG 1120 (pgF P (64 * W + (8 * i + 0)))] _
        have ez_0 : (pgF P (64 * W + (8 * i + 0))) = (pgF P (64 * W + 8 * i)) := by rfl
        rw [ez_0]
        exact hP
      · show va_D A [cB hB hG tr, cA cI hG 1120 (pgF P (64 * W + (8 * i + 0)))]
        have ez_0 : (pgF P (64 * W + (8 * i + 0))) = (pgF P (64 * W + 8 * i)) := by rfl
        rw [ez_0]
        exact hD
      · show lv_has ls 8 [(0, .ref hB), (1, .int (nI n)), (2, .int (nI W)), (3, .int (nI (nCt P (64 * W)))), (4, .int (nI (nCt P (64 * W + (8 * i + 0))))), (5, .int (nI i)), (6, .int (nI 0))]
        have en_0 : (nI (nCt P (64 * W + (8 * i + 0)))) = (nI (nCt P (64 * W + 8 * i))) := by rfl
        rw [en_0]
        have en_1 : (nI 0) = 0 := by exact nI_0
        rw [en_1]
        exact lv_sub hl [1, 2, 3, 4, 5, 6, 0] rfl
  · show va_P D vwCl [cB hB hG tr, cA cI hG 1120 (pgF P (64 * W + 8 * 0))] _
    have ez_0 : (pgF P (64 * W + 8 * 0)) = (pgF P (64 * W)) := by rfl
    rw [ez_0]
    exact hP
  · show va_D A [cB hB hG tr, cA cI hG 1120 (pgF P (64 * W + 8 * 0))]
    have ez_0 : (pgF P (64 * W + 8 * 0)) = (pgF P (64 * W)) := by rfl
    rw [ez_0]
    exact hD
  · show lv_has ls 8 [(0, .ref hB), (1, .int (nI n)), (2, .int (nI W)), (3, .int (nI (nCt P (64 * W)))), (4, .int (nI (nCt P (64 * W + 8 * 0)))), (5, .int (nI 0))]
    have en_0 : (nI (nCt P (64 * W + 8 * 0))) = (nI (nCt P (64 * W))) := by rfl
    rw [en_0]
    have en_1 : (nI 0) = 0 := by exact nI_0
    rw [en_1]
    exact lv_sub hl [2, 3, 4, 5, 1, 0] rfl
