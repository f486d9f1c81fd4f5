theorem in_X0_agrees_X0 : ∀ w ∈ wsX00, w ∈ wsX0_agrees := by decide +kernel
set_option maxHeartbeats 2000000 in
set_option maxRecDepth 100000 in
theorem c_X0_agrees (l : Launch) (D : va_G) (cI cZ cJ : ClassId) (hB : Nat) (hG : Nat) (tr : Int32) (wd : Int32) (kn : Int32)  : Rd l D cI cZ cJ yX0_agrees wsX0_agrees 0 0 [.ref hB, .int wd, .int kn] [cB hB hG tr] (bI (yAgr wd tr kn)) := by
  refine rd_of (by decide) rfl (Nat.le_of_ble_eq_true rfl) (fun p e s m below meth c ls hx hb hr hml hts hown hlocks hP hK hN hl => ?_)
  have hl : lv_has ls 3 [(0, .ref hB), (1, .int wd), (2, .int kn)] := hl
  refine lv_iload_n hx hb dX0_agrees_0 rfl (lv_at hl 1 rfl) ?_
  refine lv_aload_n hx hb dX0_agrees_1 rfl (lv_at hl 0 rfl) ?_
  refine va_get (D := D) (cl := vwCl) (ci := 0) (v := .int tr) (C := RX0) (T := TX0) (N := 2) hx hb hts in_X0_agrees_X0 hown hK hP 0 rfl rfl 1 (by decide) (hts (.fieldLink RX0 15 "WitchTrial$Book" "truth" "I") (List.mem_of_getElem? (i := 1) rfl)) (fun _ h9 => h9) rfl dX0_agrees_2 ?_
  refine lv_ixor hx hb dX0_agrees_5 ?_
  refine lv_iload_n hx hb dX0_agrees_6 rfl (lv_at hl 2 rfl) ?_
  refine lv_iand hx hb dX0_agrees_7 ?_
  refine lv_if_ne (tgt := 15) hx hb dX0_agrees_8 (by decide) (fun c_1 => ?_) (fun c_1 => ?_)
  · refine lv_iconst (v := 0) hx hb dX0_agrees_15 (by decide) ?_
    exact rd_zret hx hb hr hlocks (by (first | rfl | (simp only [yAgr, bI, c_1, eq_self, ↓reduceIte]; done) | (simp only [yAgr, bI, c_1, eq_self, ↓reduceIte]; rfl) | simp [yAgr, bI, c_1])) rfl dX0_agrees_16
  · refine lv_iconst (v := 1) hx hb dX0_agrees_11 (by decide) ?_
    refine lv_goto (tgt := 16) hx hb dX0_agrees_12 (by decide) ?_
    exact rd_zret hx hb hr hlocks (by (first | rfl | (simp only [yAgr, bI, c_1, eq_self, ↓reduceIte]; done) | (simp only [yAgr, bI, c_1, eq_self, ↓reduceIte]; rfl) | (simp only [yAgr, bI, eq_true c_1, eq_self, ↓reduceIte]; done) | (simp only [yAgr, bI, eq_true c_1, eq_self, ↓reduceIte]; rfl) | (simp [yAgr, bI, eq_true c_1]; done) | simp [yAgr, bI, c_1])) rfl dX0_agrees_16

set_option maxHeartbeats 2000000 in
set_option maxRecDepth 100000 in
theorem c_X0_agreesWithClaim (l : Launch) (D : va_G) (cI cZ cJ : ClassId) (wd : Int32) (q : Int32) (bits : Int32) (b : Bool)  : Rd l D cI cZ cJ yX0_agreesWithClaim wsX0_agreesWithClaim 1 20 [.int wd, .int q, .int bits, .int (bI b)] [] (bI (yAg wd q bits b)) := by
  refine rd_of (by decide) rfl (Nat.le_of_ble_eq_true rfl) (fun p e s m below meth c ls hx hb hr hml hts hown hlocks hP hK hN hl => ?_)
  have hl : lv_has ls 4 [(0, .int wd), (1, .int q), (2, .int bits), (3, .int (bI b))] := hl
  refine lv_iload_n hx hb dX0_agreesWithClaim_0 rfl (lv_at hl 0 rfl) ?_
  refine lv_iload_n hx hb dX0_agreesWithClaim_1 rfl (lv_at hl 1 rfl) ?_
  refine rd_SN (As := [.int q]) (rest := [.int wd]) ⟨hx, hb, hml, hown, hts⟩ (c_X1_setOf l D cI cZ cJ q) ⟨va_cnB 1 hts gX0_agreesWithClaim_X1_setOf_n48 rfl rfl rfl (hN.link 8 rfl) (hts (.initialized RX1) (List.mem_of_getElem? (i := 2) rfl)) (by decide +kernel) ⟨Nat.le_of_ble_eq_true rfl, Nat.le_of_ble_eq_true rfl⟩, (hts (.static yX1_setOf) (List.mem_of_getElem? (i := 1) rfl)), trivial⟩ (hP.sub (ws' := []) [] rfl) hK hN rfl hl.1 rfl (Nat.le_of_ble_eq_true rfl) dX0_agreesWithClaim_2 ⟨Nat.le_of_ble_eq_true rfl, Nat.le_of_ble_eq_true rfl⟩ ?_
  refine lv_iand hx hb dX0_agreesWithClaim_5 ?_
  refine lv_if_ne (tgt := 24) hx hb dX0_agreesWithClaim_6 (by decide) (fun c_1 => ?_) (fun c_1 => ?_)
  · refine lv_iconst (v := 1) hx hb dX0_agreesWithClaim_24 (by decide) ?_
    refine lv_goto (tgt := 29) hx hb dX0_agreesWithClaim_25 (by decide) ?_
    exact rd_zret hx hb hr hlocks (by revert c_1; cases b <;> simp +contextual [yAg, bI]) rfl dX0_agreesWithClaim_29
  · refine lv_iload_n hx hb dX0_agreesWithClaim_9 rfl (lv_at hl 0 rfl) ?_
    refine lv_iload_n hx hb dX0_agreesWithClaim_10 rfl (lv_at hl 2 rfl) ?_
    refine lv_iand hx hb dX0_agreesWithClaim_11 ?_
    refine lv_if_eq (tgt := 19) hx hb dX0_agreesWithClaim_12 (by decide) (fun c_2 => ?_) (fun c_2 => ?_)
    · refine lv_iconst (v := 0) hx hb dX0_agreesWithClaim_19 (by decide) ?_
      refine lv_iload_n hx hb dX0_agreesWithClaim_20 rfl (lv_at hl 3 rfl) ?_
      refine lv_icmp_ne (tgt := 28) hx hb dX0_agreesWithClaim_21 (by decide) (fun c_3 => ?_) (fun c_3 => ?_)
      · refine lv_iconst (v := 0) hx hb dX0_agreesWithClaim_28 (by decide) ?_
        exact rd_zret hx hb hr hlocks (by revert c_1 c_2 c_3; cases b <;> simp +contextual [yAg, bI]) rfl dX0_agreesWithClaim_29
      · refine lv_iconst (v := 1) hx hb dX0_agreesWithClaim_24 (by decide) ?_
        refine lv_goto (tgt := 29) hx hb dX0_agreesWithClaim_25 (by decide) ?_
        exact rd_zret hx hb hr hlocks (by revert c_1 c_2 c_3; cases b <;> simp +contextual [yAg, bI]) rfl dX0_agreesWithClaim_29
    · refine lv_iconst (v := 1) hx hb dX0_agreesWithClaim_15 (by decide) ?_
      refine lv_goto (tgt := 20) hx hb dX0_agreesWithClaim_16 (by decide) ?_
      refine lv_iload_n hx hb dX0_agreesWithClaim_20 rfl (lv_at hl 3 rfl) ?_
      refine lv_icmp_ne (tgt := 28) hx hb dX0_agreesWithClaim_21 (by decide) (fun c_4 => ?_) (fun c_4 => ?_)
      · refine lv_iconst (v := 0) hx hb dX0_agreesWithClaim_28 (by decide) ?_
        exact rd_zret hx hb hr hlocks (by revert c_1 c_2 c_4; cases b <;> simp +contextual [yAg, bI]) rfl dX0_agreesWithClaim_29
      · refine lv_iconst (v := 1) hx hb dX0_agreesWithClaim_24 (by decide) ?_
        refine lv_goto (tgt := 29) hx hb dX0_agreesWithClaim_25 (by decide) ?_
        exact rd_zret hx hb hr hlocks (by revert c_1 c_2 c_4; cases b <;> simp +contextual [yAg, bI]) rfl dX0_agreesWithClaim_29

theorem in_X0_allowsClaim_X0 : ∀ w ∈ wsX00, w ∈ wsX0_allowsClaim := by decide +kernel
set_option maxHeartbeats 2000000 in
set_option maxRecDepth 100000 in
theorem c_X0_allowsClaim (l : Launch) (D : va_G) (cI cZ cJ : ClassId) (hB : Nat) (hG : Nat) (tr : Int32) (q : Int32) (bits : Int32) (b : Bool)  : Rd l D cI cZ cJ yX0_allowsClaim wsX0_allowsClaim 2 43 [.ref hB, .int q, .int bits, .int (bI b)] [cB hB hG tr] (bI (yAg tr q bits b)) := by
  refine rd_of (by decide) rfl (Nat.le_of_ble_eq_true rfl) (fun p e s m below meth c ls hx hb hr hml hts hown hlocks hP hK hN hl => ?_)
  have hl : lv_has ls 4 [(0, .ref hB), (1, .int q), (2, .int bits), (3, .int (bI b))] := hl
  refine lv_aload_n hx hb dX0_allowsClaim_0 rfl (lv_at hl 0 rfl) ?_
  refine va_get (D := D) (cl := vwCl) (ci := 0) (v := .int tr) (C := RX0) (T := TX0) (N := 2) hx hb hts in_X0_allowsClaim_X0 hown hK hP 0 rfl rfl 1 (by decide) (hts (.fieldLink RX0 15 "WitchTrial$Book" "truth" "I") (List.mem_of_getElem? (i := 1) rfl)) (fun _ h9 => h9) rfl dX0_allowsClaim_1 ?_
  refine lv_iload_n hx hb dX0_allowsClaim_4 rfl (lv_at hl 1 rfl) ?_
  refine lv_iload_n hx hb dX0_allowsClaim_5 rfl (lv_at hl 2 rfl) ?_
  refine lv_iload_n hx hb dX0_allowsClaim_6 rfl (lv_at hl 3 rfl) ?_
  refine rd_S (As := [.int tr, .int q, .int bits, .int (bI b)]) (rest := []) ⟨hx, hb, hml, hown, hts⟩ (c_X0_agreesWithClaim l D cI cZ cJ tr q bits b) (va_cwS 4 hts gX0_allowsClaim_X0_agreesWithClaim rfl rfl rfl (by decide +kernel) ⟨Nat.le_of_ble_eq_true rfl, Nat.le_of_ble_eq_true rfl⟩) (hP.sub (ws' := []) [] rfl) hK hN rfl hl.1 rfl (Nat.le_of_ble_eq_true rfl) dX0_allowsClaim_7 ⟨Nat.le_of_ble_eq_true rfl, Nat.le_of_ble_eq_true rfl⟩ ?_
  exact rd_zret hx hb hr hlocks (by rfl) (bI_nar _) dX0_allowsClaim_10

theorem in_X0_count_X0 : ∀ w ∈ wsX00, w ∈ wsX0_count := by decide +kernel
set_option maxHeartbeats 2000000 in
set_option maxRecDepth 100000 in
theorem c_X0_count (l : Launch) (D : va_G) (cI cZ cJ : ClassId) (hB : Nat) (hG : Nat) (tr : Int32) (g : Nat → Int32) (kn : Int32) (K : Nat) (hK9 : K ≤ 1120) (hg : ∀ j, j < K → ¬ g j = 0) (hz : K < 1120 → g K = 0) : Rd l D cI cZ cJ yX0_count wsX0_count 1 22 [.ref hB, .int kn] [cB hB hG tr, cA cI hG 1120 g] (xCnt (pAg g tr kn) K) := by
  refine rd_of (by decide) rfl (Nat.le_of_ble_eq_true rfl) (fun p e s m below meth c ls hx hb hr hml hts hown hlocks hP hK hN hl => ?_)
  have hl : lv_has ls 4 [(0, .ref hB), (1, .int kn)] := hl
  refine lv_iconst (v := 0) hx hb dX0_count_0 (by decide) ?_
  refine lv_istore_n (lv' := [(2, .int 0), (0, .ref hB), (1, .int kn)]) hx hb dX0_count_1 rfl hl (by decide) rfl (fun ls hl => ?_)
  refine lv_iconst (v := 0) hx hb dX0_count_2 (by decide) ?_
  refine lv_istore_n (lv' := [(3, .int 0), (2, .int 0), (0, .ref hB), (1, .int kn)]) hx hb dX0_count_3 rfl hl (by decide) rfl (fun ls hl => ?_)
  refine loop_R (nL := 4) (h := 4) K (fun i => [(0, .ref hB), (1, .int kn), (2, .int (xCnt (pAg g tr kn) i)), (3, .int (nI i))]) (fun _ => True) (fun i hi hI ih_i ls hl => ?_) 0 (by omega) trivial ls ?_
  · have hl : lv_has ls 4 [(0, .ref hB), (1, .int kn), (2, .int (xCnt (pAg g tr kn) i)), (3, .int (nI i))] := hl
    refine lv_iload_n hx hb dX0_count_4 rfl (lv_at hl 3 rfl) ?_
    refine lv_aload_n hx hb dX0_count_5 rfl (lv_at hl 0 rfl) ?_
    refine va_get (D := D) (cl := vwCl) (ci := 0) (v := .ref hG) (C := RX0) (T := TX0) (N := 2) hx hb hts in_X0_count_X0 hown hK hP 0 rfl rfl 0 (by decide) (hts (.fieldLink RX0 11 "WitchTrial$Book" "pages" "[I") (List.mem_of_getElem? (i := 1) rfl)) (fun _ h9 => h9) rfl dX0_count_6 ?_
    refine va_alen (D := D) (cl := vwCl) hx hb hK hP 1 0 rfl rfl (v := 1120) rfl dX0_count_9 ?_
    refine lv_icmp_ge (tgt := 45) hx hb dX0_count_10 (by decide) (fun c_2 => ?_) (fun c_2 => ?_)
    · have hi9 : K = i := (kEx1 hi hK9 c_2).symm
      subst hi9
      refine lv_iload_n hx hb dX0_count_45 rfl (lv_at hl 2 rfl) ?_
      exact rd_iret hx hb hr hlocks (by rfl) dX0_count_46
    · have hlt : i < 1120 := ltN (by omega) (by omega) rfl c_2
      refine lv_aload_n hx hb dX0_count_13 rfl (lv_at hl 0 rfl) ?_
      refine va_get (D := D) (cl := vwCl) (ci := 0) (v := .ref hG) (C := RX0) (T := TX0) (N := 2) hx hb hts in_X0_count_X0 hown hK hP 0 rfl rfl 0 (by decide) (hts (.fieldLink RX0 11 "WitchTrial$Book" "pages" "[I") (List.mem_of_getElem? (i := 1) rfl)) (fun _ h9 => h9) rfl dX0_count_14 ?_
      refine lv_iload_n hx hb dX0_count_17 rfl (lv_at hl 3 rfl) ?_
      refine q_iald (D := D) (j := i) (v := (g i)) hx hb hK hP 1 0 rfl rfl (by omega) (Nat.le_of_ble_eq_true rfl) rfl dX0_count_18 ?_
      refine lv_if_eq (tgt := 45) hx hb dX0_count_19 (by decide) (fun c_3 => ?_) (fun c_3 => ?_)
      · have hi9 : K = i := (kEx2 hi hg c_3).symm
        subst hi9
        refine lv_iload_n hx hb dX0_count_45 rfl (lv_at hl 2 rfl) ?_
        exact rd_iret hx hb hr hlocks (by rfl) dX0_count_46
      · have hlK : i < K := kEx3 hi hlt hz c_3
        refine lv_aload_n hx hb dX0_count_22 rfl (lv_at hl 0 rfl) ?_
        refine lv_aload_n hx hb dX0_count_23 rfl (lv_at hl 0 rfl) ?_
        refine va_get (D := D) (cl := vwCl) (ci := 0) (v := .ref hG) (C := RX0) (T := TX0) (N := 2) hx hb hts in_X0_count_X0 hown hK hP 0 rfl rfl 0 (by decide) (hts (.fieldLink RX0 11 "WitchTrial$Book" "pages" "[I") (List.mem_of_getElem? (i := 1) rfl)) (fun _ h9 => h9) rfl dX0_count_24 ?_
        refine lv_iload_n hx hb dX0_count_27 rfl (lv_at hl 3 rfl) ?_
        refine q_iald (D := D) (j := i) (v := (g i)) hx hb hK hP 1 0 rfl rfl (by omega) (Nat.le_of_ble_eq_true rfl) rfl dX0_count_28 ?_
        refine lv_iload_n hx hb dX0_count_29 rfl (lv_at hl 1 rfl) ?_
        refine rd_V (b := hB) (As := [.int (g i), .int kn]) (rest := []) ⟨hx, hb, hml, hown, hts⟩ (c_X0_agrees l D cI cZ cJ hB hG tr (g i) kn) (cwV 2 hts gX0_count_X0_agrees rfl rfl rfl (by decide +kernel) ⟨Nat.le_of_ble_eq_true rfl, Nat.le_of_ble_eq_true rfl⟩) (hP.sub (ws' := [cB hB hG tr]) [0] rfl) hK hN (va_recv hK hP (ci := 0) (q0 := 0) rfl rfl) rfl hl.1 rfl (Nat.le_of_ble_eq_true rfl) dX0_count_30 ⟨Nat.le_of_ble_eq_true rfl, Nat.le_of_ble_eq_true rfl⟩ ?_
        refine lv_if_eq (tgt := 39) hx hb dX0_count_33 (by decide) (fun c_4 => ?_) (fun c_4 => ?_)
        · have c_4 : (yAgr (g i) tr kn) = false := bI_0 c_4
          refine lv_iinc (v := (nI (i + 1))) (lv' := [(3, .int (nI (i + 1))), (0, .ref hB), (1, .int kn), (2, .int (xCnt (pAg g tr kn) i))]) hx hb dX0_count_39 hl (k := 3) rfl (nI_1 i) (by decide) rfl (fun ls hl => ?_)
          refine lv_goto (tgt := 4) hx hb dX0_count_42 (by decide) ?_
          have eb_0 : (xCnt (pAg g tr kn) (i + 1)) = (xCnt (pAg g tr kn) i) := by (first | rfl | (simp only [bI, xCnt, pAg, c_2, c_3, c_4, eq_self, ↓reduceIte]; done) | (simp only [bI, xCnt, pAg, c_2, c_3, c_4, eq_self, ↓reduceIte]; rfl) | simp [bI, xCnt, pAg, c_2, c_3, c_4])
          exact ih_i (by omega) trivial ls (by show lv_has ls 4 [(0, .ref hB), (1, .int kn), (2, .int (xCnt (pAg g tr kn) (i + 1))), (3, .int (nI (i + 1)))]; rw [eb_0]; exact lv_sub hl [1, 2, 3, 0] rfl)
        · have c_4 : (yAgr (g i) tr kn) = true := bI_1 c_4
          refine lv_iinc (v := ((xCnt (pAg g tr kn) i) + 1)) (lv' := [(2, .int ((xCnt (pAg g tr kn) i) + 1)), (0, .ref hB), (1, .int kn), (3, .int (nI i))]) hx hb dX0_count_36 hl (k := 2) rfl rfl (by decide) rfl (fun ls hl => ?_)
          refine lv_iinc (v := (nI (i + 1))) (lv' := [(3, .int (nI (i + 1))), (2, .int ((xCnt (pAg g tr kn) i) + 1)), (0, .ref hB), (1, .int kn)]) hx hb dX0_count_39 hl (k := 3) rfl (nI_1 i) (by decide) rfl (fun ls hl => ?_)
          refine lv_goto (tgt := 4) hx hb dX0_count_42 (by decide) ?_
          have eb_0 : (xCnt (pAg g tr kn) (i + 1)) = ((xCnt (pAg g tr kn) i) + 1) := by (first | rfl | (simp only [bI, xCnt, pAg, c_2, c_3, c_4, eq_self, ↓reduceIte]; done) | (simp only [bI, xCnt, pAg, c_2, c_3, c_4, eq_self, ↓reduceIte]; rfl) | simp [bI, xCnt, pAg, c_2, c_3, c_4])
          exact ih_i (by omega) trivial ls (by show lv_has ls 4 [(0, .ref hB), (1, .int kn), (2, .int (xCnt (pAg g tr kn) (i + 1))), (3, .int (nI (i + 1)))]; rw [eb_0]; exact lv_sub hl [2, 3, 1, 0] rfl)
  · show lv_has ls 4 [(0, .ref hB), (1, .int kn), (2, .int (xCnt (pAg g tr kn) 0)), (3, .int (nI 0))]
    have en_0 : (xCnt (pAg g tr kn) 0) = 0 := by rfl
    rw [en_0]
    have en_1 : (nI 0) = 0 := by exact nI_0
    rw [en_1]
    exact lv_sub hl [2, 3, 1, 0] rfl

theorem in_X0_countWithRole_X0 : ∀ w ∈ wsX00, w ∈ wsX0_countWithRole := by decide +kernel
set_option maxHeartbeats 2000000 in
set_option maxRecDepth 100000 in
theorem c_X0_countWithRole (l : Launch) (D : va_G) (cI cZ cJ : ClassId) (hB : Nat) (hG : Nat) (tr : Int32) (g : Nat → Int32) (kn : Int32) (q : Int32) (k : Int32) (K : Nat) (hK9 : K ≤ 1120) (hg : ∀ j, j < K → ¬ g j = 0) (hz : K < 1120 → g K = 0) : Rd l D cI cZ cJ yX0_countWithRole wsX0_countWithRole 2 41 [.ref hB, .int kn, .int q, .int k] [cB hB hG tr, cA cI hG 1120 g] (xCnt (pRo g tr kn q k) K) := by
  refine rd_of (by decide) rfl (Nat.le_of_ble_eq_true rfl) (fun p e s m below meth c ls hx hb hr hml hts hown hlocks hP hK hN hl => ?_)
  have hl : lv_has ls 8 [(0, .ref hB), (1, .int kn), (2, .int q), (3, .int k)] := hl
  refine lv_iload_n hx hb dX0_countWithRole_0 rfl (lv_at hl 2 rfl) ?_
  refine rd_SN (As := [.int q]) (rest := []) ⟨hx, hb, hml, hown, hts⟩ (c_X1_setOf l D cI cZ cJ q) ⟨va_cnB 1 hts gX0_countWithRole_X1_setOf_n48 rfl rfl rfl (hN.link 8 rfl) (hts (.initialized RX1) (List.mem_of_getElem? (i := 3) rfl)) (by decide +kernel) ⟨Nat.le_of_ble_eq_true rfl, Nat.le_of_ble_eq_true rfl⟩, (hts (.static yX1_setOf) (List.mem_of_getElem? (i := 2) rfl)), trivial⟩ (hP.sub (ws' := []) [] rfl) hK hN rfl hl.1 rfl (Nat.le_of_ble_eq_true rfl) dX0_countWithRole_1 ⟨Nat.le_of_ble_eq_true rfl, Nat.le_of_ble_eq_true rfl⟩ ?_
  refine rd_SN (As := [.int (yOf q)]) (rest := []) ⟨hx, hb, hml, hown, hts⟩ (c_X1_roleBits l D cI cZ cJ (yOf q)) ⟨va_cnB 1 hts gX0_countWithRole_X1_roleBits_n59 rfl rfl rfl (hN.link 11 rfl) (hts (.initialized RX1) (List.mem_of_getElem? (i := 3) rfl)) (by decide +kernel) ⟨Nat.le_of_ble_eq_true rfl, Nat.le_of_ble_eq_true rfl⟩, (hts (.static yX1_roleBits) (List.mem_of_getElem? (i := 5) rfl)), trivial⟩ (hP.sub (ws' := []) [] rfl) hK hN rfl hl.1 rfl (Nat.le_of_ble_eq_true rfl) dX0_countWithRole_4 ⟨Nat.le_of_ble_eq_true rfl, Nat.le_of_ble_eq_true rfl⟩ ?_
  refine lv_istore (lv' := [(4, .int (yRb (yOf q))), (0, .ref hB), (1, .int kn), (2, .int q), (3, .int k)]) hx hb dX0_countWithRole_7 hl (by decide) rfl (fun ls hl => ?_)
  refine lv_iload_n hx hb dX0_countWithRole_9 rfl (lv_at hl 3 rfl) ?_
  refine lv_iload_n hx hb dX0_countWithRole_10 rfl (lv_at hl 4 rfl) ?_
  refine rd_SN (As := [.int q, .int k]) (rest := []) ⟨hx, hb, hml, hown, hts⟩ (c_X1_bitOfRole l D cI cZ cJ q k) ⟨va_cnB 2 hts gX0_countWithRole_X1_bitOfRole_n62 rfl rfl rfl (hN.link 12 rfl) (hts (.initialized RX1) (List.mem_of_getElem? (i := 3) rfl)) (by decide +kernel) ⟨Nat.le_of_ble_eq_true rfl, Nat.le_of_ble_eq_true rfl⟩, (hts (.static yX1_bitOfRole) (List.mem_of_getElem? (i := 7) rfl)), trivial⟩ (hP.sub (ws' := []) [] rfl) hK hN rfl hl.1 rfl (Nat.le_of_ble_eq_true rfl) dX0_countWithRole_11 ⟨Nat.le_of_ble_eq_true rfl, Nat.le_of_ble_eq_true rfl⟩ ?_
  refine lv_istore (lv' := [(5, .int (yBr q k)), (4, .int (yRb (yOf q))), (0, .ref hB), (1, .int kn), (2, .int q), (3, .int k)]) hx hb dX0_countWithRole_14 hl (by decide) rfl (fun ls hl => ?_)
  refine lv_iconst (v := 0) hx hb dX0_countWithRole_16 (by decide) ?_
  refine lv_istore (lv' := [(6, .int 0), (5, .int (yBr q k)), (4, .int (yRb (yOf q))), (0, .ref hB), (1, .int kn), (2, .int q), (3, .int k)]) hx hb dX0_countWithRole_17 hl (by decide) rfl (fun ls hl => ?_)
  refine lv_iconst (v := 0) hx hb dX0_countWithRole_19 (by decide) ?_
  refine lv_istore (lv' := [(7, .int 0), (6, .int 0), (5, .int (yBr q k)), (4, .int (yRb (yOf q))), (0, .ref hB), (1, .int kn), (2, .int q), (3, .int k)]) hx hb dX0_countWithRole_20 hl (by decide) rfl (fun ls hl => ?_)
  refine loop_R (nL := 8) (h := 22) K (fun i => [(0, .ref hB), (1, .int kn), (2, .int q), (3, .int k), (4, .int (yRb (yOf q))), (5, .int (yBr q k)), (6, .int (xCnt (pRo g tr kn q k) i)), (7, .int (nI i))]) (fun _ => True) (fun i hi hI ih_i ls hl => ?_) 0 (by omega) trivial ls ?_
  · have hl : lv_has ls 8 [(0, .ref hB), (1, .int kn), (2, .int q), (3, .int k), (4, .int (yRb (yOf q))), (5, .int (yBr q k)), (6, .int (xCnt (pRo g tr kn q k) i)), (7, .int (nI i))] := hl
    refine lv_iload hx hb dX0_countWithRole_22 (lv_at hl 7 rfl) ?_
    refine lv_aload_n hx hb dX0_countWithRole_24 rfl (lv_at hl 0 rfl) ?_
    refine va_get (D := D) (cl := vwCl) (ci := 0) (v := .ref hG) (C := RX0) (T := TX0) (N := 2) hx hb hts in_X0_countWithRole_X0 hown hK hP 0 rfl rfl 0 (by decide) (hts (.fieldLink RX0 11 "WitchTrial$Book" "pages" "[I") (List.mem_of_getElem? (i := 1) rfl)) (fun _ h9 => h9) rfl dX0_countWithRole_25 ?_
    refine va_alen (D := D) (cl := vwCl) hx hb hK hP 1 0 rfl rfl (v := 1120) rfl dX0_countWithRole_28 ?_
    refine lv_icmp_ge (tgt := 81) hx hb dX0_countWithRole_29 (by decide) (fun c_2 => ?_) (fun c_2 => ?_)
    · have hi9 : K = i := (kEx1 hi hK9 c_2).symm
      subst hi9
      refine lv_iload hx hb dX0_countWithRole_81 (lv_at hl 6 rfl) ?_
      exact rd_iret hx hb hr hlocks (by rfl) dX0_countWithRole_83
    · have hlt : i < 1120 := ltN (by omega) (by omega) rfl c_2
      refine lv_aload_n hx hb dX0_countWithRole_32 rfl (lv_at hl 0 rfl) ?_
      refine va_get (D := D) (cl := vwCl) (ci := 0) (v := .ref hG) (C := RX0) (T := TX0) (N := 2) hx hb hts in_X0_countWithRole_X0 hown hK hP 0 rfl rfl 0 (by decide) (hts (.fieldLink RX0 11 "WitchTrial$Book" "pages" "[I") (List.mem_of_getElem? (i := 1) rfl)) (fun _ h9 => h9) rfl dX0_countWithRole_33 ?_
      refine lv_iload hx hb dX0_countWithRole_36 (lv_at hl 7 rfl) ?_
      refine q_iald (D := D) (j := i) (v := (g i)) hx hb hK hP 1 0 rfl rfl (by omega) (Nat.le_of_ble_eq_true rfl) rfl dX0_countWithRole_38 ?_
      refine lv_if_eq (tgt := 81) hx hb dX0_countWithRole_39 (by decide) (fun c_3 => ?_) (fun c_3 => ?_)
      · have hi9 : K = i := (kEx2 hi hg c_3).symm
        subst hi9
        refine lv_iload hx hb dX0_countWithRole_81 (lv_at hl 6 rfl) ?_
        exact rd_iret hx hb hr hlocks (by rfl) dX0_countWithRole_83
      · have hlK : i < K := kEx3 hi hlt hz c_3
        refine lv_aload_n hx hb dX0_countWithRole_42 rfl (lv_at hl 0 rfl) ?_
        refine va_get (D := D) (cl := vwCl) (ci := 0) (v := .ref hG) (C := RX0) (T := TX0) (N := 2) hx hb hts in_X0_countWithRole_X0 hown hK hP 0 rfl rfl 0 (by decide) (hts (.fieldLink RX0 11 "WitchTrial$Book" "pages" "[I") (List.mem_of_getElem? (i := 1) rfl)) (fun _ h9 => h9) rfl dX0_countWithRole_43 ?_
        refine lv_iload hx hb dX0_countWithRole_46 (lv_at hl 7 rfl) ?_
        refine q_iald (D := D) (j := i) (v := (g i)) hx hb hK hP 1 0 rfl rfl (by omega) (Nat.le_of_ble_eq_true rfl) rfl dX0_countWithRole_48 ?_
        refine lv_iload hx hb dX0_countWithRole_49 (lv_at hl 4 rfl) ?_
        refine lv_iand hx hb dX0_countWithRole_51 ?_
        refine lv_iload hx hb dX0_countWithRole_52 (lv_at hl 5 rfl) ?_
        refine lv_icmp_ne (tgt := 75) hx hb dX0_countWithRole_54 (by decide) (fun c_4 => ?_) (fun c_4 => ?_)
        · refine lv_iinc (v := (nI (i + 1))) (lv' := [(7, .int (nI (i + 1))), (0, .ref hB), (1, .int kn), (2, .int q), (3, .int k), (4, .int (yRb (yOf q))), (5, .int (yBr q k)), (6, .int (xCnt (pRo g tr kn q k) i))]) hx hb dX0_countWithRole_75 hl (k := 7) rfl (nI_1 i) (by decide) rfl (fun ls hl => ?_)
          refine lv_goto (tgt := 22) hx hb dX0_countWithRole_78 (by decide) ?_
          have eb_0 : (xCnt (pRo g tr kn q k) (i + 1)) = (xCnt (pRo g tr kn q k) i) := by (first | rfl | (simp only [bI, xCnt, pRo, c_2, c_3, c_4, eq_self, ↓reduceIte]; done) | (simp only [bI, xCnt, pRo, c_2, c_3, c_4, eq_self, ↓reduceIte]; rfl) | simp [bI, xCnt, pRo, c_2, c_3, c_4])
          exact ih_i (by omega) trivial ls (by show lv_has ls 8 [(0, .ref hB), (1, .int kn), (2, .int q), (3, .int k), (4, .int (yRb (yOf q))), (5, .int (yBr q k)), (6, .int (xCnt (pRo g tr kn q k) (i + 1))), (7, .int (nI (i + 1)))]; rw [eb_0]; exact lv_sub hl [1, 2, 3, 4, 5, 6, 7, 0] rfl)
        · refine lv_aload_n hx hb dX0_countWithRole_57 rfl (lv_at hl 0 rfl) ?_
          refine lv_aload_n hx hb dX0_countWithRole_58 rfl (lv_at hl 0 rfl) ?_
          refine va_get (D := D) (cl := vwCl) (ci := 0) (v := .ref hG) (C := RX0) (T := TX0) (N := 2) hx hb hts in_X0_countWithRole_X0 hown hK hP 0 rfl rfl 0 (by decide) (hts (.fieldLink RX0 11 "WitchTrial$Book" "pages" "[I") (List.mem_of_getElem? (i := 1) rfl)) (fun _ h9 => h9) rfl dX0_countWithRole_59 ?_
          refine lv_iload hx hb dX0_countWithRole_62 (lv_at hl 7 rfl) ?_
          refine q_iald (D := D) (j := i) (v := (g i)) hx hb hK hP 1 0 rfl rfl (by omega) (Nat.le_of_ble_eq_true rfl) rfl dX0_countWithRole_64 ?_
          refine lv_iload_n hx hb dX0_countWithRole_65 rfl (lv_at hl 1 rfl) ?_
          refine rd_V (b := hB) (As := [.int (g i), .int kn]) (rest := []) ⟨hx, hb, hml, hown, hts⟩ (c_X0_agrees l D cI cZ cJ hB hG tr (g i) kn) (cwV 2 hts gX0_countWithRole_X0_agrees rfl rfl rfl (by decide +kernel) ⟨Nat.le_of_ble_eq_true rfl, Nat.le_of_ble_eq_true rfl⟩) (hP.sub (ws' := [cB hB hG tr]) [0] rfl) hK hN (va_recv hK hP (ci := 0) (q0 := 0) rfl rfl) rfl hl.1 rfl (Nat.le_of_ble_eq_true rfl) dX0_countWithRole_66 ⟨Nat.le_of_ble_eq_true rfl, Nat.le_of_ble_eq_true rfl⟩ ?_
          refine lv_if_eq (tgt := 75) hx hb dX0_countWithRole_69 (by decide) (fun c_5 => ?_) (fun c_5 => ?_)
          · have c_5 : (yAgr (g i) tr kn) = false := bI_0 c_5
            refine lv_iinc (v := (nI (i + 1))) (lv' := [(7, .int (nI (i + 1))), (0, .ref hB), (1, .int kn), (2, .int q), (3, .int k), (4, .int (yRb (yOf q))), (5, .int (yBr q k)), (6, .int (xCnt (pRo g tr kn q k) i))]) hx hb dX0_countWithRole_75 hl (k := 7) rfl (nI_1 i) (by decide) rfl (fun ls hl => ?_)
            refine lv_goto (tgt := 22) hx hb dX0_countWithRole_78 (by decide) ?_
            have eb_0 : (xCnt (pRo g tr kn q k) (i + 1)) = (xCnt (pRo g tr kn q k) i) := by (first | rfl | (simp only [bI, xCnt, pRo, c_2, c_3, c_4, c_5, eq_self, ↓reduceIte]; done) | (simp only [bI, xCnt, pRo, c_2, c_3, c_4, c_5, eq_self, ↓reduceIte]; rfl) | (simp only [bI, xCnt, pRo, c_2, c_3, eq_true c_4, c_5, eq_self, ↓reduceIte]; done) | (simp only [bI, xCnt, pRo, c_2, c_3, eq_true c_4, c_5, eq_self, ↓reduceIte]; rfl) | (simp [bI, xCnt, pRo, c_2, c_3, eq_true c_4, c_5]; done) | simp [bI, xCnt, pRo, c_2, c_3, c_4, c_5])
            exact ih_i (by omega) trivial ls (by show lv_has ls 8 [(0, .ref hB), (1, .int kn), (2, .int q), (3, .int k), (4, .int (yRb (yOf q))), (5, .int (yBr q k)), (6, .int (xCnt (pRo g tr kn q k) (i + 1))), (7, .int (nI (i + 1)))]; rw [eb_0]; exact lv_sub hl [1, 2, 3, 4, 5, 6, 7, 0] rfl)
          · have c_5 : (yAgr (g i) tr kn) = true := bI_1 c_5
            refine lv_iinc (v := ((xCnt (pRo g tr kn q k) i) + 1)) (lv' := [(6, .int ((xCnt (pRo g tr kn q k) i) + 1)), (0, .ref hB), (1, .int kn), (2, .int q), (3, .int k), (4, .int (yRb (yOf q))), (5, .int (yBr q k)), (7, .int (nI i))]) hx hb dX0_countWithRole_72 hl (k := 6) rfl rfl (by decide) rfl (fun ls hl => ?_)
            refine lv_iinc (v := (nI (i + 1))) (lv' := [(7, .int (nI (i + 1))), (6, .int ((xCnt (pRo g tr kn q k) i) + 1)), (0, .ref hB), (1, .int kn), (2, .int q), (3, .int k), (4, .int (yRb (yOf q))), (5, .int (yBr q k))]) hx hb dX0_countWithRole_75 hl (k := 7) rfl (nI_1 i) (by decide) rfl (fun ls hl => ?_)
            refine lv_goto (tgt := 22) hx hb dX0_countWithRole_78 (by decide) ?_
            have eb_0 : (xCnt (pRo g tr kn q k) (i + 1)) = ((xCnt (pRo g tr kn q k) i) + 1) := by (first | rfl | (simp only [bI, xCnt, pRo, c_2, c_3, c_4, c_5, eq_self, ↓reduceIte]; done) | (simp only [bI, xCnt, pRo, c_2, c_3, c_4, c_5, eq_self, ↓reduceIte]; rfl) | (simp only [bI, xCnt, pRo, c_2, c_3, eq_true c_4, c_5, eq_self, ↓reduceIte]; done) | (simp only [bI, xCnt, pRo, c_2, c_3, eq_true c_4, c_5, eq_self, ↓reduceIte]; rfl) | (simp [bI, xCnt, pRo, c_2, c_3, eq_true c_4, c_5]; done) | simp [bI, xCnt, pRo, c_2, c_3, c_4, c_5])
            exact ih_i (by omega) trivial ls (by show lv_has ls 8 [(0, .ref hB), (1, .int kn), (2, .int q), (3, .int k), (4, .int (yRb (yOf q))), (5, .int (yBr q k)), (6, .int (xCnt (pRo g tr kn q k) (i + 1))), (7, .int (nI (i + 1)))]; rw [eb_0]; exact lv_sub hl [2, 3, 4, 5, 6, 7, 1, 0] rfl)
  · show lv_has ls 8 [(0, .ref hB), (1, .int kn), (2, .int q), (3, .int k), (4, .int (yRb (yOf q))), (5, .int (yBr q k)), (6, .int (xCnt (pRo g tr kn q k) 0)), (7, .int (nI 0))]
    have en_0 : (xCnt (pRo g tr kn q k) 0) = 0 := by rfl
    rw [en_0]
    have en_1 : (nI 0) = 0 := by exact nI_0
    rw [en_1]
    exact lv_sub hl [4, 5, 6, 7, 3, 2, 1, 0] rfl

theorem in_X0_witchesInAll_X0 : ∀ w ∈ wsX00, w ∈ wsX0_witchesInAll := by decide +kernel
set_option maxHeartbeats 2000000 in
set_option maxRecDepth 100000 in
theorem c_X0_witchesInAll (l : Launch) (D : va_G) (cI cZ cJ : ClassId) (hB : Nat) (hG : Nat) (tr : Int32) (g : Nat → Int32) (kn : Int32) (K : Nat) (hK9 : K ≤ 1120) (hg : ∀ j, j < K → ¬ g j = 0) (hz : K < 1120 → g K = 0) : Rd l D cI cZ cJ yX0_witchesInAll wsX0_witchesInAll 1 22 [.ref hB, .int kn] [cB hB hG tr, cA cI hG 1120 g] (yWa g tr kn K) := by
  refine rd_of (by decide) rfl (Nat.le_of_ble_eq_true rfl) (fun p e s m below meth c ls hx hb hr hml hts hown hlocks hP hK hN hl => ?_)
  have hl : lv_has ls 4 [(0, .ref hB), (1, .int kn)] := hl
  refine lv_sipush (v := 255) hx hb dX0_witchesInAll_0 (by decide) ?_
  refine lv_istore_n (lv' := [(2, .int 255), (0, .ref hB), (1, .int kn)]) hx hb dX0_witchesInAll_3 rfl hl (by decide) rfl (fun ls hl => ?_)
  refine lv_iconst (v := 0) hx hb dX0_witchesInAll_4 (by decide) ?_
  refine lv_istore_n (lv' := [(3, .int 0), (2, .int 255), (0, .ref hB), (1, .int kn)]) hx hb dX0_witchesInAll_5 rfl hl (by decide) rfl (fun ls hl => ?_)
  refine loop_R (nL := 4) (h := 6) K (fun i => [(0, .ref hB), (1, .int kn), (2, .int (yWa g tr kn i)), (3, .int (nI i))]) (fun _ => True) (fun i hi hI ih_i ls hl => ?_) 0 (by omega) trivial ls ?_
  · have hl : lv_has ls 4 [(0, .ref hB), (1, .int kn), (2, .int (yWa g tr kn i)), (3, .int (nI i))] := hl
    refine lv_iload_n hx hb dX0_witchesInAll_6 rfl (lv_at hl 3 rfl) ?_
    refine lv_aload_n hx hb dX0_witchesInAll_7 rfl (lv_at hl 0 rfl) ?_
    refine va_get (D := D) (cl := vwCl) (ci := 0) (v := .ref hG) (C := RX0) (T := TX0) (N := 2) hx hb hts in_X0_witchesInAll_X0 hown hK hP 0 rfl rfl 0 (by decide) (hts (.fieldLink RX0 11 "WitchTrial$Book" "pages" "[I") (List.mem_of_getElem? (i := 1) rfl)) (fun _ h9 => h9) rfl dX0_witchesInAll_8 ?_
    refine va_alen (D := D) (cl := vwCl) hx hb hK hP 1 0 rfl rfl (v := 1120) rfl dX0_witchesInAll_11 ?_
    refine lv_icmp_ge (tgt := 56) hx hb dX0_witchesInAll_12 (by decide) (fun c_2 => ?_) (fun c_2 => ?_)
    · have hi9 : K = i := (kEx1 hi hK9 c_2).symm
      subst hi9
      refine lv_iload_n hx hb dX0_witchesInAll_56 rfl (lv_at hl 2 rfl) ?_
      exact rd_iret hx hb hr hlocks (by rfl) dX0_witchesInAll_57
    · have hlt : i < 1120 := ltN (by omega) (by omega) rfl c_2
      refine lv_aload_n hx hb dX0_witchesInAll_15 rfl (lv_at hl 0 rfl) ?_
      refine va_get (D := D) (cl := vwCl) (ci := 0) (v := .ref hG) (C := RX0) (T := TX0) (N := 2) hx hb hts in_X0_witchesInAll_X0 hown hK hP 0 rfl rfl 0 (by decide) (hts (.fieldLink RX0 11 "WitchTrial$Book" "pages" "[I") (List.mem_of_getElem? (i := 1) rfl)) (fun _ h9 => h9) rfl dX0_witchesInAll_16 ?_
      refine lv_iload_n hx hb dX0_witchesInAll_19 rfl (lv_at hl 3 rfl) ?_
      refine q_iald (D := D) (j := i) (v := (g i)) hx hb hK hP 1 0 rfl rfl (by omega) (Nat.le_of_ble_eq_true rfl) rfl dX0_witchesInAll_20 ?_
      refine lv_if_eq (tgt := 56) hx hb dX0_witchesInAll_21 (by decide) (fun c_3 => ?_) (fun c_3 => ?_)
      · have hi9 : K = i := (kEx2 hi hg c_3).symm
        subst hi9
        refine lv_iload_n hx hb dX0_witchesInAll_56 rfl (lv_at hl 2 rfl) ?_
        exact rd_iret hx hb hr hlocks (by rfl) dX0_witchesInAll_57
      · have hlK : i < K := kEx3 hi hlt hz c_3
        refine lv_aload_n hx hb dX0_witchesInAll_24 rfl (lv_at hl 0 rfl) ?_
        refine lv_aload_n hx hb dX0_witchesInAll_25 rfl (lv_at hl 0 rfl) ?_
        refine va_get (D := D) (cl := vwCl) (ci := 0) (v := .ref hG) (C := RX0) (T := TX0) (N := 2) hx hb hts in_X0_witchesInAll_X0 hown hK hP 0 rfl rfl 0 (by decide) (hts (.fieldLink RX0 11 "WitchTrial$Book" "pages" "[I") (List.mem_of_getElem? (i := 1) rfl)) (fun _ h9 => h9) rfl dX0_witchesInAll_26 ?_
        refine lv_iload_n hx hb dX0_witchesInAll_29 rfl (lv_at hl 3 rfl) ?_
        refine q_iald (D := D) (j := i) (v := (g i)) hx hb hK hP 1 0 rfl rfl (by omega) (Nat.le_of_ble_eq_true rfl) rfl dX0_witchesInAll_30 ?_
        refine lv_iload_n hx hb dX0_witchesInAll_31 rfl (lv_at hl 1 rfl) ?_
        refine rd_V (b := hB) (As := [.int (g i), .int kn]) (rest := []) ⟨hx, hb, hml, hown, hts⟩ (c_X0_agrees l D cI cZ cJ hB hG tr (g i) kn) (cwV 2 hts gX0_witchesInAll_X0_agrees rfl rfl rfl (by decide +kernel) ⟨Nat.le_of_ble_eq_true rfl, Nat.le_of_ble_eq_true rfl⟩) (hP.sub (ws' := [cB hB hG tr]) [0] rfl) hK hN (va_recv hK hP (ci := 0) (q0 := 0) rfl rfl) rfl hl.1 rfl (Nat.le_of_ble_eq_true rfl) dX0_witchesInAll_32 ⟨Nat.le_of_ble_eq_true rfl, Nat.le_of_ble_eq_true rfl⟩ ?_
        refine lv_if_eq (tgt := 50) hx hb dX0_witchesInAll_35 (by decide) (fun c_4 => ?_) (fun c_4 => ?_)
        · have c_4 : (yAgr (g i) tr kn) = false := bI_0 c_4
          refine lv_iinc (v := (nI (i + 1))) (lv' := [(3, .int (nI (i + 1))), (0, .ref hB), (1, .int kn), (2, .int (yWa g tr kn i))]) hx hb dX0_witchesInAll_50 hl (k := 3) rfl (nI_1 i) (by decide) rfl (fun ls hl => ?_)
          refine lv_goto (tgt := 6) hx hb dX0_witchesInAll_53 (by decide) ?_
          have eb_0 : (yWa g tr kn (i + 1)) = (yWa g tr kn i) := by (first | rfl | (simp only [bI, yWa, c_2, c_3, c_4, eq_self, ↓reduceIte]; done) | (simp only [bI, yWa, c_2, c_3, c_4, eq_self, ↓reduceIte]; rfl) | simp [bI, yWa, c_2, c_3, c_4])
          exact ih_i (by omega) trivial ls (by show lv_has ls 4 [(0, .ref hB), (1, .int kn), (2, .int (yWa g tr kn (i + 1))), (3, .int (nI (i + 1)))]; rw [eb_0]; exact lv_sub hl [1, 2, 3, 0] rfl)
        · have c_4 : (yAgr (g i) tr kn) = true := bI_1 c_4
          refine lv_iload_n hx hb dX0_witchesInAll_38 rfl (lv_at hl 2 rfl) ?_
          refine lv_aload_n hx hb dX0_witchesInAll_39 rfl (lv_at hl 0 rfl) ?_
          refine va_get (D := D) (cl := vwCl) (ci := 0) (v := .ref hG) (C := RX0) (T := TX0) (N := 2) hx hb hts in_X0_witchesInAll_X0 hown hK hP 0 rfl rfl 0 (by decide) (hts (.fieldLink RX0 11 "WitchTrial$Book" "pages" "[I") (List.mem_of_getElem? (i := 1) rfl)) (fun _ h9 => h9) rfl dX0_witchesInAll_40 ?_
          refine lv_iload_n hx hb dX0_witchesInAll_43 rfl (lv_at hl 3 rfl) ?_
          refine q_iald (D := D) (j := i) (v := (g i)) hx hb hK hP 1 0 rfl rfl (by omega) (Nat.le_of_ble_eq_true rfl) rfl dX0_witchesInAll_44 ?_
          refine rd_SN (As := [.int (g i)]) (rest := [.int (yWa g tr kn i)]) ⟨hx, hb, hml, hown, hts⟩ (c_X1_witchesOf l D cI cZ cJ (g i)) ⟨va_cnB 1 hts gX0_witchesInAll_X1_witchesOf_n25 rfl rfl rfl (hN.link 2 rfl) (hts (.initialized RX1) (List.mem_of_getElem? (i := 9) rfl)) (by decide +kernel) ⟨Nat.le_of_ble_eq_true rfl, Nat.le_of_ble_eq_true rfl⟩, (hts (.static yX1_witchesOf) (List.mem_of_getElem? (i := 8) rfl)), trivial⟩ (hP.sub (ws' := []) [] rfl) hK hN rfl hl.1 rfl (Nat.le_of_ble_eq_true rfl) dX0_witchesInAll_45 ⟨Nat.le_of_ble_eq_true rfl, Nat.le_of_ble_eq_true rfl⟩ ?_
          refine lv_iand hx hb dX0_witchesInAll_48 ?_
          refine lv_istore_n (lv' := [(2, .int ((yWa g tr kn i) &&& ((g i) &&& 255))), (0, .ref hB), (1, .int kn), (3, .int (nI i))]) hx hb dX0_witchesInAll_49 rfl hl (by decide) rfl (fun ls hl => ?_)
          refine lv_iinc (v := (nI (i + 1))) (lv' := [(3, .int (nI (i + 1))), (2, .int ((yWa g tr kn i) &&& ((g i) &&& 255))), (0, .ref hB), (1, .int kn)]) hx hb dX0_witchesInAll_50 hl (k := 3) rfl (nI_1 i) (by decide) rfl (fun ls hl => ?_)
          refine lv_goto (tgt := 6) hx hb dX0_witchesInAll_53 (by decide) ?_
          have eb_0 : (yWa g tr kn (i + 1)) = ((yWa g tr kn i) &&& ((g i) &&& 255)) := by (first | rfl | (simp only [bI, yWa, c_2, c_3, c_4, eq_self, ↓reduceIte]; done) | (simp only [bI, yWa, c_2, c_3, c_4, eq_self, ↓reduceIte]; rfl) | simp [bI, yWa, c_2, c_3, c_4])
          exact ih_i (by omega) trivial ls (by show lv_has ls 4 [(0, .ref hB), (1, .int kn), (2, .int (yWa g tr kn (i + 1))), (3, .int (nI (i + 1)))]; rw [eb_0]; exact lv_sub hl [2, 3, 1, 0] rfl)
  · show lv_has ls 4 [(0, .ref hB), (1, .int kn), (2, .int (yWa g tr kn 0)), (3, .int (nI 0))]
    have en_0 : (yWa g tr kn 0) = 255 := by rfl
    rw [en_0]
    have en_1 : (nI 0) = 0 := by exact nI_0
    rw [en_1]
    exact lv_sub hl [2, 3, 1, 0] rfl

theorem in_X0_witchesInAny_X0 : ∀ w ∈ wsX00, w ∈ wsX0_witchesInAny := by decide +kernel
set_option maxHeartbeats 2000000 in
set_option maxRecDepth 100000 in
theorem c_X0_witchesInAny (l : Launch) (D : va_G) (cI cZ cJ : ClassId) (hB : Nat) (hG : Nat) (tr : Int32) (g : Nat → Int32) (kn : Int32) (K : Nat) (hK9 : K ≤ 1120) (hg : ∀ j, j < K → ¬ g j = 0) (hz : K < 1120 → g K = 0) : Rd l D cI cZ cJ yX0_witchesInAny wsX0_witchesInAny 1 22 [.ref hB, .int kn] [cB hB hG tr, cA cI hG 1120 g] (yWy g tr kn K) := by
  refine rd_of (by decide) rfl (Nat.le_of_ble_eq_true rfl) (fun p e s m below meth c ls hx hb hr hml hts hown hlocks hP hK hN hl => ?_)
  have hl : lv_has ls 4 [(0, .ref hB), (1, .int kn)] := hl
  refine lv_iconst (v := 0) hx hb dX0_witchesInAny_0 (by decide) ?_
  refine lv_istore_n (lv' := [(2, .int 0), (0, .ref hB), (1, .int kn)]) hx hb dX0_witchesInAny_1 rfl hl (by decide) rfl (fun ls hl => ?_)
  refine lv_iconst (v := 0) hx hb dX0_witchesInAny_2 (by decide) ?_
  refine lv_istore_n (lv' := [(3, .int 0), (2, .int 0), (0, .ref hB), (1, .int kn)]) hx hb dX0_witchesInAny_3 rfl hl (by decide) rfl (fun ls hl => ?_)
  refine loop_R (nL := 4) (h := 4) K (fun i => [(0, .ref hB), (1, .int kn), (2, .int (yWy g tr kn i)), (3, .int (nI i))]) (fun _ => True) (fun i hi hI ih_i ls hl => ?_) 0 (by omega) trivial ls ?_
  · have hl : lv_has ls 4 [(0, .ref hB), (1, .int kn), (2, .int (yWy g tr kn i)), (3, .int (nI i))] := hl
    refine lv_iload_n hx hb dX0_witchesInAny_4 rfl (lv_at hl 3 rfl) ?_
    refine lv_aload_n hx hb dX0_witchesInAny_5 rfl (lv_at hl 0 rfl) ?_
    refine va_get (D := D) (cl := vwCl) (ci := 0) (v := .ref hG) (C := RX0) (T := TX0) (N := 2) hx hb hts in_X0_witchesInAny_X0 hown hK hP 0 rfl rfl 0 (by decide) (hts (.fieldLink RX0 11 "WitchTrial$Book" "pages" "[I") (List.mem_of_getElem? (i := 1) rfl)) (fun _ h9 => h9) rfl dX0_witchesInAny_6 ?_
    refine va_alen (D := D) (cl := vwCl) hx hb hK hP 1 0 rfl rfl (v := 1120) rfl dX0_witchesInAny_9 ?_
    refine lv_icmp_ge (tgt := 54) hx hb dX0_witchesInAny_10 (by decide) (fun c_2 => ?_) (fun c_2 => ?_)
    · have hi9 : K = i := (kEx1 hi hK9 c_2).symm
      subst hi9
      refine lv_iload_n hx hb dX0_witchesInAny_54 rfl (lv_at hl 2 rfl) ?_
      exact rd_iret hx hb hr hlocks (by rfl) dX0_witchesInAny_55
    · have hlt : i < 1120 := ltN (by omega) (by omega) rfl c_2
      refine lv_aload_n hx hb dX0_witchesInAny_13 rfl (lv_at hl 0 rfl) ?_
      refine va_get (D := D) (cl := vwCl) (ci := 0) (v := .ref hG) (C := RX0) (T := TX0) (N := 2) hx hb hts in_X0_witchesInAny_X0 hown hK hP 0 rfl rfl 0 (by decide) (hts (.fieldLink RX0 11 "WitchTrial$Book" "pages" "[I") (List.mem_of_getElem? (i := 1) rfl)) (fun _ h9 => h9) rfl dX0_witchesInAny_14 ?_
      refine lv_iload_n hx hb dX0_witchesInAny_17 rfl (lv_at hl 3 rfl) ?_
      refine q_iald (D := D) (j := i) (v := (g i)) hx hb hK hP 1 0 rfl rfl (by omega) (Nat.le_of_ble_eq_true rfl) rfl dX0_witchesInAny_18 ?_
      refine lv_if_eq (tgt := 54) hx hb dX0_witchesInAny_19 (by decide) (fun c_3 => ?_) (fun c_3 => ?_)
      · have hi9 : K = i := (kEx2 hi hg c_3).symm
        subst hi9
        refine lv_iload_n hx hb dX0_witchesInAny_54 rfl (lv_at hl 2 rfl) ?_
        exact rd_iret hx hb hr hlocks (by rfl) dX0_witchesInAny_55
      · have hlK : i < K := kEx3 hi hlt hz c_3
        refine lv_aload_n hx hb dX0_witchesInAny_22 rfl (lv_at hl 0 rfl) ?_
        refine lv_aload_n hx hb dX0_witchesInAny_23 rfl (lv_at hl 0 rfl) ?_
        refine va_get (D := D) (cl := vwCl) (ci := 0) (v := .ref hG) (C := RX0) (T := TX0) (N := 2) hx hb hts in_X0_witchesInAny_X0 hown hK hP 0 rfl rfl 0 (by decide) (hts (.fieldLink RX0 11 "WitchTrial$Book" "pages" "[I") (List.mem_of_getElem? (i := 1) rfl)) (fun _ h9 => h9) rfl dX0_witchesInAny_24 ?_
        refine lv_iload_n hx hb dX0_witchesInAny_27 rfl (lv_at hl 3 rfl) ?_
        refine q_iald (D := D) (j := i) (v := (g i)) hx hb hK hP 1 0 rfl rfl (by omega) (Nat.le_of_ble_eq_true rfl) rfl dX0_witchesInAny_28 ?_
        refine lv_iload_n hx hb dX0_witchesInAny_29 rfl (lv_at hl 1 rfl) ?_
        refine rd_V (b := hB) (As := [.int (g i), .int kn]) (rest := []) ⟨hx, hb, hml, hown, hts⟩ (c_X0_agrees l D cI cZ cJ hB hG tr (g i) kn) (cwV 2 hts gX0_witchesInAny_X0_agrees rfl rfl rfl (by decide +kernel) ⟨Nat.le_of_ble_eq_true rfl, Nat.le_of_ble_eq_true rfl⟩) (hP.sub (ws' := [cB hB hG tr]) [0] rfl) hK hN (va_recv hK hP (ci := 0) (q0 := 0) rfl rfl) rfl hl.1 rfl (Nat.le_of_ble_eq_true rfl) dX0_witchesInAny_30 ⟨Nat.le_of_ble_eq_true rfl, Nat.le_of_ble_eq_true rfl⟩ ?_
        refine lv_if_eq (tgt := 48) hx hb dX0_witchesInAny_33 (by decide) (fun c_4 => ?_) (fun c_4 => ?_)
        · have c_4 : (yAgr (g i) tr kn) = false := bI_0 c_4
          refine lv_iinc (v := (nI (i + 1))) (lv' := [(3, .int (nI (i + 1))), (0, .ref hB), (1, .int kn), (2, .int (yWy g tr kn i))]) hx hb dX0_witchesInAny_48 hl (k := 3) rfl (nI_1 i) (by decide) rfl (fun ls hl => ?_)
          refine lv_goto (tgt := 4) hx hb dX0_witchesInAny_51 (by decide) ?_
          have eb_0 : (yWy g tr kn (i + 1)) = (yWy g tr kn i) := by (first | rfl | (simp only [bI, yWy, c_2, c_3, c_4, eq_self, ↓reduceIte]; done) | (simp only [bI, yWy, c_2, c_3, c_4, eq_self, ↓reduceIte]; rfl) | simp [bI, yWy, c_2, c_3, c_4])
          exact ih_i (by omega) trivial ls (by show lv_has ls 4 [(0, .ref hB), (1, .int kn), (2, .int (yWy g tr kn (i + 1))), (3, .int (nI (i + 1)))]; rw [eb_0]; exact lv_sub hl [1, 2, 3, 0] rfl)
        · have c_4 : (yAgr (g i) tr kn) = true := bI_1 c_4
          refine lv_iload_n hx hb dX0_witchesInAny_36 rfl (lv_at hl 2 rfl) ?_
          refine lv_aload_n hx hb dX0_witchesInAny_37 rfl (lv_at hl 0 rfl) ?_
          refine va_get (D := D) (cl := vwCl) (ci := 0) (v := .ref hG) (C := RX0) (T := TX0) (N := 2) hx hb hts in_X0_witchesInAny_X0 hown hK hP 0 rfl rfl 0 (by decide) (hts (.fieldLink RX0 11 "WitchTrial$Book" "pages" "[I") (List.mem_of_getElem? (i := 1) rfl)) (fun _ h9 => h9) rfl dX0_witchesInAny_38 ?_
          refine lv_iload_n hx hb dX0_witchesInAny_41 rfl (lv_at hl 3 rfl) ?_
          refine q_iald (D := D) (j := i) (v := (g i)) hx hb hK hP 1 0 rfl rfl (by omega) (Nat.le_of_ble_eq_true rfl) rfl dX0_witchesInAny_42 ?_
          refine rd_SN (As := [.int (g i)]) (rest := [.int (yWy g tr kn i)]) ⟨hx, hb, hml, hown, hts⟩ (c_X1_witchesOf l D cI cZ cJ (g i)) ⟨va_cnB 1 hts gX0_witchesInAny_X1_witchesOf_n25 rfl rfl rfl (hN.link 2 rfl) (hts (.initialized RX1) (List.mem_of_getElem? (i := 9) rfl)) (by decide +kernel) ⟨Nat.le_of_ble_eq_true rfl, Nat.le_of_ble_eq_true rfl⟩, (hts (.static yX1_witchesOf) (List.mem_of_getElem? (i := 8) rfl)), trivial⟩ (hP.sub (ws' := []) [] rfl) hK hN rfl hl.1 rfl (Nat.le_of_ble_eq_true rfl) dX0_witchesInAny_43 ⟨Nat.le_of_ble_eq_true rfl, Nat.le_of_ble_eq_true rfl⟩ ?_
          refine lv_ior hx hb dX0_witchesInAny_46 ?_
          refine lv_istore_n (lv' := [(2, .int ((yWy g tr kn i) ||| ((g i) &&& 255))), (0, .ref hB), (1, .int kn), (3, .int (nI i))]) hx hb dX0_witchesInAny_47 rfl hl (by decide) rfl (fun ls hl => ?_)
          refine lv_iinc (v := (nI (i + 1))) (lv' := [(3, .int (nI (i + 1))), (2, .int ((yWy g tr kn i) ||| ((g i) &&& 255))), (0, .ref hB), (1, .int kn)]) hx hb dX0_witchesInAny_48 hl (k := 3) rfl (nI_1 i) (by decide) rfl (fun ls hl => ?_)
          refine lv_goto (tgt := 4) hx hb dX0_witchesInAny_51 (by decide) ?_
          have eb_0 : (yWy g tr kn (i + 1)) = ((yWy g tr kn i) ||| ((g i) &&& 255)) := by (first | rfl | (simp only [bI, yWy, c_2, c_3, c_4, eq_self, ↓reduceIte]; done) | (simp only [bI, yWy, c_2, c_3, c_4, eq_self, ↓reduceIte]; rfl) | simp [bI, yWy, c_2, c_3, c_4])
          exact ih_i (by omega) trivial ls (by show lv_has ls 4 [(0, .ref hB), (1, .int kn), (2, .int (yWy g tr kn (i + 1))), (3, .int (nI (i + 1)))]; rw [eb_0]; exact lv_sub hl [2, 3, 1, 0] rfl)
  · show lv_has ls 4 [(0, .ref hB), (1, .int kn), (2, .int (yWy g tr kn 0)), (3, .int (nI 0))]
    have en_0 : (yWy g tr kn 0) = 0 := by rfl
    rw [en_0]
    have en_1 : (nI 0) = 0 := by exact nI_0
    rw [en_1]
    exact lv_sub hl [2, 3, 1, 0] rfl

theorem in_X0_countWitchSets_X0 : ∀ w ∈ wsX00, w ∈ wsX0_countWitchSets := by decide +kernel
set_option maxHeartbeats 2000000 in
set_option maxRecDepth 100000 in
theorem c_X0_countWitchSets (l : Launch) (D : va_G) (cI cZ cJ : ClassId) (hB : Nat) (hG : Nat) (tr : Int32) (g : Nat → Int32) (kn : Int32) (K : Nat) (hK9 : K ≤ 1120) (hg : ∀ j, j < K → ¬ g j = 0) (hz : K < 1120 → g K = 0) : Rd l D cI cZ cJ yX0_countWitchSets wsX0_countWitchSets 1 22 [.ref hB, .int kn] [cB hB hG tr, cA cI hG 1120 g] ((yCs g tr kn K).1) := by
  refine rd_of (by decide) rfl (Nat.le_of_ble_eq_true rfl) (fun p e s m below meth c ls hx hb hr hml hts hown hlocks hP hK hN hl => ?_)
  have hl : lv_has ls 5 [(0, .ref hB), (1, .int kn)] := hl
  refine lv_iconst (v := 0) hx hb dX0_countWitchSets_0 (by decide) ?_
  refine lv_istore_n (lv' := [(2, .int 0), (0, .ref hB), (1, .int kn)]) hx hb dX0_countWitchSets_1 rfl hl (by decide) rfl (fun ls hl => ?_)
  refine lv_iconst (v := 0) hx hb dX0_countWitchSets_2 (by decide) ?_
  refine lv_istore_n (lv' := [(3, .int 0), (2, .int 0), (0, .ref hB), (1, .int kn)]) hx hb dX0_countWitchSets_3 rfl hl (by decide) rfl (fun ls hl => ?_)
  refine lv_iconst (v := 0) hx hb dX0_countWitchSets_4 (by decide) ?_
  refine lv_istore (lv' := [(4, .int 0), (3, .int 0), (2, .int 0), (0, .ref hB), (1, .int kn)]) hx hb dX0_countWitchSets_5 hl (by decide) rfl (fun ls hl => ?_)
  refine loop_R (nL := 5) (h := 7) K (fun i => [(0, .ref hB), (1, .int kn), (2, .int ((yCs g tr kn i).1)), (3, .int ((yCs g tr kn i).2)), (4, .int (nI i))]) (fun _ => True) (fun i hi hI ih_i ls hl => ?_) 0 (by omega) trivial ls ?_
  · have hl : lv_has ls 5 [(0, .ref hB), (1, .int kn), (2, .int ((yCs g tr kn i).1)), (3, .int ((yCs g tr kn i).2)), (4, .int (nI i))] := hl
    refine lv_iload hx hb dX0_countWitchSets_7 (lv_at hl 4 rfl) ?_
    refine lv_aload_n hx hb dX0_countWitchSets_9 rfl (lv_at hl 0 rfl) ?_
    refine va_get (D := D) (cl := vwCl) (ci := 0) (v := .ref hG) (C := RX0) (T := TX0) (N := 2) hx hb hts in_X0_countWitchSets_X0 hown hK hP 0 rfl rfl 0 (by decide) (hts (.fieldLink RX0 11 "WitchTrial$Book" "pages" "[I") (List.mem_of_getElem? (i := 1) rfl)) (fun _ h9 => h9) rfl dX0_countWitchSets_10 ?_
    refine va_alen (D := D) (cl := vwCl) hx hb hK hP 1 0 rfl rfl (v := 1120) rfl dX0_countWitchSets_13 ?_
    refine lv_icmp_ge (tgt := 76) hx hb dX0_countWitchSets_14 (by decide) (fun c_2 => ?_) (fun c_2 => ?_)
    · have hi9 : K = i := (kEx1 hi hK9 c_2).symm
      subst hi9
      refine lv_iload_n hx hb dX0_countWitchSets_76 rfl (lv_at hl 2 rfl) ?_
      exact rd_iret hx hb hr hlocks (by rfl) dX0_countWitchSets_77
    · have hlt : i < 1120 := ltN (by omega) (by omega) rfl c_2
      refine lv_aload_n hx hb dX0_countWitchSets_17 rfl (lv_at hl 0 rfl) ?_
      refine va_get (D := D) (cl := vwCl) (ci := 0) (v := .ref hG) (C := RX0) (T := TX0) (N := 2) hx hb hts in_X0_countWitchSets_X0 hown hK hP 0 rfl rfl 0 (by decide) (hts (.fieldLink RX0 11 "WitchTrial$Book" "pages" "[I") (List.mem_of_getElem? (i := 1) rfl)) (fun _ h9 => h9) rfl dX0_countWitchSets_18 ?_
      refine lv_iload hx hb dX0_countWitchSets_21 (lv_at hl 4 rfl) ?_
      refine q_iald (D := D) (j := i) (v := (g i)) hx hb hK hP 1 0 rfl rfl (by omega) (Nat.le_of_ble_eq_true rfl) rfl dX0_countWitchSets_23 ?_
      refine lv_if_eq (tgt := 76) hx hb dX0_countWitchSets_24 (by decide) (fun c_3 => ?_) (fun c_3 => ?_)
      · have hi9 : K = i := (kEx2 hi hg c_3).symm
        subst hi9
        refine lv_iload_n hx hb dX0_countWitchSets_76 rfl (lv_at hl 2 rfl) ?_
        exact rd_iret hx hb hr hlocks (by rfl) dX0_countWitchSets_77
      · have hlK : i < K := kEx3 hi hlt hz c_3
        refine lv_aload_n hx hb dX0_countWitchSets_27 rfl (lv_at hl 0 rfl) ?_
        refine lv_aload_n hx hb dX0_countWitchSets_28 rfl (lv_at hl 0 rfl) ?_
        refine va_get (D := D) (cl := vwCl) (ci := 0) (v := .ref hG) (C := RX0) (T := TX0) (N := 2) hx hb hts in_X0_countWitchSets_X0 hown hK hP 0 rfl rfl 0 (by decide) (hts (.fieldLink RX0 11 "WitchTrial$Book" "pages" "[I") (List.mem_of_getElem? (i := 1) rfl)) (fun _ h9 => h9) rfl dX0_countWitchSets_29 ?_
        refine lv_iload hx hb dX0_countWitchSets_32 (lv_at hl 4 rfl) ?_
        refine q_iald (D := D) (j := i) (v := (g i)) hx hb hK hP 1 0 rfl rfl (by omega) (Nat.le_of_ble_eq_true rfl) rfl dX0_countWitchSets_34 ?_
        refine lv_iload_n hx hb dX0_countWitchSets_35 rfl (lv_at hl 1 rfl) ?_
        refine rd_V (b := hB) (As := [.int (g i), .int kn]) (rest := []) ⟨hx, hb, hml, hown, hts⟩ (c_X0_agrees l D cI cZ cJ hB hG tr (g i) kn) (cwV 2 hts gX0_countWitchSets_X0_agrees rfl rfl rfl (by decide +kernel) ⟨Nat.le_of_ble_eq_true rfl, Nat.le_of_ble_eq_true rfl⟩) (hP.sub (ws' := [cB hB hG tr]) [0] rfl) hK hN (va_recv hK hP (ci := 0) (q0 := 0) rfl rfl) rfl hl.1 rfl (Nat.le_of_ble_eq_true rfl) dX0_countWitchSets_36 ⟨Nat.le_of_ble_eq_true rfl, Nat.le_of_ble_eq_true rfl⟩ ?_
        refine lv_if_eq (tgt := 70) hx hb dX0_countWitchSets_39 (by decide) (fun c_4 => ?_) (fun c_4 => ?_)
        · have c_4 : (yAgr (g i) tr kn) = false := bI_0 c_4
          refine lv_iinc (v := (nI (i + 1))) (lv' := [(4, .int (nI (i + 1))), (0, .ref hB), (1, .int kn), (2, .int ((yCs g tr kn i).1)), (3, .int ((yCs g tr kn i).2))]) hx hb dX0_countWitchSets_70 hl (k := 4) rfl (nI_1 i) (by decide) rfl (fun ls hl => ?_)
          refine lv_goto (tgt := 7) hx hb dX0_countWitchSets_73 (by decide) ?_
          have eb_0 : (yCs g tr kn (i + 1)).1 = (yCs g tr kn i).1 := by (first | rfl | (simp only [bI, yCs, c_2, c_3, c_4, eq_self, ↓reduceIte]; done) | (simp only [bI, yCs, c_2, c_3, c_4, eq_self, ↓reduceIte]; rfl) | simp [bI, yCs, c_2, c_3, c_4])
          have eb_1 : (yCs g tr kn (i + 1)).2 = (yCs g tr kn i).2 := by (first | rfl | (simp only [bI, yCs, c_2, c_3, c_4, eq_self, ↓reduceIte]; done) | (simp only [bI, yCs, c_2, c_3, c_4, eq_self, ↓reduceIte]; rfl) | simp [bI, yCs, c_2, c_3, c_4])
          exact ih_i (by omega) trivial ls (by show lv_has ls 5 [(0, .ref hB), (1, .int kn), (2, .int ((yCs g tr kn (i + 1)).1)), (3, .int ((yCs g tr kn (i + 1)).2)), (4, .int (nI (i + 1)))]; rw [eb_0]; rw [eb_1]; exact lv_sub hl [1, 2, 3, 4, 0] rfl)
        · have c_4 : (yAgr (g i) tr kn) = true := bI_1 c_4
          refine lv_aload_n hx hb dX0_countWitchSets_42 rfl (lv_at hl 0 rfl) ?_
          refine va_get (D := D) (cl := vwCl) (ci := 0) (v := .ref hG) (C := RX0) (T := TX0) (N := 2) hx hb hts in_X0_countWitchSets_X0 hown hK hP 0 rfl rfl 0 (by decide) (hts (.fieldLink RX0 11 "WitchTrial$Book" "pages" "[I") (List.mem_of_getElem? (i := 1) rfl)) (fun _ h9 => h9) rfl dX0_countWitchSets_43 ?_
          refine lv_iload hx hb dX0_countWitchSets_46 (lv_at hl 4 rfl) ?_
          refine q_iald (D := D) (j := i) (v := (g i)) hx hb hK hP 1 0 rfl rfl (by omega) (Nat.le_of_ble_eq_true rfl) rfl dX0_countWitchSets_48 ?_
          refine rd_SN (As := [.int (g i)]) (rest := []) ⟨hx, hb, hml, hown, hts⟩ (c_X1_witchesOf l D cI cZ cJ (g i)) ⟨va_cnB 1 hts gX0_countWitchSets_X1_witchesOf_n25 rfl rfl rfl (hN.link 2 rfl) (hts (.initialized RX1) (List.mem_of_getElem? (i := 9) rfl)) (by decide +kernel) ⟨Nat.le_of_ble_eq_true rfl, Nat.le_of_ble_eq_true rfl⟩, (hts (.static yX1_witchesOf) (List.mem_of_getElem? (i := 8) rfl)), trivial⟩ (hP.sub (ws' := []) [] rfl) hK hN rfl hl.1 rfl (Nat.le_of_ble_eq_true rfl) dX0_countWitchSets_49 ⟨Nat.le_of_ble_eq_true rfl, Nat.le_of_ble_eq_true rfl⟩ ?_
          refine lv_iload_n hx hb dX0_countWitchSets_52 rfl (lv_at hl 3 rfl) ?_
          refine lv_icmp_eq (tgt := 70) hx hb dX0_countWitchSets_53 (by decide) (fun c_5 => ?_) (fun c_5 => ?_)
          · refine lv_iinc (v := (nI (i + 1))) (lv' := [(4, .int (nI (i + 1))), (0, .ref hB), (1, .int kn), (2, .int ((yCs g tr kn i).1)), (3, .int ((yCs g tr kn i).2))]) hx hb dX0_countWitchSets_70 hl (k := 4) rfl (nI_1 i) (by decide) rfl (fun ls hl => ?_)
            refine lv_goto (tgt := 7) hx hb dX0_countWitchSets_73 (by decide) ?_
            have eb_0 : (yCs g tr kn (i + 1)).1 = (yCs g tr kn i).1 := by (first | rfl | (simp only [bI, yCs, c_2, c_3, c_4, c_5, eq_self, ↓reduceIte]; done) | (simp only [bI, yCs, c_2, c_3, c_4, c_5, eq_self, ↓reduceIte]; rfl) | (simp only [bI, yCs, c_2, c_3, c_4, eq_true c_5, eq_self, ↓reduceIte]; done) | (simp only [bI, yCs, c_2, c_3, c_4, eq_true c_5, eq_self, ↓reduceIte]; rfl) | (simp [bI, yCs, c_2, c_3, c_4, eq_true c_5]; done) | simp [bI, yCs, c_2, c_3, c_4, c_5])
            have eb_1 : (yCs g tr kn (i + 1)).2 = (yCs g tr kn i).2 := by (first | rfl | (simp only [bI, yCs, c_2, c_3, c_4, c_5, eq_self, ↓reduceIte]; done) | (simp only [bI, yCs, c_2, c_3, c_4, c_5, eq_self, ↓reduceIte]; rfl) | (simp only [bI, yCs, c_2, c_3, c_4, eq_true c_5, eq_self, ↓reduceIte]; done) | (simp only [bI, yCs, c_2, c_3, c_4, eq_true c_5, eq_self, ↓reduceIte]; rfl) | (simp [bI, yCs, c_2, c_3, c_4, eq_true c_5]; done) | simp [bI, yCs, c_2, c_3, c_4, c_5])
            exact ih_i (by omega) trivial ls (by show lv_has ls 5 [(0, .ref hB), (1, .int kn), (2, .int ((yCs g tr kn (i + 1)).1)), (3, .int ((yCs g tr kn (i + 1)).2)), (4, .int (nI (i + 1)))]; rw [eb_0]; rw [eb_1]; exact lv_sub hl [1, 2, 3, 4, 0] rfl)
          · refine lv_aload_n hx hb dX0_countWitchSets_56 rfl (lv_at hl 0 rfl) ?_
            refine va_get (D := D) (cl := vwCl) (ci := 0) (v := .ref hG) (C := RX0) (T := TX0) (N := 2) hx hb hts in_X0_countWitchSets_X0 hown hK hP 0 rfl rfl 0 (by decide) (hts (.fieldLink RX0 11 "WitchTrial$Book" "pages" "[I") (List.mem_of_getElem? (i := 1) rfl)) (fun _ h9 => h9) rfl dX0_countWitchSets_57 ?_
            refine lv_iload hx hb dX0_countWitchSets_60 (lv_at hl 4 rfl) ?_
            refine q_iald (D := D) (j := i) (v := (g i)) hx hb hK hP 1 0 rfl rfl (by omega) (Nat.le_of_ble_eq_true rfl) rfl dX0_countWitchSets_62 ?_
            refine rd_SN (As := [.int (g i)]) (rest := []) ⟨hx, hb, hml, hown, hts⟩ (c_X1_witchesOf l D cI cZ cJ (g i)) ⟨va_cnB 1 hts gX0_countWitchSets_X1_witchesOf_n25 rfl rfl rfl (hN.link 2 rfl) (hts (.initialized RX1) (List.mem_of_getElem? (i := 9) rfl)) (by decide +kernel) ⟨Nat.le_of_ble_eq_true rfl, Nat.le_of_ble_eq_true rfl⟩, (hts (.static yX1_witchesOf) (List.mem_of_getElem? (i := 8) rfl)), trivial⟩ (hP.sub (ws' := []) [] rfl) hK hN rfl hl.1 rfl (Nat.le_of_ble_eq_true rfl) dX0_countWitchSets_63 ⟨Nat.le_of_ble_eq_true rfl, Nat.le_of_ble_eq_true rfl⟩ ?_
            refine lv_istore_n (lv' := [(3, .int ((g i) &&& 255)), (0, .ref hB), (1, .int kn), (2, .int ((yCs g tr kn i).1)), (4, .int (nI i))]) hx hb dX0_countWitchSets_66 rfl hl (by decide) rfl (fun ls hl => ?_)
            refine lv_iinc (v := ((yCs g tr kn i).1 + 1)) (lv' := [(2, .int ((yCs g tr kn i).1 + 1)), (3, .int ((g i) &&& 255)), (0, .ref hB), (1, .int kn), (4, .int (nI i))]) hx hb dX0_countWitchSets_67 hl (k := 3) rfl rfl (by decide) rfl (fun ls hl => ?_)
            refine lv_iinc (v := (nI (i + 1))) (lv' := [(4, .int (nI (i + 1))), (2, .int ((yCs g tr kn i).1 + 1)), (3, .int ((g i) &&& 255)), (0, .ref hB), (1, .int kn)]) hx hb dX0_countWitchSets_70 hl (k := 4) rfl (nI_1 i) (by decide) rfl (fun ls hl => ?_)
            refine lv_goto (tgt := 7) hx hb dX0_countWitchSets_73 (by decide) ?_
            have eb_0 : (yCs g tr kn (i + 1)).1 = ((yCs g tr kn i).1 + 1) := by (first | rfl | (simp only [bI, yCs, c_2, c_3, c_4, c_5, eq_self, ↓reduceIte]; done) | (simp only [bI, yCs, c_2, c_3, c_4, c_5, eq_self, ↓reduceIte]; rfl) | simp [bI, yCs, c_2, c_3, c_4, c_5])
            have eb_1 : (yCs g tr kn (i + 1)).2 = ((g i) &&& 255) := by (first | rfl | (simp only [bI, yCs, c_2, c_3, c_4, c_5, eq_self, ↓reduceIte]; done) | (simp only [bI, yCs, c_2, c_3, c_4, c_5, eq_self, ↓reduceIte]; rfl) | simp [bI, yCs, c_2, c_3, c_4, c_5])
            exact ih_i (by omega) trivial ls (by show lv_has ls 5 [(0, .ref hB), (1, .int kn), (2, .int ((yCs g tr kn (i + 1)).1)), (3, .int ((yCs g tr kn (i + 1)).2)), (4, .int (nI (i + 1)))]; rw [eb_0]; rw [eb_1]; exact lv_sub hl [3, 4, 1, 2, 0] rfl)
  · show lv_has ls 5 [(0, .ref hB), (1, .int kn), (2, .int ((yCs g tr kn 0).1)), (3, .int ((yCs g tr kn 0).2)), (4, .int (nI 0))]
    have en_0 : (yCs g tr kn 0).1 = 0 := by rfl
    rw [en_0]
    have en_1 : (yCs g tr kn 0).2 = 0 := by rfl
    rw [en_1]
    have en_2 : (nI 0) = 0 := by exact nI_0
    rw [en_2]
    exact lv_sub hl [3, 4, 2, 1, 0] rfl

theorem in_X0_contains_X0 : ∀ w ∈ wsX00, w ∈ wsX0_contains := by decide +kernel
set_option maxHeartbeats 2000000 in
set_option maxRecDepth 100000 in
theorem c_X0_contains (l : Launch) (D : va_G) (cI cZ cJ : ClassId) (hB : Nat) (hG : Nat) (tr : Int32) (g : Nat → Int32) (wd : Int32) (kn : Int32) (K : Nat) (hK9 : K ≤ 1120) (hg : ∀ j, j < K → ¬ g j = 0) (hz : K < 1120 → g K = 0) : Rd l D cI cZ cJ yX0_contains wsX0_contains 1 22 [.ref hB, .int wd, .int kn] [cB hB hG tr, cA cI hG 1120 g] (bI (yHs g wd K && yAgr wd tr kn)) := by
  refine rd_of (by decide) rfl (Nat.le_of_ble_eq_true rfl) (fun p e s m below meth c ls hx hb hr hml hts hown hlocks hP hK hN hl => ?_)
  have hl : lv_has ls 4 [(0, .ref hB), (1, .int wd), (2, .int kn)] := hl
  refine lv_iconst (v := 0) hx hb dX0_contains_0 (by decide) ?_
  refine lv_istore_n (lv' := [(3, .int 0), (0, .ref hB), (1, .int wd), (2, .int kn)]) hx hb dX0_contains_1 rfl hl (by decide) rfl (fun ls hl => ?_)
  refine loop_R (nL := 4) (h := 2) K (fun i => [(0, .ref hB), (1, .int wd), (2, .int kn), (3, .int (nI i))]) (fun i => yHs g wd i = false) (fun i hi hI ih_i ls hl => ?_) 0 (by omega) rfl ls ?_
  · have hl : lv_has ls 4 [(0, .ref hB), (1, .int wd), (2, .int kn), (3, .int (nI i))] := hl
    refine lv_iload_n hx hb dX0_contains_2 rfl (lv_at hl 3 rfl) ?_
    refine lv_aload_n hx hb dX0_contains_3 rfl (lv_at hl 0 rfl) ?_
    refine va_get (D := D) (cl := vwCl) (ci := 0) (v := .ref hG) (C := RX0) (T := TX0) (N := 2) hx hb hts in_X0_contains_X0 hown hK hP 0 rfl rfl 0 (by decide) (hts (.fieldLink RX0 11 "WitchTrial$Book" "pages" "[I") (List.mem_of_getElem? (i := 1) rfl)) (fun _ h9 => h9) rfl dX0_contains_4 ?_
    refine va_alen (D := D) (cl := vwCl) hx hb hK hP 1 0 rfl rfl (v := 1120) rfl dX0_contains_7 ?_
    refine lv_icmp_ge (tgt := 43) hx hb dX0_contains_8 (by decide) (fun c_2 => ?_) (fun c_2 => ?_)
    · have hi9 : K = i := (kEx1 hi hK9 c_2).symm
      subst hi9
      refine lv_iconst (v := 0) hx hb dX0_contains_43 (by decide) ?_
      exact rd_zret hx hb hr hlocks (by simp [hI, bI]) rfl dX0_contains_44
    · have hlt : i < 1120 := ltN (by omega) (by omega) rfl c_2
      refine lv_aload_n hx hb dX0_contains_11 rfl (lv_at hl 0 rfl) ?_
      refine va_get (D := D) (cl := vwCl) (ci := 0) (v := .ref hG) (C := RX0) (T := TX0) (N := 2) hx hb hts in_X0_contains_X0 hown hK hP 0 rfl rfl 0 (by decide) (hts (.fieldLink RX0 11 "WitchTrial$Book" "pages" "[I") (List.mem_of_getElem? (i := 1) rfl)) (fun _ h9 => h9) rfl dX0_contains_12 ?_
      refine lv_iload_n hx hb dX0_contains_15 rfl (lv_at hl 3 rfl) ?_
      refine q_iald (D := D) (j := i) (v := (g i)) hx hb hK hP 1 0 rfl rfl (by omega) (Nat.le_of_ble_eq_true rfl) rfl dX0_contains_16 ?_
      refine lv_if_eq (tgt := 43) hx hb dX0_contains_17 (by decide) (fun c_3 => ?_) (fun c_3 => ?_)
      · have hi9 : K = i := (kEx2 hi hg c_3).symm
        subst hi9
        refine lv_iconst (v := 0) hx hb dX0_contains_43 (by decide) ?_
        exact rd_zret hx hb hr hlocks (by simp [hI, bI]) rfl dX0_contains_44
      · have hlK : i < K := kEx3 hi hlt hz c_3
        refine lv_aload_n hx hb dX0_contains_20 rfl (lv_at hl 0 rfl) ?_
        refine va_get (D := D) (cl := vwCl) (ci := 0) (v := .ref hG) (C := RX0) (T := TX0) (N := 2) hx hb hts in_X0_contains_X0 hown hK hP 0 rfl rfl 0 (by decide) (hts (.fieldLink RX0 11 "WitchTrial$Book" "pages" "[I") (List.mem_of_getElem? (i := 1) rfl)) (fun _ h9 => h9) rfl dX0_contains_21 ?_
        refine lv_iload_n hx hb dX0_contains_24 rfl (lv_at hl 3 rfl) ?_
        refine q_iald (D := D) (j := i) (v := (g i)) hx hb hK hP 1 0 rfl rfl (by omega) (Nat.le_of_ble_eq_true rfl) rfl dX0_contains_25 ?_
        refine lv_iload_n hx hb dX0_contains_26 rfl (lv_at hl 1 rfl) ?_
        refine lv_icmp_ne (tgt := 37) hx hb dX0_contains_27 (by decide) (fun c_4 => ?_) (fun c_4 => ?_)
        · refine lv_iinc (v := (nI (i + 1))) (lv' := [(3, .int (nI (i + 1))), (0, .ref hB), (1, .int wd), (2, .int kn)]) hx hb dX0_contains_37 hl (k := 3) rfl (nI_1 i) (by decide) rfl (fun ls hl => ?_)
          refine lv_goto (tgt := 2) hx hb dX0_contains_40 (by decide) ?_
          exact ih_i (by omega) (by simp [yHs, hI, c_4]) ls (by show lv_has ls 4 [(0, .ref hB), (1, .int wd), (2, .int kn), (3, .int (nI (i + 1)))]; exact lv_sub hl [1, 2, 3, 0] rfl)
        · refine lv_aload_n hx hb dX0_contains_30 rfl (lv_at hl 0 rfl) ?_
          refine lv_iload_n hx hb dX0_contains_31 rfl (lv_at hl 1 rfl) ?_
          refine lv_iload_n hx hb dX0_contains_32 rfl (lv_at hl 2 rfl) ?_
          refine rd_V (b := hB) (As := [.int wd, .int kn]) (rest := []) ⟨hx, hb, hml, hown, hts⟩ (c_X0_agrees l D cI cZ cJ hB hG tr wd kn) (cwV 2 hts gX0_contains_X0_agrees rfl rfl rfl (by decide +kernel) ⟨Nat.le_of_ble_eq_true rfl, Nat.le_of_ble_eq_true rfl⟩) (hP.sub (ws' := [cB hB hG tr]) [0] rfl) hK hN (va_recv hK hP (ci := 0) (q0 := 0) rfl rfl) rfl hl.1 rfl (Nat.le_of_ble_eq_true rfl) dX0_contains_33 ⟨Nat.le_of_ble_eq_true rfl, Nat.le_of_ble_eq_true rfl⟩ ?_
          exact rd_zret hx hb hr hlocks (by simp [yHs_of c_4 K (by omega)]) (bI_nar _) dX0_contains_36
  · show lv_has ls 4 [(0, .ref hB), (1, .int wd), (2, .int kn), (3, .int (nI 0))]
    have en_0 : (nI 0) = 0 := by exact nI_0
    rw [en_0]
    exact lv_sub hl [1, 2, 3, 0] rfl
