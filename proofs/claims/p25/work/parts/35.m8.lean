set_option maxHeartbeats 2000000 in
set_option maxRecDepth 100000 in
theorem t_X1_requireGame (l : Launch) (D : va_G) (cI cZ cJ : ClassId) (sz : Nat) (hst : l.stackTraces = false) (hT : Nat) (hB : Nat) (hV : Nat) (a : Nat → Int32) (hk : a 0 = 0) : Ty l D cI cZ cJ yX1_requireGame wsX1_requireGame 6 90 sz [.ref hT] [cT hT hB hV a] (1) := by
  refine ty_of (by decide) rfl (Nat.le_of_ble_eq_true rfl) (fun p e s m below meth c ls A hx hb hr hml hts hown hlocks hout hP hK hN hD hA hS hZ hY hl => ?_)
  have hl : lv_has ls 1 [(0, .ref hT)] := hl
  refine lv_aload_n hx hb dX1_requireGame_0 rfl (lv_at hl 0 rfl) ?_
  refine va_get (D := D) (cl := vwCl) (ci := 1) (v := .int (a 0)) (C := RX1) (T := TX1) (N := 14) hx hb hts in_X1_requireGame_X1 hown hK hP 0 rfl rfl 2 (by decide) (hts (.fieldLink RX1 20 "WitchTrial" "phase" "I") (List.mem_of_getElem? (i := 3) rfl)) (fun _ h9 => h9) rfl dX1_requireGame_1 ?_
  refine lv_if_ne (tgt := 17) hx hb dX1_requireGame_4 (by decide) (fun c_1 => ?_) (fun c_1 => ?_)
  · exact absurd hk c_1
  · exact ty_throw (E := "java/lang/IllegalStateException") hx hb hst hown rfl (by decide +kernel) (hts (.classLink RX1 171 "java/lang/IllegalStateException") (List.mem_of_getElem? (i := 1) rfl)) (hts (.initialized "java/lang/IllegalStateException") (List.mem_of_getElem? (i := 2) rfl)) hN hY 8 rfl 0 rfl (fun w h => hts w (List.mem_cons_of_mem _ (List.mem_append_right _ h))) (by decide +kernel) (by decide +kernel) hZ hS hP (hl.1.trans hml.symm) dX1_requireGame_7 dX1_requireGame_10 dX1_requireGame_11 dX1_requireGame_13 dX1_requireGame_16 hout (Nat.le_of_ble_eq_true rfl) (Nat.le_of_ble_eq_true rfl) (Nat.le_of_ble_eq_true rfl) (Nat.le_of_ble_eq_true rfl) hlocks

set_option maxHeartbeats 2000000 in
set_option maxRecDepth 100000 in
theorem t_X1_requirePhase (l : Launch) (D : va_G) (cI cZ cJ : ClassId) (sz : Nat) (hst : l.stackTraces = false) (hT : Nat) (hB : Nat) (hV : Nat) (a : Nat → Int32) (k : Int32) (hk : ¬ a 0 = k) : Ty l D cI cZ cJ yX1_requirePhase wsX1_requirePhase 6 90 sz [.ref hT, .int k] [cT hT hB hV a] (1) := by
  refine ty_of (by decide) rfl (Nat.le_of_ble_eq_true rfl) (fun p e s m below meth c ls A hx hb hr hml hts hown hlocks hout hP hK hN hD hA hS hZ hY hl => ?_)
  have hl : lv_has ls 2 [(0, .ref hT), (1, .int k)] := hl
  refine lv_aload_n hx hb dX1_requirePhase_0 rfl (lv_at hl 0 rfl) ?_
  refine va_get (D := D) (cl := vwCl) (ci := 1) (v := .int (a 0)) (C := RX1) (T := TX1) (N := 14) hx hb hts in_X1_requirePhase_X1 hown hK hP 0 rfl rfl 2 (by decide) (hts (.fieldLink RX1 20 "WitchTrial" "phase" "I") (List.mem_of_getElem? (i := 3) rfl)) (fun _ h9 => h9) rfl dX1_requirePhase_1 ?_
  refine lv_iload_n hx hb dX1_requirePhase_4 rfl (lv_at hl 1 rfl) ?_
  refine lv_icmp_eq (tgt := 18) hx hb dX1_requirePhase_5 (by decide) (fun c_1 => ?_) (fun c_1 => ?_)
  · exact absurd c_1 hk
  · exact ty_throw (E := "java/lang/IllegalStateException") hx hb hst hown rfl (by decide +kernel) (hts (.classLink RX1 171 "java/lang/IllegalStateException") (List.mem_of_getElem? (i := 1) rfl)) (hts (.initialized "java/lang/IllegalStateException") (List.mem_of_getElem? (i := 2) rfl)) hN hY 9 rfl 0 rfl (fun w h => hts w (List.mem_cons_of_mem _ (List.mem_append_right _ h))) (by decide +kernel) (by decide +kernel) hZ hS hP (hl.1.trans hml.symm) dX1_requirePhase_8 dX1_requirePhase_11 dX1_requirePhase_12 dX1_requirePhase_14 dX1_requirePhase_17 hout (Nat.le_of_ble_eq_true rfl) (Nat.le_of_ble_eq_true rfl) (Nat.le_of_ble_eq_true rfl) (Nat.le_of_ble_eq_true rfl) hlocks

set_option maxHeartbeats 2000000 in
set_option maxRecDepth 100000 in
theorem t_X1_requireToLive (l : Launch) (D : va_G) (cI cZ cJ : ClassId) (sz : Nat) (hst : l.stackTraces = false) (hT : Nat) (hB : Nat) (hV : Nat) (a : Nat → Int32) (q : Int32) (hk : yIn (a 6) q = false) : Ty l D cI cZ cJ yX1_requireToLive wsX1_requireToLive 6 90 sz [.ref hT, .int q] [cT hT hB hV a] (1) := by
  refine ty_of (by decide) rfl (Nat.le_of_ble_eq_true rfl) (fun p e s m below meth c ls A hx hb hr hml hts hown hlocks hout hP hK hN hD hA hS hZ hY hl => ?_)
  have hl : lv_has ls 2 [(0, .ref hT), (1, .int q)] := hl
  refine lv_aload_n hx hb dX1_requireToLive_0 rfl (lv_at hl 0 rfl) ?_
  refine lv_iload_n hx hb dX1_requireToLive_1 rfl (lv_at hl 1 rfl) ?_
  refine rd_V (b := hT) (As := [.int q]) (rest := []) ⟨hx, hb, hml, hown, hts⟩ (c_X1_isAlive l D cI cZ cJ hT hB hV a q) (cwV 1 hts gX1_requireToLive_X1_isAlive rfl rfl rfl (by decide +kernel) ⟨Nat.le_of_ble_eq_true rfl, Nat.le_of_ble_eq_true rfl⟩) (hP.sub (ws' := [cT hT hB hV a]) [0] rfl) hK hN (va_recv hK hP (ci := 1) (q0 := 0) rfl rfl) rfl hl.1 rfl (Nat.le_of_ble_eq_true rfl) dX1_requireToLive_2 ⟨Nat.le_of_ble_eq_true rfl, Nat.le_of_ble_eq_true rfl⟩ ?_
  refine lv_if_ne (tgt := 18) hx hb dX1_requireToLive_5 (by decide) (fun c_1 => ?_) (fun c_1 => ?_)
  · have c_1 : (yIn (a 6) q) = true := bI_1 c_1
    simp [hk] at c_1
  · have c_1 : (yIn (a 6) q) = false := bI_0 c_1
    exact ty_throw (E := "java/lang/IllegalStateException") hx hb hst hown rfl (by decide +kernel) (hts (.classLink RX1 171 "java/lang/IllegalStateException") (List.mem_of_getElem? (i := 1) rfl)) (hts (.initialized "java/lang/IllegalStateException") (List.mem_of_getElem? (i := 2) rfl)) hN hY 10 rfl 0 rfl (fun w h => hts w (List.mem_cons_of_mem _ (List.mem_append_right _ h))) (by decide +kernel) (by decide +kernel) hZ hS hP (hl.1.trans hml.symm) dX1_requireToLive_8 dX1_requireToLive_11 dX1_requireToLive_12 dX1_requireToLive_14 dX1_requireToLive_17 hout (Nat.le_of_ble_eq_true rfl) (Nat.le_of_ble_eq_true rfl) (Nat.le_of_ble_eq_true rfl) (Nat.le_of_ble_eq_true rfl) hlocks

set_option maxHeartbeats 2000000 in
set_option maxRecDepth 100000 in
theorem t_X1_requirePlayer (l : Launch) (D : va_G) (cI cZ cJ : ClassId) (sz : Nat) (hst : l.stackTraces = false) (hT : Nat) (hB : Nat) (hV : Nat) (a : Nat → Int32) (q : Int32) (hk : yPl a q = false) : Ty l D cI cZ cJ yX1_requirePlayer wsX1_requirePlayer 6 90 sz [.ref hT, .int q] [cT hT hB hV a] (2) := by
  refine ty_of (by decide) rfl (Nat.le_of_ble_eq_true rfl) (fun p e s m below meth c ls A hx hb hr hml hts hown hlocks hout hP hK hN hD hA hS hZ hY hl => ?_)
  have hl : lv_has ls 2 [(0, .ref hT), (1, .int q)] := hl
  refine lv_iload_n hx hb dX1_requirePlayer_0 rfl (lv_at hl 1 rfl) ?_
  refine lv_if_lt (tgt := 12) hx hb dX1_requirePlayer_1 (by decide) (fun c_1 => ?_) (fun c_1 => ?_)
  · exact ty_throw (E := "java/lang/IndexOutOfBoundsException") hx hb hst hown rfl (by decide +kernel) (hts (.classLink RX1 180 "java/lang/IndexOutOfBoundsException") (List.mem_of_getElem? (i := 1) rfl)) (hts (.initialized "java/lang/IndexOutOfBoundsException") (List.mem_of_getElem? (i := 2) rfl)) hN hY 11 rfl 1 rfl (fun w h => hts w (List.mem_cons_of_mem _ (List.mem_append_right _ h))) (by decide +kernel) (by decide +kernel) hZ hS hP (hl.1.trans hml.symm) dX1_requirePlayer_12 dX1_requirePlayer_15 dX1_requirePlayer_16 dX1_requirePlayer_18 dX1_requirePlayer_21 hout (Nat.le_of_ble_eq_true rfl) (Nat.le_of_ble_eq_true rfl) (Nat.le_of_ble_eq_true rfl) (Nat.le_of_ble_eq_true rfl) hlocks
  · refine lv_iload_n hx hb dX1_requirePlayer_4 rfl (lv_at hl 1 rfl) ?_
    refine lv_aload_n hx hb dX1_requirePlayer_5 rfl (lv_at hl 0 rfl) ?_
    refine va_get (D := D) (cl := vwCl) (ci := 1) (v := .int (a 2)) (C := RX1) (T := TX1) (N := 14) hx hb hts in_X1_requirePlayer_X1 hown hK hP 0 rfl rfl 4 (by decide) (hts (.fieldLink RX1 47 "WitchTrial" "playerCount" "I") (List.mem_of_getElem? (i := 3) rfl)) (fun _ h9 => h9) rfl dX1_requirePlayer_6 ?_
    refine lv_icmp_lt (tgt := 22) hx hb dX1_requirePlayer_9 (by decide) (fun c_2 => ?_) (fun c_2 => ?_)
    · exact absurd hk (by simp [yPl, bI, c_1, c_2])
    · exact ty_throw (E := "java/lang/IndexOutOfBoundsException") hx hb hst hown rfl (by decide +kernel) (hts (.classLink RX1 180 "java/lang/IndexOutOfBoundsException") (List.mem_of_getElem? (i := 1) rfl)) (hts (.initialized "java/lang/IndexOutOfBoundsException") (List.mem_of_getElem? (i := 2) rfl)) hN hY 11 rfl 1 rfl (fun w h => hts w (List.mem_cons_of_mem _ (List.mem_append_right _ h))) (by decide +kernel) (by decide +kernel) hZ hS hP (hl.1.trans hml.symm) dX1_requirePlayer_12 dX1_requirePlayer_15 dX1_requirePlayer_16 dX1_requirePlayer_18 dX1_requirePlayer_21 hout (Nat.le_of_ble_eq_true rfl) (Nat.le_of_ble_eq_true rfl) (Nat.le_of_ble_eq_true rfl) (Nat.le_of_ble_eq_true rfl) hlocks

set_option maxHeartbeats 2000000 in
set_option maxRecDepth 100000 in
theorem t_X1_requireViewer (l : Launch) (D : va_G) (cI cZ cJ : ClassId) (sz : Nat) (hst : l.stackTraces = false) (hT : Nat) (hB : Nat) (hV : Nat) (a : Nat → Int32) (q : Int32) (hk : yVw a q = false) : Ty l D cI cZ cJ yX1_requireViewer wsX1_requireViewer 7 111 sz [.ref hT, .int q] [cT hT hB hV a] (2) := by
  refine ty_of (by decide) rfl (Nat.le_of_ble_eq_true rfl) (fun p e s m below meth c ls A hx hb hr hml hts hown hlocks hout hP hK hN hD hA hS hZ hY hl => ?_)
  have hl : lv_has ls 2 [(0, .ref hT), (1, .int q)] := hl
  refine lv_iload_n hx hb dX1_requireViewer_0 rfl (lv_at hl 1 rfl) ?_
  refine lv_iconst (v := (-1)) hx hb dX1_requireViewer_1 (by decide) ?_
  refine lv_icmp_eq (tgt := 10) hx hb dX1_requireViewer_2 (by decide) (fun c_1 => ?_) (fun c_1 => ?_)
  · simp [yVw, c_1] at hk
  · refine lv_aload_n hx hb dX1_requireViewer_5 rfl (lv_at hl 0 rfl) ?_
    refine lv_iload_n hx hb dX1_requireViewer_6 rfl (lv_at hl 1 rfl) ?_
    exact ty_V (b := hT) (As := [.int q]) (rest := []) ⟨hx, hb, hml, hown, hts⟩ (t_X1_requirePlayer l D cI cZ cJ _ hst hT hB hV a q (by simpa [yVw, c_1] using hk)) (cwV 1 hts gX1_requireViewer_X1_requirePlayer rfl rfl rfl (by decide +kernel) ⟨Nat.le_of_ble_eq_true rfl, Nat.le_of_ble_eq_true rfl⟩) hP hD hK hN hY hS hA hZ (va_recv hK hP (ci := 1) (q0 := 0) rfl rfl) rfl hl.1 rfl (Nat.le_of_ble_eq_true rfl) dX1_requireViewer_7 ⟨Nat.le_of_ble_eq_true rfl, Nat.le_of_ble_eq_true rfl⟩ [0] [] rfl rfl 1 rfl (by decide) (by decide) hout hlocks

set_option maxHeartbeats 2000000 in
set_option maxRecDepth 100000 in
theorem t_X1_makeClaim (l : Launch) (D : va_G) (cI cZ cJ : ClassId) (sz : Nat) (hst : l.stackTraces = false) (hT : Nat) (hB : Nat) (hV : Nat) (a : Nat → Int32) (hG : Nat) (tr : Int32) (q : Int32) (bits : Int32) (b : Bool) (hk : yMay a tr q bits b = false) : Ty l D cI cZ cJ yX1_makeClaim wsX1_makeClaim 6 90 sz [.ref hT, .int q, .int bits, .int (bI b)] [cT hT hB hV a, cB hB hG tr] (4) := by
  refine ty_of (by decide) rfl (Nat.le_of_ble_eq_true rfl) (fun p e s m below meth c ls A hx hb hr hml hts hown hlocks hout hP hK hN hD hA hS hZ hY hl => ?_)
  have hl : lv_has ls 4 [(0, .ref hT), (1, .int q), (2, .int bits), (3, .int (bI b))] := hl
  refine lv_aload_n hx hb dX1_makeClaim_0 rfl (lv_at hl 0 rfl) ?_
  refine va_get (D := D) (cl := vwCl) (ci := 1) (v := .int (a 0)) (C := RX1) (T := TX1) (N := 14) hx hb hts in_X1_makeClaim_X1 hown hK hP 0 rfl rfl 2 (by decide) (hts (.fieldLink RX1 20 "WitchTrial" "phase" "I") (List.mem_of_getElem? (i := 3) rfl)) (fun _ h9 => h9) rfl dX1_makeClaim_1 ?_
  refine lv_iconst (v := 1) hx hb dX1_makeClaim_4 (by decide) ?_
  refine lv_icmp_ne (tgt := 29) hx hb dX1_makeClaim_5 (by decide) (fun c_1 => ?_) (fun c_1 => ?_)
  · exact ty_throwN hx hb hst hown (hts (.classLink RX1 201 "java/util/NoSuchElementException") (List.mem_of_getElem? (i := 1) rfl)) (hts (.initialized "java/util/NoSuchElementException") (List.mem_of_getElem? (i := 2) rfl)) hN hY (fun w h => hts w (List.mem_cons_of_mem _ (List.mem_append_right _ h))) hZ hS hP (hl.1.trans hml.symm) dX1_makeClaim_29 dX1_makeClaim_32 dX1_makeClaim_33 dX1_makeClaim_35 dX1_makeClaim_38 hout (Nat.le_of_ble_eq_true rfl) (Nat.le_of_ble_eq_true rfl) (Nat.le_of_ble_eq_true rfl) (Nat.le_of_ble_eq_true rfl) hlocks
  · refine lv_aload_n hx hb dX1_makeClaim_8 rfl (lv_at hl 0 rfl) ?_
    refine lv_iload_n hx hb dX1_makeClaim_9 rfl (lv_at hl 1 rfl) ?_
    refine rd_V (b := hT) (As := [.int q]) (rest := []) ⟨hx, hb, hml, hown, hts⟩ (c_X1_isAlive l D cI cZ cJ hT hB hV a q) (cwV 1 hts gX1_makeClaim_X1_isAlive rfl rfl rfl (by decide +kernel) ⟨Nat.le_of_ble_eq_true rfl, Nat.le_of_ble_eq_true rfl⟩) (hP.sub (ws' := [cT hT hB hV a]) [0] rfl) hK hN (va_recv hK hP (ci := 1) (q0 := 0) rfl rfl) rfl hl.1 rfl (Nat.le_of_ble_eq_true rfl) dX1_makeClaim_10 ⟨Nat.le_of_ble_eq_true rfl, Nat.le_of_ble_eq_true rfl⟩ ?_
    refine lv_if_eq (tgt := 29) hx hb dX1_makeClaim_13 (by decide) (fun c_2 => ?_) (fun c_2 => ?_)
    · have c_2 : (yIn (a 6) q) = false := bI_0 c_2
      exact ty_throwN hx hb hst hown (hts (.classLink RX1 201 "java/util/NoSuchElementException") (List.mem_of_getElem? (i := 1) rfl)) (hts (.initialized "java/util/NoSuchElementException") (List.mem_of_getElem? (i := 2) rfl)) hN hY (fun w h => hts w (List.mem_cons_of_mem _ (List.mem_append_right _ h))) hZ hS hP (hl.1.trans hml.symm) dX1_makeClaim_29 dX1_makeClaim_32 dX1_makeClaim_33 dX1_makeClaim_35 dX1_makeClaim_38 hout (Nat.le_of_ble_eq_true rfl) (Nat.le_of_ble_eq_true rfl) (Nat.le_of_ble_eq_true rfl) (Nat.le_of_ble_eq_true rfl) hlocks
    · have c_2 : (yIn (a 6) q) = true := bI_1 c_2
      refine lv_aload_n hx hb dX1_makeClaim_16 rfl (lv_at hl 0 rfl) ?_
      refine va_get (D := D) (cl := vwCl) (ci := 1) (v := .ref hB) (C := RX1) (T := TX1) (N := 14) hx hb hts in_X1_makeClaim_X1 hown hK hP 0 rfl rfl 0 (by decide) (hts (.fieldLink RX1 12 "WitchTrial" "book" "LWitchTrial$Book;") (List.mem_of_getElem? (i := 4) rfl)) (fun _ h9 => h9) rfl dX1_makeClaim_17 ?_
      refine lv_iload_n hx hb dX1_makeClaim_20 rfl (lv_at hl 1 rfl) ?_
      refine lv_iload_n hx hb dX1_makeClaim_21 rfl (lv_at hl 2 rfl) ?_
      refine lv_iload_n hx hb dX1_makeClaim_22 rfl (lv_at hl 3 rfl) ?_
      refine rd_VN (b := hB) (As := [.int q, .int bits, .int (bI b)]) (rest := []) ⟨hx, hb, hml, hown, hts⟩ (c_X0_allowsClaim l D cI cZ cJ hB hG tr q bits b) ⟨va_cnB 3 hts gX1_makeClaim_X0_allowsClaim_n197 rfl rfl rfl (hN.link 7 rfl) (hts (.initialized RX0) (List.mem_of_getElem? (i := 15) rfl)) (by decide +kernel) ⟨Nat.le_of_ble_eq_true rfl, Nat.le_of_ble_eq_true rfl⟩, (hts (.instanceMethod yX0_allowsClaim) (List.mem_of_getElem? (i := 14) rfl)), (hts (.selects RX0 yX0_allowsClaim yX0_allowsClaim) (List.mem_of_getElem? (i := 16) rfl))⟩ (hP.sub (ws' := [cB hB hG tr]) [1] rfl) hK hN (va_recv hK hP (ci := 0) (q0 := 1) rfl rfl) rfl hl.1 rfl (Nat.le_of_ble_eq_true rfl) dX1_makeClaim_23 ⟨Nat.le_of_ble_eq_true rfl, Nat.le_of_ble_eq_true rfl⟩ ?_
      refine lv_if_ne (tgt := 39) hx hb dX1_makeClaim_26 (by decide) (fun c_3 => ?_) (fun c_3 => ?_)
      · have c_3 : (yAg tr q bits b) = true := bI_1 c_3
        exact absurd hk (by simp [yMay, bI, c_1, c_2, c_3])
      · have c_3 : (yAg tr q bits b) = false := bI_0 c_3
        exact ty_throwN hx hb hst hown (hts (.classLink RX1 201 "java/util/NoSuchElementException") (List.mem_of_getElem? (i := 1) rfl)) (hts (.initialized "java/util/NoSuchElementException") (List.mem_of_getElem? (i := 2) rfl)) hN hY (fun w h => hts w (List.mem_cons_of_mem _ (List.mem_append_right _ h))) hZ hS hP (hl.1.trans hml.symm) dX1_makeClaim_29 dX1_makeClaim_32 dX1_makeClaim_33 dX1_makeClaim_35 dX1_makeClaim_38 hout (Nat.le_of_ble_eq_true rfl) (Nat.le_of_ble_eq_true rfl) (Nat.le_of_ble_eq_true rfl) (Nat.le_of_ble_eq_true rfl) hlocks

theorem in_X1_start_X0 : ∀ w ∈ wsX00, w ∈ wsX1_start := by decide +kernel
theorem in_X1_start_X1 : ∀ w ∈ wsX10, w ∈ wsX1_start := by decide +kernel
set_option maxHeartbeats 2000000 in
set_option maxRecDepth 100000 in
theorem t_X1_start (l : Launch) (D : va_G) (cI cZ cJ : ClassId) (sz : Nat) (hst : l.stackTraces = false) (hT : Nat) (hB : Nat) (hV : Nat) (a : Nat → Int32) (pl : Int32) (wi : Int32) (se : Int32) (gu : Int32) (hk : ¬ kYs pl wi se gu = 0) : Ty l D cI cZ cJ yX1_start wsX1_start 6 90 sz [.ref hT, .int pl, .int wi, .int se, .int gu] [cT hT hB hV a] (kYs pl wi se gu) := by
  refine ty_of (by decide) rfl (Nat.le_of_ble_eq_true rfl) (fun p e s m below meth c ls A hx hb hr hml hts hown hlocks hout hP hK hN hD hA hS hZ hY hl => ?_)
  have hl : lv_has ls 5 [(0, .ref hT), (1, .int pl), (2, .int wi), (3, .int se), (4, .int gu)] := hl
  refine lv_iload_n hx hb dX1_start_0 rfl (lv_at hl 1 rfl) ?_
  refine lv_iload_n hx hb dX1_start_1 rfl (lv_at hl 2 rfl) ?_
  refine lv_iload_n hx hb dX1_start_2 rfl (lv_at hl 3 rfl) ?_
  refine lv_iload hx hb dX1_start_3 (lv_at hl 4 rfl) ?_
  refine rd_S (As := [.int pl, .int wi, .int se, .int gu]) (rest := []) ⟨hx, hb, hml, hown, hts⟩ (c_X1_isDeal l D cI cZ cJ pl wi se gu) (va_cwS 4 hts gX1_start_X1_isDeal rfl rfl rfl (by decide +kernel) ⟨Nat.le_of_ble_eq_true rfl, Nat.le_of_ble_eq_true rfl⟩) (hP.sub (ws' := []) [] rfl) hK hN rfl hl.1 rfl (Nat.le_of_ble_eq_true rfl) dX1_start_5 ⟨Nat.le_of_ble_eq_true rfl, Nat.le_of_ble_eq_true rfl⟩ ?_
  refine lv_if_ne (tgt := 21) hx hb dX1_start_8 (by decide) (fun c_1 => ?_) (fun c_1 => ?_)
  · have c_1 : (yGood pl wi se gu) = true := bI_1 c_1
    exact absurd (by (first | rfl | (simp only [kYs, c_1, eq_self, ↓reduceIte]; done) | (simp only [kYs, c_1, eq_self, ↓reduceIte]; rfl) | simp [kYs, c_1])) hk
  · have c_1 : (yGood pl wi se gu) = false := bI_0 c_1
    have ek9 : kYs pl wi se gu = 3 := by (first | rfl | (simp only [kYs, c_1, eq_self, ↓reduceIte]; done) | (simp only [kYs, c_1, eq_self, ↓reduceIte]; rfl) | simp [kYs, c_1])
    rw [ek9]
    exact ty_throw (E := "java/lang/IllegalArgumentException") hx hb hst hown rfl (by decide +kernel) (hts (.classLink RX1 40 "java/lang/IllegalArgumentException") (List.mem_of_getElem? (i := 1) rfl)) (hts (.initialized "java/lang/IllegalArgumentException") (List.mem_of_getElem? (i := 2) rfl)) hN hY 0 rfl 2 rfl (fun w h => hts w (List.mem_cons_of_mem _ (List.mem_append_right _ h))) (by decide +kernel) (by decide +kernel) hZ hS hP (hl.1.trans hml.symm) dX1_start_11 dX1_start_14 dX1_start_15 dX1_start_17 dX1_start_20 hout (Nat.le_of_ble_eq_true rfl) (Nat.le_of_ble_eq_true rfl) (Nat.le_of_ble_eq_true rfl) (Nat.le_of_ble_eq_true rfl) hlocks

theorem in_X1_claim_X0 : ∀ w ∈ wsX00, w ∈ wsX1_claim := by decide +kernel
theorem in_X1_claim_X1 : ∀ w ∈ wsX10, w ∈ wsX1_claim := by decide +kernel
set_option maxHeartbeats 2000000 in
set_option maxRecDepth 100000 in
theorem t_X1_claim (l : Launch) (D : va_G) (cI cZ cJ : ClassId) (sz : Nat) (hst : l.stackTraces = false) (hT : Nat) (hB : Nat) (hV : Nat) (a : Nat → Int32) (hG : Nat) (tr : Int32) (q : Int32) (k : Int32) (r : Int32) (hk : ¬ kYc a tr q k r = 0) : Ty l D cI cZ cJ yX1_claim wsX1_claim 7 113 sz [.ref hT, .int q, .int k, .int r] [cT hT hB hV a, cB hB hG tr] (kYc a tr q k r) := by
  refine ty_of (by decide) rfl (Nat.le_of_ble_eq_true rfl) (fun p e s m below meth c ls A hx hb hr hml hts hown hlocks hout hP hK hN hD hA hS hZ hY hl => ?_)
  have hl : lv_has ls 4 [(0, .ref hT), (1, .int q), (2, .int k), (3, .int r)] := hl
  refine lv_aload_n hx hb dX1_claim_0 rfl (lv_at hl 0 rfl) ?_
  by_cases c_1 : (a 0) = 0
  · have ek9 : kYc a tr q k r = 1 := by (first | rfl | (simp only [kYc, c_1, eq_self, ↓reduceIte]; done) | (simp only [kYc, c_1, eq_self, ↓reduceIte]; rfl) | (simp only [kYc, eq_true c_1, eq_self, ↓reduceIte]; done) | (simp only [kYc, eq_true c_1, eq_self, ↓reduceIte]; rfl) | (simp [kYc, eq_true c_1]; done) | simp [kYc, c_1])
    rw [ek9]
    exact ty_V (b := hT) (As := []) (rest := []) ⟨hx, hb, hml, hown, hts⟩ (t_X1_requireGame l D cI cZ cJ _ hst hT hB hV a c_1) (cwV 0 hts gX1_claim_X1_requireGame rfl rfl rfl (by decide +kernel) ⟨Nat.le_of_ble_eq_true rfl, Nat.le_of_ble_eq_true rfl⟩) hP hD hK hN hY hS hA hZ (va_recv hK hP (ci := 1) (q0 := 0) rfl rfl) rfl hl.1 rfl (Nat.le_of_ble_eq_true rfl) dX1_claim_1 ⟨Nat.le_of_ble_eq_true rfl, Nat.le_of_ble_eq_true rfl⟩ [0] [1] rfl rfl 2 rfl (by decide) (by decide) hout hlocks
  · refine rv_V (b := hT) (As := []) (rest := []) ⟨hx, hb, hml, hown, hts⟩ (c_X1_requireGame l D cI cZ cJ hT hB hV a c_1) (cwV 0 hts gX1_claim_X1_requireGame rfl rfl rfl (by decide +kernel) ⟨Nat.le_of_ble_eq_true rfl, Nat.le_of_ble_eq_true rfl⟩) (hP.sub (ws' := [cT hT hB hV a]) [0] rfl) hK hN (va_recv hK hP (ci := 1) (q0 := 0) rfl rfl) rfl hl.1 rfl (Nat.le_of_ble_eq_true rfl) dX1_claim_1 ⟨Nat.le_of_ble_eq_true rfl, Nat.le_of_ble_eq_true rfl⟩ ?_
    refine lv_aload_n hx hb dX1_claim_4 rfl (lv_at hl 0 rfl) ?_
    refine lv_iload_n hx hb dX1_claim_5 rfl (lv_at hl 1 rfl) ?_
    by_cases c_2 : (yPl a q) = true
    · refine rv_V (b := hT) (As := [.int q]) (rest := []) ⟨hx, hb, hml, hown, hts⟩ (c_X1_requirePlayer l D cI cZ cJ hT hB hV a q c_2) (cwV 1 hts gX1_claim_X1_requirePlayer rfl rfl rfl (by decide +kernel) ⟨Nat.le_of_ble_eq_true rfl, Nat.le_of_ble_eq_true rfl⟩) (hP.sub (ws' := [cT hT hB hV a]) [0] rfl) hK hN (va_recv hK hP (ci := 1) (q0 := 0) rfl rfl) rfl hl.1 rfl (Nat.le_of_ble_eq_true rfl) dX1_claim_6 ⟨Nat.le_of_ble_eq_true rfl, Nat.le_of_ble_eq_true rfl⟩ ?_
      refine lv_aload_n hx hb dX1_claim_9 rfl (lv_at hl 0 rfl) ?_
      refine lv_iload_n hx hb dX1_claim_10 rfl (lv_at hl 3 rfl) ?_
      by_cases c_3 : (yPl a r) = true
      · refine rv_V (b := hT) (As := [.int r]) (rest := []) ⟨hx, hb, hml, hown, hts⟩ (c_X1_requirePlayer l D cI cZ cJ hT hB hV a r c_3) (cwV 1 hts gX1_claim_X1_requirePlayer rfl rfl rfl (by decide +kernel) ⟨Nat.le_of_ble_eq_true rfl, Nat.le_of_ble_eq_true rfl⟩) (hP.sub (ws' := [cT hT hB hV a]) [0] rfl) hK hN (va_recv hK hP (ci := 1) (q0 := 0) rfl rfl) rfl hl.1 rfl (Nat.le_of_ble_eq_true rfl) dX1_claim_11 ⟨Nat.le_of_ble_eq_true rfl, Nat.le_of_ble_eq_true rfl⟩ ?_
        refine lv_iload_n hx hb dX1_claim_14 rfl (lv_at hl 2 rfl) ?_
        refine lv_if_lt (tgt := 23) hx hb dX1_claim_15 (by decide) (fun c_4 => ?_) (fun c_4 => ?_)
        · have ek9 : kYc a tr q k r = 3 := by (first | rfl | (simp only [kYc, c_1, c_2, c_3, c_4, eq_self, ↓reduceIte]; done) | (simp only [kYc, c_1, c_2, c_3, c_4, eq_self, ↓reduceIte]; rfl) | simp [kYc, c_1, c_2, c_3, c_4])
          rw [ek9]
          exact ty_throw (E := "java/lang/IllegalArgumentException") hx hb hst hown rfl (by decide +kernel) (hts (.classLink RX1 40 "java/lang/IllegalArgumentException") (List.mem_of_getElem? (i := 1) rfl)) (hts (.initialized "java/lang/IllegalArgumentException") (List.mem_of_getElem? (i := 2) rfl)) hN hY 1 rfl 2 rfl (fun w h => hts w (List.mem_cons_of_mem _ (List.mem_append_left _ (List.mem_append_left _ (List.mem_append_left _ (List.mem_append_right _ h)))))) (by decide +kernel) (by decide +kernel) hZ hS hP (hl.1.trans hml.symm) dX1_claim_23 dX1_claim_26 dX1_claim_27 dX1_claim_29 dX1_claim_32 hout (Nat.le_of_ble_eq_true rfl) (Nat.le_of_ble_eq_true rfl) (Nat.le_of_ble_eq_true rfl) (Nat.le_of_ble_eq_true rfl) hlocks
        · refine lv_iload_n hx hb dX1_claim_18 rfl (lv_at hl 2 rfl) ?_
          refine lv_iconst (v := 3) hx hb dX1_claim_19 (by decide) ?_
          refine lv_icmp_le (tgt := 33) hx hb dX1_claim_20 (by decide) (fun c_5 => ?_) (fun c_5 => ?_)
          · refine lv_aload_n hx hb dX1_claim_33 rfl (lv_at hl 0 rfl) ?_
            refine lv_iload_n hx hb dX1_claim_34 rfl (lv_at hl 1 rfl) ?_
            refine lv_iload_n hx hb dX1_claim_35 rfl (lv_at hl 2 rfl) ?_
            refine lv_iload_n hx hb dX1_claim_36 rfl (lv_at hl 3 rfl) ?_
            refine rd_S (As := [.int k, .int r]) (rest := [.int q, .ref hT]) ⟨hx, hb, hml, hown, hts⟩ (c_X1_claimedBits l D cI cZ cJ k r) (va_cwS 2 hts gX1_claim_X1_claimedBits rfl rfl rfl (by decide +kernel) ⟨Nat.le_of_ble_eq_true rfl, Nat.le_of_ble_eq_true rfl⟩) (hP.sub (ws' := []) [] rfl) hK hN rfl hl.1 rfl (Nat.le_of_ble_eq_true rfl) dX1_claim_37 ⟨Nat.le_of_ble_eq_true rfl, Nat.le_of_ble_eq_true rfl⟩ ?_
            refine lv_iload_n hx hb dX1_claim_40 rfl (lv_at hl 2 rfl) ?_
            refine lv_iconst (v := 1) hx hb dX1_claim_41 (by decide) ?_
            refine lv_icmp_eq (tgt := 49) hx hb dX1_claim_42 (by decide) (fun c_6 => ?_) (fun c_6 => ?_)
            · refine lv_iconst (v := 0) hx hb dX1_claim_49 (by decide) ?_
              by_cases c_7 : (yMay a tr q (yCb k r) false) = true
              · exact absurd (by (first | rfl | (simp only [kYc, c_1, c_2, c_3, c_4, c_5, eq_true c_6, c_7, eq_self, ↓reduceIte]; done) | (simp only [kYc, c_1, c_2, c_3, c_4, c_5, eq_true c_6, c_7, eq_self, ↓reduceIte]; rfl) | simp [kYc, c_1, c_2, c_3, c_4, c_5, eq_true c_6, c_7])) hk
              · have c_7 : (yMay a tr q (yCb k r) false) = false := eq_false_of_ne_true c_7
                have ek9 : kYc a tr q k r = 4 := by (first | rfl | (simp only [kYc, c_1, c_2, c_3, c_4, c_5, eq_true c_6, c_7, eq_self, ↓reduceIte]; done) | (simp only [kYc, c_1, c_2, c_3, c_4, c_5, eq_true c_6, c_7, eq_self, ↓reduceIte]; rfl) | simp [kYc, c_1, c_2, c_3, c_4, c_5, eq_true c_6, c_7])
                rw [ek9]
                exact ty_V (b := hT) (As := [.int q, .int (yCb k r), .int 0]) (rest := []) ⟨hx, hb, hml, hown, hts⟩ (t_X1_makeClaim l D cI cZ cJ _ hst hT hB hV a hG tr q (yCb k r) false c_7) (cwV 3 hts gX1_claim_X1_makeClaim rfl rfl rfl (by decide +kernel) ⟨Nat.le_of_ble_eq_true rfl, Nat.le_of_ble_eq_true rfl⟩) hP hD hK hN hY hS hA hZ (va_recv hK hP (ci := 1) (q0 := 0) rfl rfl) rfl hl.1 rfl (Nat.le_of_ble_eq_true rfl) dX1_claim_50 ⟨Nat.le_of_ble_eq_true rfl, Nat.le_of_ble_eq_true rfl⟩ [0, 1] [] rfl rfl 2 rfl (by decide) (by decide) hout hlocks
            · refine lv_iconst (v := 1) hx hb dX1_claim_45 (by decide) ?_
              refine lv_goto (tgt := 50) hx hb dX1_claim_46 (by decide) ?_
              by_cases c_8 : (yMay a tr q (yCb k r) true) = true
              · exact absurd (by (first | rfl | (simp only [kYc, c_1, c_2, c_3, c_4, c_5, c_6, c_8, eq_self, ↓reduceIte]; done) | (simp only [kYc, c_1, c_2, c_3, c_4, c_5, c_6, c_8, eq_self, ↓reduceIte]; rfl) | simp [kYc, c_1, c_2, c_3, c_4, c_5, c_6, c_8])) hk
              · have c_8 : (yMay a tr q (yCb k r) true) = false := eq_false_of_ne_true c_8
                have ek9 : kYc a tr q k r = 4 := by (first | rfl | (simp only [kYc, c_1, c_2, c_3, c_4, c_5, c_6, c_8, eq_self, ↓reduceIte]; done) | (simp only [kYc, c_1, c_2, c_3, c_4, c_5, c_6, c_8, eq_self, ↓reduceIte]; rfl) | simp [kYc, c_1, c_2, c_3, c_4, c_5, c_6, c_8])
                rw [ek9]
                exact ty_V (b := hT) (As := [.int q, .int (yCb k r), .int 1]) (rest := []) ⟨hx, hb, hml, hown, hts⟩ (t_X1_makeClaim l D cI cZ cJ _ hst hT hB hV a hG tr q (yCb k r) true c_8) (cwV 3 hts gX1_claim_X1_makeClaim rfl rfl rfl (by decide +kernel) ⟨Nat.le_of_ble_eq_true rfl, Nat.le_of_ble_eq_true rfl⟩) hP hD hK hN hY hS hA hZ (va_recv hK hP (ci := 1) (q0 := 0) rfl rfl) rfl hl.1 rfl (Nat.le_of_ble_eq_true rfl) dX1_claim_50 ⟨Nat.le_of_ble_eq_true rfl, Nat.le_of_ble_eq_true rfl⟩ [0, 1] [] rfl rfl 2 rfl (by decide) (by decide) hout hlocks
          · have ek9 : kYc a tr q k r = 3 := by (first | rfl | (simp only [kYc, c_1, c_2, c_3, c_4, c_5, eq_self, ↓reduceIte]; done) | (simp only [kYc, c_1, c_2, c_3, c_4, c_5, eq_self, ↓reduceIte]; rfl) | simp [kYc, c_1, c_2, c_3, c_4, c_5])
            rw [ek9]
            exact ty_throw (E := "java/lang/IllegalArgumentException") hx hb hst hown rfl (by decide +kernel) (hts (.classLink RX1 40 "java/lang/IllegalArgumentException") (List.mem_of_getElem? (i := 1) rfl)) (hts (.initialized "java/lang/IllegalArgumentException") (List.mem_of_getElem? (i := 2) rfl)) hN hY 1 rfl 2 rfl (fun w h => hts w (List.mem_cons_of_mem _ (List.mem_append_left _ (List.mem_append_left _ (List.mem_append_left _ (List.mem_append_right _ h)))))) (by decide +kernel) (by decide +kernel) hZ hS hP (hl.1.trans hml.symm) dX1_claim_23 dX1_claim_26 dX1_claim_27 dX1_claim_29 dX1_claim_32 hout (Nat.le_of_ble_eq_true rfl) (Nat.le_of_ble_eq_true rfl) (Nat.le_of_ble_eq_true rfl) (Nat.le_of_ble_eq_true rfl) hlocks
      · have c_3 : (yPl a r) = false := eq_false_of_ne_true c_3
        have ek9 : kYc a tr q k r = 2 := by (first | rfl | (simp only [kYc, c_1, c_2, c_3, eq_self, ↓reduceIte]; done) | (simp only [kYc, c_1, c_2, c_3, eq_self, ↓reduceIte]; rfl) | simp [kYc, c_1, c_2, c_3])
        rw [ek9]
        exact ty_V (b := hT) (As := [.int r]) (rest := []) ⟨hx, hb, hml, hown, hts⟩ (t_X1_requirePlayer l D cI cZ cJ _ hst hT hB hV a r c_3) (cwV 1 hts gX1_claim_X1_requirePlayer rfl rfl rfl (by decide +kernel) ⟨Nat.le_of_ble_eq_true rfl, Nat.le_of_ble_eq_true rfl⟩) hP hD hK hN hY hS hA hZ (va_recv hK hP (ci := 1) (q0 := 0) rfl rfl) rfl hl.1 rfl (Nat.le_of_ble_eq_true rfl) dX1_claim_11 ⟨Nat.le_of_ble_eq_true rfl, Nat.le_of_ble_eq_true rfl⟩ [0] [1] rfl rfl 2 rfl (by decide) (by decide) hout hlocks
    · have c_2 : (yPl a q) = false := eq_false_of_ne_true c_2
      have ek9 : kYc a tr q k r = 2 := by (first | rfl | (simp only [kYc, c_1, c_2, eq_self, ↓reduceIte]; done) | (simp only [kYc, c_1, c_2, eq_self, ↓reduceIte]; rfl) | simp [kYc, c_1, c_2])
      rw [ek9]
      exact ty_V (b := hT) (As := [.int q]) (rest := []) ⟨hx, hb, hml, hown, hts⟩ (t_X1_requirePlayer l D cI cZ cJ _ hst hT hB hV a q c_2) (cwV 1 hts gX1_claim_X1_requirePlayer rfl rfl rfl (by decide +kernel) ⟨Nat.le_of_ble_eq_true rfl, Nat.le_of_ble_eq_true rfl⟩) hP hD hK hN hY hS hA hZ (va_recv hK hP (ci := 1) (q0 := 0) rfl rfl) rfl hl.1 rfl (Nat.le_of_ble_eq_true rfl) dX1_claim_6 ⟨Nat.le_of_ble_eq_true rfl, Nat.le_of_ble_eq_true rfl⟩ [0] [1] rfl rfl 2 rfl (by decide) (by decide) hout hlocks

theorem in_X1_claimAmong_X0 : ∀ w ∈ wsX00, w ∈ wsX1_claimAmong := by decide +kernel
theorem in_X1_claimAmong_X1 : ∀ w ∈ wsX10, w ∈ wsX1_claimAmong := by decide +kernel
set_option maxHeartbeats 2000000 in
set_option maxRecDepth 100000 in
theorem t_X1_claimAmong (l : Launch) (D : va_G) (cI cZ cJ : ClassId) (sz : Nat) (hst : l.stackTraces = false) (hT : Nat) (hB : Nat) (hV : Nat) (a : Nat → Int32) (hG : Nat) (tr : Int32) (q : Int32) (st : Int32) (hk : ¬ kYa a tr q st = 0) : Ty l D cI cZ cJ yX1_claimAmong wsX1_claimAmong 7 113 sz [.ref hT, .int q, .int st] [cT hT hB hV a, cB hB hG tr] (kYa a tr q st) := by
  refine ty_of (by decide) rfl (Nat.le_of_ble_eq_true rfl) (fun p e s m below meth c ls A hx hb hr hml hts hown hlocks hout hP hK hN hD hA hS hZ hY hl => ?_)
  have hl : lv_has ls 3 [(0, .ref hT), (1, .int q), (2, .int st)] := hl
  refine lv_aload_n hx hb dX1_claimAmong_0 rfl (lv_at hl 0 rfl) ?_
  by_cases c_1 : (a 0) = 0
  · have ek9 : kYa a tr q st = 1 := by (first | rfl | (simp only [kYa, c_1, eq_self, ↓reduceIte]; done) | (simp only [kYa, c_1, eq_self, ↓reduceIte]; rfl) | (simp only [kYa, eq_true c_1, eq_self, ↓reduceIte]; done) | (simp only [kYa, eq_true c_1, eq_self, ↓reduceIte]; rfl) | (simp [kYa, eq_true c_1]; done) | simp [kYa, c_1])
    rw [ek9]
    exact ty_V (b := hT) (As := []) (rest := []) ⟨hx, hb, hml, hown, hts⟩ (t_X1_requireGame l D cI cZ cJ _ hst hT hB hV a c_1) (cwV 0 hts gX1_claimAmong_X1_requireGame rfl rfl rfl (by decide +kernel) ⟨Nat.le_of_ble_eq_true rfl, Nat.le_of_ble_eq_true rfl⟩) hP hD hK hN hY hS hA hZ (va_recv hK hP (ci := 1) (q0 := 0) rfl rfl) rfl hl.1 rfl (Nat.le_of_ble_eq_true rfl) dX1_claimAmong_1 ⟨Nat.le_of_ble_eq_true rfl, Nat.le_of_ble_eq_true rfl⟩ [0] [1] rfl rfl 2 rfl (by decide) (by decide) hout hlocks
  · refine rv_V (b := hT) (As := []) (rest := []) ⟨hx, hb, hml, hown, hts⟩ (c_X1_requireGame l D cI cZ cJ hT hB hV a c_1) (cwV 0 hts gX1_claimAmong_X1_requireGame rfl rfl rfl (by decide +kernel) ⟨Nat.le_of_ble_eq_true rfl, Nat.le_of_ble_eq_true rfl⟩) (hP.sub (ws' := [cT hT hB hV a]) [0] rfl) hK hN (va_recv hK hP (ci := 1) (q0 := 0) rfl rfl) rfl hl.1 rfl (Nat.le_of_ble_eq_true rfl) dX1_claimAmong_1 ⟨Nat.le_of_ble_eq_true rfl, Nat.le_of_ble_eq_true rfl⟩ ?_
    refine lv_aload_n hx hb dX1_claimAmong_4 rfl (lv_at hl 0 rfl) ?_
    refine lv_iload_n hx hb dX1_claimAmong_5 rfl (lv_at hl 1 rfl) ?_
    by_cases c_2 : (yPl a q) = true
    · refine rv_V (b := hT) (As := [.int q]) (rest := []) ⟨hx, hb, hml, hown, hts⟩ (c_X1_requirePlayer l D cI cZ cJ hT hB hV a q c_2) (cwV 1 hts gX1_claimAmong_X1_requirePlayer rfl rfl rfl (by decide +kernel) ⟨Nat.le_of_ble_eq_true rfl, Nat.le_of_ble_eq_true rfl⟩) (hP.sub (ws' := [cT hT hB hV a]) [0] rfl) hK hN (va_recv hK hP (ci := 1) (q0 := 0) rfl rfl) rfl hl.1 rfl (Nat.le_of_ble_eq_true rfl) dX1_claimAmong_6 ⟨Nat.le_of_ble_eq_true rfl, Nat.le_of_ble_eq_true rfl⟩ ?_
      refine lv_iload_n hx hb dX1_claimAmong_9 rfl (lv_at hl 2 rfl) ?_
      refine lv_aload_n hx hb dX1_claimAmong_10 rfl (lv_at hl 0 rfl) ?_
      refine va_get (D := D) (cl := vwCl) (ci := 1) (v := .int (a 2)) (C := RX1) (T := TX1) (N := 14) hx hb hts in_X1_claimAmong_X1 hown hK hP 0 rfl rfl 4 (by decide) (hts (.fieldLink RX1 47 "WitchTrial" "playerCount" "I") (List.mem_of_getElem? (i := 3) rfl)) (fun _ h9 => h9) rfl dX1_claimAmong_11 ?_
      refine rd_S (As := [.int (a 2)]) (rest := [.int st]) ⟨hx, hb, hml, hown, hts⟩ (c_X1_everyone l D cI cZ cJ (a 2)) (va_cwS 1 hts gX1_claimAmong_X1_everyone rfl rfl rfl (by decide +kernel) ⟨Nat.le_of_ble_eq_true rfl, Nat.le_of_ble_eq_true rfl⟩) (hP.sub (ws' := []) [] rfl) hK hN rfl hl.1 rfl (Nat.le_of_ble_eq_true rfl) dX1_claimAmong_14 ⟨Nat.le_of_ble_eq_true rfl, Nat.le_of_ble_eq_true rfl⟩ ?_
      refine lv_iconst (v := (-1)) hx hb dX1_claimAmong_17 (by decide) ?_
      refine lv_ixor hx hb dX1_claimAmong_18 ?_
      refine lv_iand hx hb dX1_claimAmong_19 ?_
      refine lv_if_eq (tgt := 33) hx hb dX1_claimAmong_20 (by decide) (fun c_3 => ?_) (fun c_3 => ?_)
      · refine lv_aload_n hx hb dX1_claimAmong_33 rfl (lv_at hl 0 rfl) ?_
        refine lv_iload_n hx hb dX1_claimAmong_34 rfl (lv_at hl 1 rfl) ?_
        refine lv_iload_n hx hb dX1_claimAmong_35 rfl (lv_at hl 2 rfl) ?_
        refine lv_iconst (v := 1) hx hb dX1_claimAmong_36 (by decide) ?_
        by_cases c_4 : (yMay a tr q st true) = true
        · exact absurd (by (first | rfl | (simp only [kYa, c_1, c_2, c_3, c_4, eq_self, ↓reduceIte]; done) | (simp only [kYa, c_1, c_2, c_3, c_4, eq_self, ↓reduceIte]; rfl) | (simp only [kYa, c_1, c_2, eq_true c_3, c_4, eq_self, ↓reduceIte]; done) | (simp only [kYa, c_1, c_2, eq_true c_3, c_4, eq_self, ↓reduceIte]; rfl) | (simp [kYa, c_1, c_2, eq_true c_3, c_4]; done) | simp [kYa, c_1, c_2, c_3, c_4])) hk
        · have c_4 : (yMay a tr q st true) = false := eq_false_of_ne_true c_4
          have ek9 : kYa a tr q st = 4 := by (first | rfl | (simp only [kYa, c_1, c_2, c_3, c_4, eq_self, ↓reduceIte]; done) | (simp only [kYa, c_1, c_2, c_3, c_4, eq_self, ↓reduceIte]; rfl) | (simp only [kYa, c_1, c_2, eq_true c_3, c_4, eq_self, ↓reduceIte]; done) | (simp only [kYa, c_1, c_2, eq_true c_3, c_4, eq_self, ↓reduceIte]; rfl) | (simp [kYa, c_1, c_2, eq_true c_3, c_4]; done) | simp [kYa, c_1, c_2, c_3, c_4])
          rw [ek9]
          exact ty_V (b := hT) (As := [.int q, .int st, .int 1]) (rest := []) ⟨hx, hb, hml, hown, hts⟩ (t_X1_makeClaim l D cI cZ cJ _ hst hT hB hV a hG tr q st true c_4) (cwV 3 hts gX1_claimAmong_X1_makeClaim rfl rfl rfl (by decide +kernel) ⟨Nat.le_of_ble_eq_true rfl, Nat.le_of_ble_eq_true rfl⟩) hP hD hK hN hY hS hA hZ (va_recv hK hP (ci := 1) (q0 := 0) rfl rfl) rfl hl.1 rfl (Nat.le_of_ble_eq_true rfl) dX1_claimAmong_37 ⟨Nat.le_of_ble_eq_true rfl, Nat.le_of_ble_eq_true rfl⟩ [0, 1] [] rfl rfl 2 rfl (by decide) (by decide) hout hlocks
      · have ek9 : kYa a tr q st = 3 := by (first | rfl | (simp only [kYa, c_1, c_2, c_3, eq_self, ↓reduceIte]; done) | (simp only [kYa, c_1, c_2, c_3, eq_self, ↓reduceIte]; rfl) | simp [kYa, c_1, c_2, c_3])
        rw [ek9]
        exact ty_throw (E := "java/lang/IllegalArgumentException") hx hb hst hown rfl (by decide +kernel) (hts (.classLink RX1 40 "java/lang/IllegalArgumentException") (List.mem_of_getElem? (i := 1) rfl)) (hts (.initialized "java/lang/IllegalArgumentException") (List.mem_of_getElem? (i := 2) rfl)) hN hY 2 rfl 2 rfl (fun w h => hts w (List.mem_cons_of_mem _ (List.mem_append_left _ (List.mem_append_left _ (List.mem_append_left _ (List.mem_append_right _ h)))))) (by decide +kernel) (by decide +kernel) hZ hS hP (hl.1.trans hml.symm) dX1_claimAmong_23 dX1_claimAmong_26 dX1_claimAmong_27 dX1_claimAmong_29 dX1_claimAmong_32 hout (Nat.le_of_ble_eq_true rfl) (Nat.le_of_ble_eq_true rfl) (Nat.le_of_ble_eq_true rfl) (Nat.le_of_ble_eq_true rfl) hlocks
    · have c_2 : (yPl a q) = false := eq_false_of_ne_true c_2
      have ek9 : kYa a tr q st = 2 := by (first | rfl | (simp only [kYa, c_1, c_2, eq_self, ↓reduceIte]; done) | (simp only [kYa, c_1, c_2, eq_self, ↓reduceIte]; rfl) | simp [kYa, c_1, c_2])
      rw [ek9]
      exact ty_V (b := hT) (As := [.int q]) (rest := []) ⟨hx, hb, hml, hown, hts⟩ (t_X1_requirePlayer l D cI cZ cJ _ hst hT hB hV a q c_2) (cwV 1 hts gX1_claimAmong_X1_requirePlayer rfl rfl rfl (by decide +kernel) ⟨Nat.le_of_ble_eq_true rfl, Nat.le_of_ble_eq_true rfl⟩) hP hD hK hN hY hS hA hZ (va_recv hK hP (ci := 1) (q0 := 0) rfl rfl) rfl hl.1 rfl (Nat.le_of_ble_eq_true rfl) dX1_claimAmong_6 ⟨Nat.le_of_ble_eq_true rfl, Nat.le_of_ble_eq_true rfl⟩ [0] [1] rfl rfl 2 rfl (by decide) (by decide) hout hlocks

set_option maxHeartbeats 2000000 in
set_option maxRecDepth 100000 in
theorem t_X1_vote (l : Launch) (D : va_G) (cI cZ cJ : ClassId) (sz : Nat) (hst : l.stackTraces = false) (hT : Nat) (hB : Nat) (hV : Nat) (a : Nat → Int32) (q : Int32) (r : Int32) (hk : ¬ kYv a q r = 0) : Ty l D cI cZ cJ yX1_vote wsX1_vote 7 111 sz [.ref hT, .int q, .int r] [cT hT hB hV a] (kYv a q r) := by
  refine ty_of (by decide) rfl (Nat.le_of_ble_eq_true rfl) (fun p e s m below meth c ls A hx hb hr hml hts hown hlocks hout hP hK hN hD hA hS hZ hY hl => ?_)
  have hl : lv_has ls 3 [(0, .ref hT), (1, .int q), (2, .int r)] := hl
  refine lv_aload_n hx hb dX1_vote_0 rfl (lv_at hl 0 rfl) ?_
  refine lv_iconst (v := 1) hx hb dX1_vote_1 (by decide) ?_
  by_cases c_1 : (a 0) = 1
  · refine rv_V (b := hT) (As := [.int 1]) (rest := []) ⟨hx, hb, hml, hown, hts⟩ (c_X1_requirePhase l D cI cZ cJ hT hB hV a 1 c_1) (cwV 1 hts gX1_vote_X1_requirePhase rfl rfl rfl (by decide +kernel) ⟨Nat.le_of_ble_eq_true rfl, Nat.le_of_ble_eq_true rfl⟩) (hP.sub (ws' := [cT hT hB hV a]) [0] rfl) hK hN (va_recv hK hP (ci := 1) (q0 := 0) rfl rfl) rfl hl.1 rfl (Nat.le_of_ble_eq_true rfl) dX1_vote_2 ⟨Nat.le_of_ble_eq_true rfl, Nat.le_of_ble_eq_true rfl⟩ ?_
    refine lv_aload_n hx hb dX1_vote_5 rfl (lv_at hl 0 rfl) ?_
    refine lv_iload_n hx hb dX1_vote_6 rfl (lv_at hl 1 rfl) ?_
    by_cases c_2 : (yPl a q) = true
    · refine rv_V (b := hT) (As := [.int q]) (rest := []) ⟨hx, hb, hml, hown, hts⟩ (c_X1_requirePlayer l D cI cZ cJ hT hB hV a q c_2) (cwV 1 hts gX1_vote_X1_requirePlayer rfl rfl rfl (by decide +kernel) ⟨Nat.le_of_ble_eq_true rfl, Nat.le_of_ble_eq_true rfl⟩) (hP.sub (ws' := [cT hT hB hV a]) [0] rfl) hK hN (va_recv hK hP (ci := 1) (q0 := 0) rfl rfl) rfl hl.1 rfl (Nat.le_of_ble_eq_true rfl) dX1_vote_7 ⟨Nat.le_of_ble_eq_true rfl, Nat.le_of_ble_eq_true rfl⟩ ?_
      refine lv_aload_n hx hb dX1_vote_10 rfl (lv_at hl 0 rfl) ?_
      refine lv_iload_n hx hb dX1_vote_11 rfl (lv_at hl 2 rfl) ?_
      by_cases c_3 : (yPl a r) = true
      · refine rv_V (b := hT) (As := [.int r]) (rest := []) ⟨hx, hb, hml, hown, hts⟩ (c_X1_requirePlayer l D cI cZ cJ hT hB hV a r c_3) (cwV 1 hts gX1_vote_X1_requirePlayer rfl rfl rfl (by decide +kernel) ⟨Nat.le_of_ble_eq_true rfl, Nat.le_of_ble_eq_true rfl⟩) (hP.sub (ws' := [cT hT hB hV a]) [0] rfl) hK hN (va_recv hK hP (ci := 1) (q0 := 0) rfl rfl) rfl hl.1 rfl (Nat.le_of_ble_eq_true rfl) dX1_vote_12 ⟨Nat.le_of_ble_eq_true rfl, Nat.le_of_ble_eq_true rfl⟩ ?_
        refine lv_aload_n hx hb dX1_vote_15 rfl (lv_at hl 0 rfl) ?_
        refine lv_iload_n hx hb dX1_vote_16 rfl (lv_at hl 1 rfl) ?_
        refine rd_V (b := hT) (As := [.int q]) (rest := []) ⟨hx, hb, hml, hown, hts⟩ (c_X1_isAlive l D cI cZ cJ hT hB hV a q) (cwV 1 hts gX1_vote_X1_isAlive rfl rfl rfl (by decide +kernel) ⟨Nat.le_of_ble_eq_true rfl, Nat.le_of_ble_eq_true rfl⟩) (hP.sub (ws' := [cT hT hB hV a]) [0] rfl) hK hN (va_recv hK hP (ci := 1) (q0 := 0) rfl rfl) rfl hl.1 rfl (Nat.le_of_ble_eq_true rfl) dX1_vote_17 ⟨Nat.le_of_ble_eq_true rfl, Nat.le_of_ble_eq_true rfl⟩ ?_
        refine lv_if_eq (tgt := 31) hx hb dX1_vote_20 (by decide) (fun c_4 => ?_) (fun c_4 => ?_)
        · have c_4 : (yIn (a 6) q) = false := bI_0 c_4
          have ek9 : kYv a q r = 3 := by (first | rfl | (simp only [kYv, c_1, c_2, c_3, c_4, eq_self, ↓reduceIte]; done) | (simp only [kYv, c_1, c_2, c_3, c_4, eq_self, ↓reduceIte]; rfl) | (simp only [kYv, eq_true c_1, c_2, c_3, c_4, eq_self, ↓reduceIte]; done) | (simp only [kYv, eq_true c_1, c_2, c_3, c_4, eq_self, ↓reduceIte]; rfl) | (simp [kYv, eq_true c_1, c_2, c_3, c_4]; done) | simp [kYv, c_1, c_2, c_3, c_4])
          rw [ek9]
          exact ty_throw (E := "java/lang/IllegalArgumentException") hx hb hst hown rfl (by decide +kernel) (hts (.classLink RX1 40 "java/lang/IllegalArgumentException") (List.mem_of_getElem? (i := 1) rfl)) (hts (.initialized "java/lang/IllegalArgumentException") (List.mem_of_getElem? (i := 2) rfl)) hN hY 3 rfl 2 rfl (fun w h => hts w (List.mem_cons_of_mem _ (List.mem_append_left _ (List.mem_append_left _ (List.mem_append_right _ h))))) (by decide +kernel) (by decide +kernel) hZ hS hP (hl.1.trans hml.symm) dX1_vote_31 dX1_vote_34 dX1_vote_35 dX1_vote_37 dX1_vote_40 hout (Nat.le_of_ble_eq_true rfl) (Nat.le_of_ble_eq_true rfl) (Nat.le_of_ble_eq_true rfl) (Nat.le_of_ble_eq_true rfl) hlocks
        · have c_4 : (yIn (a 6) q) = true := bI_1 c_4
          refine lv_aload_n hx hb dX1_vote_23 rfl (lv_at hl 0 rfl) ?_
          refine lv_iload_n hx hb dX1_vote_24 rfl (lv_at hl 2 rfl) ?_
          refine rd_V (b := hT) (As := [.int r]) (rest := []) ⟨hx, hb, hml, hown, hts⟩ (c_X1_isAlive l D cI cZ cJ hT hB hV a r) (cwV 1 hts gX1_vote_X1_isAlive rfl rfl rfl (by decide +kernel) ⟨Nat.le_of_ble_eq_true rfl, Nat.le_of_ble_eq_true rfl⟩) (hP.sub (ws' := [cT hT hB hV a]) [0] rfl) hK hN (va_recv hK hP (ci := 1) (q0 := 0) rfl rfl) rfl hl.1 rfl (Nat.le_of_ble_eq_true rfl) dX1_vote_25 ⟨Nat.le_of_ble_eq_true rfl, Nat.le_of_ble_eq_true rfl⟩ ?_
          refine lv_if_ne (tgt := 41) hx hb dX1_vote_28 (by decide) (fun c_5 => ?_) (fun c_5 => ?_)
          · have c_5 : (yIn (a 6) r) = true := bI_1 c_5
            exact absurd (by (first | rfl | (simp only [kYv, c_1, c_2, c_3, c_4, c_5, eq_self, ↓reduceIte]; done) | (simp only [kYv, c_1, c_2, c_3, c_4, c_5, eq_self, ↓reduceIte]; rfl) | (simp only [kYv, eq_true c_1, c_2, c_3, c_4, c_5, eq_self, ↓reduceIte]; done) | (simp only [kYv, eq_true c_1, c_2, c_3, c_4, c_5, eq_self, ↓reduceIte]; rfl) | (simp [kYv, eq_true c_1, c_2, c_3, c_4, c_5]; done) | simp [kYv, c_1, c_2, c_3, c_4, c_5])) hk
          · have c_5 : (yIn (a 6) r) = false := bI_0 c_5
            have ek9 : kYv a q r = 3 := by (first | rfl | (simp only [kYv, c_1, c_2, c_3, c_4, c_5, eq_self, ↓reduceIte]; done) | (simp only [kYv, c_1, c_2, c_3, c_4, c_5, eq_self, ↓reduceIte]; rfl) | (simp only [kYv, eq_true c_1, c_2, c_3, c_4, c_5, eq_self, ↓reduceIte]; done) | (simp only [kYv, eq_true c_1, c_2, c_3, c_4, c_5, eq_self, ↓reduceIte]; rfl) | (simp [kYv, eq_true c_1, c_2, c_3, c_4, c_5]; done) | simp [kYv, c_1, c_2, c_3, c_4, c_5])
            rw [ek9]
            exact ty_throw (E := "java/lang/IllegalArgumentException") hx hb hst hown rfl (by decide +kernel) (hts (.classLink RX1 40 "java/lang/IllegalArgumentException") (List.mem_of_getElem? (i := 1) rfl)) (hts (.initialized "java/lang/IllegalArgumentException") (List.mem_of_getElem? (i := 2) rfl)) hN hY 3 rfl 2 rfl (fun w h => hts w (List.mem_cons_of_mem _ (List.mem_append_left _ (List.mem_append_left _ (List.mem_append_right _ h))))) (by decide +kernel) (by decide +kernel) hZ hS hP (hl.1.trans hml.symm) dX1_vote_31 dX1_vote_34 dX1_vote_35 dX1_vote_37 dX1_vote_40 hout (Nat.le_of_ble_eq_true rfl) (Nat.le_of_ble_eq_true rfl) (Nat.le_of_ble_eq_true rfl) (Nat.le_of_ble_eq_true rfl) hlocks
      · have c_3 : (yPl a r) = false := eq_false_of_ne_true c_3
        have ek9 : kYv a q r = 2 := by (first | rfl | (simp only [kYv, c_1, c_2, c_3, eq_self, ↓reduceIte]; done) | (simp only [kYv, c_1, c_2, c_3, eq_self, ↓reduceIte]; rfl) | (simp only [kYv, eq_true c_1, c_2, c_3, eq_self, ↓reduceIte]; done) | (simp only [kYv, eq_true c_1, c_2, c_3, eq_self, ↓reduceIte]; rfl) | (simp [kYv, eq_true c_1, c_2, c_3]; done) | simp [kYv, c_1, c_2, c_3])
        rw [ek9]
        exact ty_V (b := hT) (As := [.int r]) (rest := []) ⟨hx, hb, hml, hown, hts⟩ (t_X1_requirePlayer l D cI cZ cJ _ hst hT hB hV a r c_3) (cwV 1 hts gX1_vote_X1_requirePlayer rfl rfl rfl (by decide +kernel) ⟨Nat.le_of_ble_eq_true rfl, Nat.le_of_ble_eq_true rfl⟩) hP hD hK hN hY hS hA hZ (va_recv hK hP (ci := 1) (q0 := 0) rfl rfl) rfl hl.1 rfl (Nat.le_of_ble_eq_true rfl) dX1_vote_12 ⟨Nat.le_of_ble_eq_true rfl, Nat.le_of_ble_eq_true rfl⟩ [0] [] rfl rfl 1 rfl (by decide) (by decide) hout hlocks
    · have c_2 : (yPl a q) = false := eq_false_of_ne_true c_2
      have ek9 : kYv a q r = 2 := by (first | rfl | (simp only [kYv, c_1, c_2, eq_self, ↓reduceIte]; done) | (simp only [kYv, c_1, c_2, eq_self, ↓reduceIte]; rfl) | (simp only [kYv, eq_true c_1, c_2, eq_self, ↓reduceIte]; done) | (simp only [kYv, eq_true c_1, c_2, eq_self, ↓reduceIte]; rfl) | (simp [kYv, eq_true c_1, c_2]; done) | simp [kYv, c_1, c_2])
      rw [ek9]
      exact ty_V (b := hT) (As := [.int q]) (rest := []) ⟨hx, hb, hml, hown, hts⟩ (t_X1_requirePlayer l D cI cZ cJ _ hst hT hB hV a q c_2) (cwV 1 hts gX1_vote_X1_requirePlayer rfl rfl rfl (by decide +kernel) ⟨Nat.le_of_ble_eq_true rfl, Nat.le_of_ble_eq_true rfl⟩) hP hD hK hN hY hS hA hZ (va_recv hK hP (ci := 1) (q0 := 0) rfl rfl) rfl hl.1 rfl (Nat.le_of_ble_eq_true rfl) dX1_vote_7 ⟨Nat.le_of_ble_eq_true rfl, Nat.le_of_ble_eq_true rfl⟩ [0] [] rfl rfl 1 rfl (by decide) (by decide) hout hlocks
  · have ek9 : kYv a q r = 1 := by (first | rfl | (simp only [kYv, c_1, eq_self, ↓reduceIte]; done) | (simp only [kYv, c_1, eq_self, ↓reduceIte]; rfl) | simp [kYv, c_1])
    rw [ek9]
    exact ty_V (b := hT) (As := [.int 1]) (rest := []) ⟨hx, hb, hml, hown, hts⟩ (t_X1_requirePhase l D cI cZ cJ _ hst hT hB hV a 1 c_1) (cwV 1 hts gX1_vote_X1_requirePhase rfl rfl rfl (by decide +kernel) ⟨Nat.le_of_ble_eq_true rfl, Nat.le_of_ble_eq_true rfl⟩) hP hD hK hN hY hS hA hZ (va_recv hK hP (ci := 1) (q0 := 0) rfl rfl) rfl hl.1 rfl (Nat.le_of_ble_eq_true rfl) dX1_vote_2 ⟨Nat.le_of_ble_eq_true rfl, Nat.le_of_ble_eq_true rfl⟩ [0] [] rfl rfl 1 rfl (by decide) (by decide) hout hlocks

set_option maxHeartbeats 2000000 in
set_option maxRecDepth 100000 in
theorem t_X1_closeVote (l : Launch) (D : va_G) (cI cZ cJ : ClassId) (sz : Nat) (hst : l.stackTraces = false) (hT : Nat) (hB : Nat) (hV : Nat) (a : Nat → Int32) (hk : ¬ kYh a 1 = 0) : Ty l D cI cZ cJ yX1_closeVote wsX1_closeVote 7 111 sz [.ref hT] [cT hT hB hV a] (kYh a 1) := by
  refine ty_of (by decide) rfl (Nat.le_of_ble_eq_true rfl) (fun p e s m below meth c ls A hx hb hr hml hts hown hlocks hout hP hK hN hD hA hS hZ hY hl => ?_)
  have hl : lv_has ls 2 [(0, .ref hT)] := hl
  refine lv_aload_n hx hb dX1_closeVote_0 rfl (lv_at hl 0 rfl) ?_
  refine lv_iconst (v := 1) hx hb dX1_closeVote_1 (by decide) ?_
  by_cases c_1 : (a 0) = 1
  · refine rv_V (b := hT) (As := [.int 1]) (rest := []) ⟨hx, hb, hml, hown, hts⟩ (c_X1_requirePhase l D cI cZ cJ hT hB hV a 1 c_1) (cwV 1 hts gX1_closeVote_X1_requirePhase rfl rfl rfl (by decide +kernel) ⟨Nat.le_of_ble_eq_true rfl, Nat.le_of_ble_eq_true rfl⟩) (hP.sub (ws' := [cT hT hB hV a]) [0] rfl) hK hN (va_recv hK hP (ci := 1) (q0 := 0) rfl rfl) rfl hl.1 rfl (Nat.le_of_ble_eq_true rfl) dX1_closeVote_2 ⟨Nat.le_of_ble_eq_true rfl, Nat.le_of_ble_eq_true rfl⟩ ?_
    exact absurd (by (first | rfl | (simp only [kYh, c_1, eq_self, ↓reduceIte]; done) | (simp only [kYh, c_1, eq_self, ↓reduceIte]; rfl) | (simp only [kYh, eq_true c_1, eq_self, ↓reduceIte]; done) | (simp only [kYh, eq_true c_1, eq_self, ↓reduceIte]; rfl) | (simp [kYh, eq_true c_1]; done) | simp [kYh, c_1])) hk
  · have ek9 : kYh a 1 = 1 := by (first | rfl | (simp only [kYh, c_1, eq_self, ↓reduceIte]; done) | (simp only [kYh, c_1, eq_self, ↓reduceIte]; rfl) | simp [kYh, c_1])
    rw [ek9]
    exact ty_V (b := hT) (As := [.int 1]) (rest := []) ⟨hx, hb, hml, hown, hts⟩ (t_X1_requirePhase l D cI cZ cJ _ hst hT hB hV a 1 c_1) (cwV 1 hts gX1_closeVote_X1_requirePhase rfl rfl rfl (by decide +kernel) ⟨Nat.le_of_ble_eq_true rfl, Nat.le_of_ble_eq_true rfl⟩) hP hD hK hN hY hS hA hZ (va_recv hK hP (ci := 1) (q0 := 0) rfl rfl) rfl hl.1 rfl (Nat.le_of_ble_eq_true rfl) dX1_closeVote_2 ⟨Nat.le_of_ble_eq_true rfl, Nat.le_of_ble_eq_true rfl⟩ [0] [] rfl rfl 1 rfl (by decide) (by decide) hout hlocks

set_option maxHeartbeats 2000000 in
set_option maxRecDepth 100000 in
theorem t_X1_protect (l : Launch) (D : va_G) (cI cZ cJ : ClassId) (sz : Nat) (hst : l.stackTraces = false) (hT : Nat) (hB : Nat) (hV : Nat) (a : Nat → Int32) (q : Int32) (hk : ¬ kYp a q = 0) : Ty l D cI cZ cJ yX1_protect wsX1_protect 7 111 sz [.ref hT, .int q] [cT hT hB hV a] (kYp a q) := by
  refine ty_of (by decide) rfl (Nat.le_of_ble_eq_true rfl) (fun p e s m below meth c ls A hx hb hr hml hts hown hlocks hout hP hK hN hD hA hS hZ hY hl => ?_)
  have hl : lv_has ls 3 [(0, .ref hT), (1, .int q)] := hl
  refine lv_aload_n hx hb dX1_protect_0 rfl (lv_at hl 0 rfl) ?_
  refine lv_iconst (v := 2) hx hb dX1_protect_1 (by decide) ?_
  by_cases c_1 : (a 0) = 2
  · refine rv_V (b := hT) (As := [.int 2]) (rest := []) ⟨hx, hb, hml, hown, hts⟩ (c_X1_requirePhase l D cI cZ cJ hT hB hV a 2 c_1) (cwV 1 hts gX1_protect_X1_requirePhase rfl rfl rfl (by decide +kernel) ⟨Nat.le_of_ble_eq_true rfl, Nat.le_of_ble_eq_true rfl⟩) (hP.sub (ws' := [cT hT hB hV a]) [0] rfl) hK hN (va_recv hK hP (ci := 1) (q0 := 0) rfl rfl) rfl hl.1 rfl (Nat.le_of_ble_eq_true rfl) dX1_protect_2 ⟨Nat.le_of_ble_eq_true rfl, Nat.le_of_ble_eq_true rfl⟩ ?_
    refine lv_aload_n hx hb dX1_protect_5 rfl (lv_at hl 0 rfl) ?_
    refine lv_aload_n hx hb dX1_protect_6 rfl (lv_at hl 0 rfl) ?_
    refine va_get (D := D) (cl := vwCl) (ci := 1) (v := .int (a 5)) (C := RX1) (T := TX1) (N := 14) hx hb hts in_X1_protect_X1 hown hK hP 0 rfl rfl 7 (by decide) (hts (.fieldLink RX1 56 "WitchTrial" "guardPlayer" "I") (List.mem_of_getElem? (i := 3) rfl)) (fun _ h9 => h9) rfl dX1_protect_7 ?_
    by_cases c_2 : (yIn (a 6) (a 5)) = true
    · refine rv_V (b := hT) (As := [.int (a 5)]) (rest := []) ⟨hx, hb, hml, hown, hts⟩ (c_X1_requireToLive l D cI cZ cJ hT hB hV a (a 5) c_2) (cwV 1 hts gX1_protect_X1_requireToLive rfl rfl rfl (by decide +kernel) ⟨Nat.le_of_ble_eq_true rfl, Nat.le_of_ble_eq_true rfl⟩) (hP.sub (ws' := [cT hT hB hV a]) [0] rfl) hK hN (va_recv hK hP (ci := 1) (q0 := 0) rfl rfl) rfl hl.1 rfl (Nat.le_of_ble_eq_true rfl) dX1_protect_10 ⟨Nat.le_of_ble_eq_true rfl, Nat.le_of_ble_eq_true rfl⟩ ?_
      refine lv_aload_n hx hb dX1_protect_13 rfl (lv_at hl 0 rfl) ?_
      refine lv_iload_n hx hb dX1_protect_14 rfl (lv_at hl 1 rfl) ?_
      by_cases c_3 : (yPl a q) = true
      · refine rv_V (b := hT) (As := [.int q]) (rest := []) ⟨hx, hb, hml, hown, hts⟩ (c_X1_requirePlayer l D cI cZ cJ hT hB hV a q c_3) (cwV 1 hts gX1_protect_X1_requirePlayer rfl rfl rfl (by decide +kernel) ⟨Nat.le_of_ble_eq_true rfl, Nat.le_of_ble_eq_true rfl⟩) (hP.sub (ws' := [cT hT hB hV a]) [0] rfl) hK hN (va_recv hK hP (ci := 1) (q0 := 0) rfl rfl) rfl hl.1 rfl (Nat.le_of_ble_eq_true rfl) dX1_protect_15 ⟨Nat.le_of_ble_eq_true rfl, Nat.le_of_ble_eq_true rfl⟩ ?_
        refine lv_aload_n hx hb dX1_protect_18 rfl (lv_at hl 0 rfl) ?_
        refine lv_iload_n hx hb dX1_protect_19 rfl (lv_at hl 1 rfl) ?_
        refine rd_V (b := hT) (As := [.int q]) (rest := []) ⟨hx, hb, hml, hown, hts⟩ (c_X1_isAlive l D cI cZ cJ hT hB hV a q) (cwV 1 hts gX1_protect_X1_isAlive rfl rfl rfl (by decide +kernel) ⟨Nat.le_of_ble_eq_true rfl, Nat.le_of_ble_eq_true rfl⟩) (hP.sub (ws' := [cT hT hB hV a]) [0] rfl) hK hN (va_recv hK hP (ci := 1) (q0 := 0) rfl rfl) rfl hl.1 rfl (Nat.le_of_ble_eq_true rfl) dX1_protect_20 ⟨Nat.le_of_ble_eq_true rfl, Nat.le_of_ble_eq_true rfl⟩ ?_
        refine lv_if_eq (tgt := 34) hx hb dX1_protect_23 (by decide) (fun c_4 => ?_) (fun c_4 => ?_)
        · have c_4 : (yIn (a 6) q) = false := bI_0 c_4
          have ek9 : kYp a q = 3 := by (first | rfl | (simp only [kYp, c_1, c_2, c_3, c_4, eq_self, ↓reduceIte]; done) | (simp only [kYp, c_1, c_2, c_3, c_4, eq_self, ↓reduceIte]; rfl) | (simp only [kYp, eq_true c_1, c_2, c_3, c_4, eq_self, ↓reduceIte]; done) | (simp only [kYp, eq_true c_1, c_2, c_3, c_4, eq_self, ↓reduceIte]; rfl) | (simp [kYp, eq_true c_1, c_2, c_3, c_4]; done) | simp [kYp, c_1, c_2, c_3, c_4])
          rw [ek9]
          exact ty_throw (E := "java/lang/IllegalArgumentException") hx hb hst hown rfl (by decide +kernel) (hts (.classLink RX1 40 "java/lang/IllegalArgumentException") (List.mem_of_getElem? (i := 1) rfl)) (hts (.initialized "java/lang/IllegalArgumentException") (List.mem_of_getElem? (i := 2) rfl)) hN hY 4 rfl 2 rfl (fun w h => hts w (List.mem_cons_of_mem _ (List.mem_append_left _ (List.mem_append_left _ (List.mem_append_right _ h))))) (by decide +kernel) (by decide +kernel) hZ hS hP (hl.1.trans hml.symm) dX1_protect_34 dX1_protect_37 dX1_protect_38 dX1_protect_40 dX1_protect_43 hout (Nat.le_of_ble_eq_true rfl) (Nat.le_of_ble_eq_true rfl) (Nat.le_of_ble_eq_true rfl) (Nat.le_of_ble_eq_true rfl) hlocks
        · have c_4 : (yIn (a 6) q) = true := bI_1 c_4
          refine lv_iload_n hx hb dX1_protect_26 rfl (lv_at hl 1 rfl) ?_
          refine lv_aload_n hx hb dX1_protect_27 rfl (lv_at hl 0 rfl) ?_
          refine va_get (D := D) (cl := vwCl) (ci := 1) (v := .int (a 11)) (C := RX1) (T := TX1) (N := 14) hx hb hts in_X1_protect_X1 hown hK hP 0 rfl rfl 13 (by decide) (hts (.fieldLink RX1 33 "WitchTrial" "protectedLastNight" "I") (List.mem_of_getElem? (i := 4) rfl)) (fun _ h9 => h9) rfl dX1_protect_28 ?_
          refine lv_icmp_ne (tgt := 44) hx hb dX1_protect_31 (by decide) (fun c_5 => ?_) (fun c_5 => ?_)
          · exact absurd (by (first | rfl | (simp only [kYp, c_1, c_2, c_3, c_4, c_5, eq_self, ↓reduceIte]; done) | (simp only [kYp, c_1, c_2, c_3, c_4, c_5, eq_self, ↓reduceIte]; rfl) | (simp only [kYp, eq_true c_1, c_2, c_3, c_4, c_5, eq_self, ↓reduceIte]; done) | (simp only [kYp, eq_true c_1, c_2, c_3, c_4, c_5, eq_self, ↓reduceIte]; rfl) | (simp [kYp, eq_true c_1, c_2, c_3, c_4, c_5]; done) | simp [kYp, c_1, c_2, c_3, c_4, c_5])) hk
          · have ek9 : kYp a q = 3 := by (first | rfl | (simp only [kYp, c_1, c_2, c_3, c_4, eq_true c_5, eq_self, ↓reduceIte]; done) | (simp only [kYp, c_1, c_2, c_3, c_4, eq_true c_5, eq_self, ↓reduceIte]; rfl) | (simp only [kYp, eq_true c_1, c_2, c_3, c_4, eq_true c_5, eq_self, ↓reduceIte]; done) | (simp only [kYp, eq_true c_1, c_2, c_3, c_4, eq_true c_5, eq_self, ↓reduceIte]; rfl) | (simp [kYp, eq_true c_1, c_2, c_3, c_4, eq_true c_5]; done) | simp [kYp, c_1, c_2, c_3, c_4, eq_true c_5])
            rw [ek9]
            exact ty_throw (E := "java/lang/IllegalArgumentException") hx hb hst hown rfl (by decide +kernel) (hts (.classLink RX1 40 "java/lang/IllegalArgumentException") (List.mem_of_getElem? (i := 1) rfl)) (hts (.initialized "java/lang/IllegalArgumentException") (List.mem_of_getElem? (i := 2) rfl)) hN hY 4 rfl 2 rfl (fun w h => hts w (List.mem_cons_of_mem _ (List.mem_append_left _ (List.mem_append_left _ (List.mem_append_right _ h))))) (by decide +kernel) (by decide +kernel) hZ hS hP (hl.1.trans hml.symm) dX1_protect_34 dX1_protect_37 dX1_protect_38 dX1_protect_40 dX1_protect_43 hout (Nat.le_of_ble_eq_true rfl) (Nat.le_of_ble_eq_true rfl) (Nat.le_of_ble_eq_true rfl) (Nat.le_of_ble_eq_true rfl) hlocks
      · have c_3 : (yPl a q) = false := eq_false_of_ne_true c_3
        have ek9 : kYp a q = 2 := by (first | rfl | (simp only [kYp, c_1, c_2, c_3, eq_self, ↓reduceIte]; done) | (simp only [kYp, c_1, c_2, c_3, eq_self, ↓reduceIte]; rfl) | (simp only [kYp, eq_true c_1, c_2, c_3, eq_self, ↓reduceIte]; done) | (simp only [kYp, eq_true c_1, c_2, c_3, eq_self, ↓reduceIte]; rfl) | (simp [kYp, eq_true c_1, c_2, c_3]; done) | simp [kYp, c_1, c_2, c_3])
        rw [ek9]
        exact ty_V (b := hT) (As := [.int q]) (rest := []) ⟨hx, hb, hml, hown, hts⟩ (t_X1_requirePlayer l D cI cZ cJ _ hst hT hB hV a q c_3) (cwV 1 hts gX1_protect_X1_requirePlayer rfl rfl rfl (by decide +kernel) ⟨Nat.le_of_ble_eq_true rfl, Nat.le_of_ble_eq_true rfl⟩) hP hD hK hN hY hS hA hZ (va_recv hK hP (ci := 1) (q0 := 0) rfl rfl) rfl hl.1 rfl (Nat.le_of_ble_eq_true rfl) dX1_protect_15 ⟨Nat.le_of_ble_eq_true rfl, Nat.le_of_ble_eq_true rfl⟩ [0] [] rfl rfl 1 rfl (by decide) (by decide) hout hlocks
    · have c_2 : (yIn (a 6) (a 5)) = false := eq_false_of_ne_true c_2
      have ek9 : kYp a q = 1 := by (first | rfl | (simp only [kYp, c_1, c_2, eq_self, ↓reduceIte]; done) | (simp only [kYp, c_1, c_2, eq_self, ↓reduceIte]; rfl) | (simp only [kYp, eq_true c_1, c_2, eq_self, ↓reduceIte]; done) | (simp only [kYp, eq_true c_1, c_2, eq_self, ↓reduceIte]; rfl) | (simp [kYp, eq_true c_1, c_2]; done) | simp [kYp, c_1, c_2])
      rw [ek9]
      exact ty_V (b := hT) (As := [.int (a 5)]) (rest := []) ⟨hx, hb, hml, hown, hts⟩ (t_X1_requireToLive l D cI cZ cJ _ hst hT hB hV a (a 5) c_2) (cwV 1 hts gX1_protect_X1_requireToLive rfl rfl rfl (by decide +kernel) ⟨Nat.le_of_ble_eq_true rfl, Nat.le_of_ble_eq_true rfl⟩) hP hD hK hN hY hS hA hZ (va_recv hK hP (ci := 1) (q0 := 0) rfl rfl) rfl hl.1 rfl (Nat.le_of_ble_eq_true rfl) dX1_protect_10 ⟨Nat.le_of_ble_eq_true rfl, Nat.le_of_ble_eq_true rfl⟩ [0] [] rfl rfl 1 rfl (by decide) (by decide) hout hlocks
  · have ek9 : kYp a q = 1 := by (first | rfl | (simp only [kYp, c_1, eq_self, ↓reduceIte]; done) | (simp only [kYp, c_1, eq_self, ↓reduceIte]; rfl) | simp [kYp, c_1])
    rw [ek9]
    exact ty_V (b := hT) (As := [.int 2]) (rest := []) ⟨hx, hb, hml, hown, hts⟩ (t_X1_requirePhase l D cI cZ cJ _ hst hT hB hV a 2 c_1) (cwV 1 hts gX1_protect_X1_requirePhase rfl rfl rfl (by decide +kernel) ⟨Nat.le_of_ble_eq_true rfl, Nat.le_of_ble_eq_true rfl⟩) hP hD hK hN hY hS hA hZ (va_recv hK hP (ci := 1) (q0 := 0) rfl rfl) rfl hl.1 rfl (Nat.le_of_ble_eq_true rfl) dX1_protect_2 ⟨Nat.le_of_ble_eq_true rfl, Nat.le_of_ble_eq_true rfl⟩ [0] [] rfl rfl 1 rfl (by decide) (by decide) hout hlocks

set_option maxHeartbeats 2000000 in
set_option maxRecDepth 100000 in
theorem t_X1_attack (l : Launch) (D : va_G) (cI cZ cJ : ClassId) (sz : Nat) (hst : l.stackTraces = false) (hT : Nat) (hB : Nat) (hV : Nat) (a : Nat → Int32) (q : Int32) (hk : ¬ kYt a q = 0) : Ty l D cI cZ cJ yX1_attack wsX1_attack 7 111 sz [.ref hT, .int q] [cT hT hB hV a] (kYt a q) := by
  refine ty_of (by decide) rfl (Nat.le_of_ble_eq_true rfl) (fun p e s m below meth c ls A hx hb hr hml hts hown hlocks hout hP hK hN hD hA hS hZ hY hl => ?_)
  have hl : lv_has ls 3 [(0, .ref hT), (1, .int q)] := hl
  refine lv_aload_n hx hb dX1_attack_0 rfl (lv_at hl 0 rfl) ?_
  refine lv_iconst (v := 2) hx hb dX1_attack_1 (by decide) ?_
  by_cases c_1 : (a 0) = 2
  · refine rv_V (b := hT) (As := [.int 2]) (rest := []) ⟨hx, hb, hml, hown, hts⟩ (c_X1_requirePhase l D cI cZ cJ hT hB hV a 2 c_1) (cwV 1 hts gX1_attack_X1_requirePhase rfl rfl rfl (by decide +kernel) ⟨Nat.le_of_ble_eq_true rfl, Nat.le_of_ble_eq_true rfl⟩) (hP.sub (ws' := [cT hT hB hV a]) [0] rfl) hK hN (va_recv hK hP (ci := 1) (q0 := 0) rfl rfl) rfl hl.1 rfl (Nat.le_of_ble_eq_true rfl) dX1_attack_2 ⟨Nat.le_of_ble_eq_true rfl, Nat.le_of_ble_eq_true rfl⟩ ?_
    refine lv_aload_n hx hb dX1_attack_5 rfl (lv_at hl 0 rfl) ?_
    refine lv_iload_n hx hb dX1_attack_6 rfl (lv_at hl 1 rfl) ?_
    by_cases c_2 : (yPl a q) = true
    · refine rv_V (b := hT) (As := [.int q]) (rest := []) ⟨hx, hb, hml, hown, hts⟩ (c_X1_requirePlayer l D cI cZ cJ hT hB hV a q c_2) (cwV 1 hts gX1_attack_X1_requirePlayer rfl rfl rfl (by decide +kernel) ⟨Nat.le_of_ble_eq_true rfl, Nat.le_of_ble_eq_true rfl⟩) (hP.sub (ws' := [cT hT hB hV a]) [0] rfl) hK hN (va_recv hK hP (ci := 1) (q0 := 0) rfl rfl) rfl hl.1 rfl (Nat.le_of_ble_eq_true rfl) dX1_attack_7 ⟨Nat.le_of_ble_eq_true rfl, Nat.le_of_ble_eq_true rfl⟩ ?_
      refine lv_aload_n hx hb dX1_attack_10 rfl (lv_at hl 0 rfl) ?_
      refine lv_iload_n hx hb dX1_attack_11 rfl (lv_at hl 1 rfl) ?_
      refine rd_V (b := hT) (As := [.int q]) (rest := []) ⟨hx, hb, hml, hown, hts⟩ (c_X1_isAlive l D cI cZ cJ hT hB hV a q) (cwV 1 hts gX1_attack_X1_isAlive rfl rfl rfl (by decide +kernel) ⟨Nat.le_of_ble_eq_true rfl, Nat.le_of_ble_eq_true rfl⟩) (hP.sub (ws' := [cT hT hB hV a]) [0] rfl) hK hN (va_recv hK hP (ci := 1) (q0 := 0) rfl rfl) rfl hl.1 rfl (Nat.le_of_ble_eq_true rfl) dX1_attack_12 ⟨Nat.le_of_ble_eq_true rfl, Nat.le_of_ble_eq_true rfl⟩ ?_
      refine lv_if_eq (tgt := 26) hx hb dX1_attack_15 (by decide) (fun c_3 => ?_) (fun c_3 => ?_)
      · have c_3 : (yIn (a 6) q) = false := bI_0 c_3
        have ek9 : kYt a q = 3 := by (first | rfl | (simp only [kYt, c_1, c_2, c_3, eq_self, ↓reduceIte]; done) | (simp only [kYt, c_1, c_2, c_3, eq_self, ↓reduceIte]; rfl) | (simp only [kYt, eq_true c_1, c_2, c_3, eq_self, ↓reduceIte]; done) | (simp only [kYt, eq_true c_1, c_2, c_3, eq_self, ↓reduceIte]; rfl) | (simp [kYt, eq_true c_1, c_2, c_3]; done) | simp [kYt, c_1, c_2, c_3])
        rw [ek9]
        exact ty_throw (E := "java/lang/IllegalArgumentException") hx hb hst hown rfl (by decide +kernel) (hts (.classLink RX1 40 "java/lang/IllegalArgumentException") (List.mem_of_getElem? (i := 1) rfl)) (hts (.initialized "java/lang/IllegalArgumentException") (List.mem_of_getElem? (i := 2) rfl)) hN hY 5 rfl 2 rfl (fun w h => hts w (List.mem_cons_of_mem _ (List.mem_append_left _ (List.mem_append_left _ (List.mem_append_right _ h))))) (by decide +kernel) (by decide +kernel) hZ hS hP (hl.1.trans hml.symm) dX1_attack_26 dX1_attack_29 dX1_attack_30 dX1_attack_32 dX1_attack_35 hout (Nat.le_of_ble_eq_true rfl) (Nat.le_of_ble_eq_true rfl) (Nat.le_of_ble_eq_true rfl) (Nat.le_of_ble_eq_true rfl) hlocks
      · have c_3 : (yIn (a 6) q) = true := bI_1 c_3
        refine lv_aload_n hx hb dX1_attack_18 rfl (lv_at hl 0 rfl) ?_
        refine lv_iload_n hx hb dX1_attack_19 rfl (lv_at hl 1 rfl) ?_
        refine rd_V (b := hT) (As := [.int q]) (rest := []) ⟨hx, hb, hml, hown, hts⟩ (c_X1_isWitch l D cI cZ cJ hT hB hV a q) (cwV 1 hts gX1_attack_X1_isWitch rfl rfl rfl (by decide +kernel) ⟨Nat.le_of_ble_eq_true rfl, Nat.le_of_ble_eq_true rfl⟩) (hP.sub (ws' := [cT hT hB hV a]) [0] rfl) hK hN (va_recv hK hP (ci := 1) (q0 := 0) rfl rfl) rfl hl.1 rfl (Nat.le_of_ble_eq_true rfl) dX1_attack_20 ⟨Nat.le_of_ble_eq_true rfl, Nat.le_of_ble_eq_true rfl⟩ ?_
        refine lv_if_eq (tgt := 36) hx hb dX1_attack_23 (by decide) (fun c_4 => ?_) (fun c_4 => ?_)
        · have c_4 : (yIn (a 3) q) = false := bI_0 c_4
          exact absurd (by (first | rfl | (simp only [kYt, c_1, c_2, c_3, c_4, eq_self, ↓reduceIte]; done) | (simp only [kYt, c_1, c_2, c_3, c_4, eq_self, ↓reduceIte]; rfl) | (simp only [kYt, eq_true c_1, c_2, c_3, c_4, eq_self, ↓reduceIte]; done) | (simp only [kYt, eq_true c_1, c_2, c_3, c_4, eq_self, ↓reduceIte]; rfl) | (simp [kYt, eq_true c_1, c_2, c_3, c_4]; done) | simp [kYt, c_1, c_2, c_3, c_4])) hk
        · have c_4 : (yIn (a 3) q) = true := bI_1 c_4
          have ek9 : kYt a q = 3 := by (first | rfl | (simp only [kYt, c_1, c_2, c_3, c_4, eq_self, ↓reduceIte]; done) | (simp only [kYt, c_1, c_2, c_3, c_4, eq_self, ↓reduceIte]; rfl) | (simp only [kYt, eq_true c_1, c_2, c_3, c_4, eq_self, ↓reduceIte]; done) | (simp only [kYt, eq_true c_1, c_2, c_3, c_4, eq_self, ↓reduceIte]; rfl) | (simp [kYt, eq_true c_1, c_2, c_3, c_4]; done) | simp [kYt, c_1, c_2, c_3, c_4])
          rw [ek9]
          exact ty_throw (E := "java/lang/IllegalArgumentException") hx hb hst hown rfl (by decide +kernel) (hts (.classLink RX1 40 "java/lang/IllegalArgumentException") (List.mem_of_getElem? (i := 1) rfl)) (hts (.initialized "java/lang/IllegalArgumentException") (List.mem_of_getElem? (i := 2) rfl)) hN hY 5 rfl 2 rfl (fun w h => hts w (List.mem_cons_of_mem _ (List.mem_append_left _ (List.mem_append_left _ (List.mem_append_right _ h))))) (by decide +kernel) (by decide +kernel) hZ hS hP (hl.1.trans hml.symm) dX1_attack_26 dX1_attack_29 dX1_attack_30 dX1_attack_32 dX1_attack_35 hout (Nat.le_of_ble_eq_true rfl) (Nat.le_of_ble_eq_true rfl) (Nat.le_of_ble_eq_true rfl) (Nat.le_of_ble_eq_true rfl) hlocks
    · have c_2 : (yPl a q) = false := eq_false_of_ne_true c_2
      have ek9 : kYt a q = 2 := by (first | rfl | (simp only [kYt, c_1, c_2, eq_self, ↓reduceIte]; done) | (simp only [kYt, c_1, c_2, eq_self, ↓reduceIte]; rfl) | (simp only [kYt, eq_true c_1, c_2, eq_self, ↓reduceIte]; done) | (simp only [kYt, eq_true c_1, c_2, eq_self, ↓reduceIte]; rfl) | (simp [kYt, eq_true c_1, c_2]; done) | simp [kYt, c_1, c_2])
      rw [ek9]
      exact ty_V (b := hT) (As := [.int q]) (rest := []) ⟨hx, hb, hml, hown, hts⟩ (t_X1_requirePlayer l D cI cZ cJ _ hst hT hB hV a q c_2) (cwV 1 hts gX1_attack_X1_requirePlayer rfl rfl rfl (by decide +kernel) ⟨Nat.le_of_ble_eq_true rfl, Nat.le_of_ble_eq_true rfl⟩) hP hD hK hN hY hS hA hZ (va_recv hK hP (ci := 1) (q0 := 0) rfl rfl) rfl hl.1 rfl (Nat.le_of_ble_eq_true rfl) dX1_attack_7 ⟨Nat.le_of_ble_eq_true rfl, Nat.le_of_ble_eq_true rfl⟩ [0] [] rfl rfl 1 rfl (by decide) (by decide) hout hlocks
  · have ek9 : kYt a q = 1 := by (first | rfl | (simp only [kYt, c_1, eq_self, ↓reduceIte]; done) | (simp only [kYt, c_1, eq_self, ↓reduceIte]; rfl) | simp [kYt, c_1])
    rw [ek9]
    exact ty_V (b := hT) (As := [.int 2]) (rest := []) ⟨hx, hb, hml, hown, hts⟩ (t_X1_requirePhase l D cI cZ cJ _ hst hT hB hV a 2 c_1) (cwV 1 hts gX1_attack_X1_requirePhase rfl rfl rfl (by decide +kernel) ⟨Nat.le_of_ble_eq_true rfl, Nat.le_of_ble_eq_true rfl⟩) hP hD hK hN hY hS hA hZ (va_recv hK hP (ci := 1) (q0 := 0) rfl rfl) rfl hl.1 rfl (Nat.le_of_ble_eq_true rfl) dX1_attack_2 ⟨Nat.le_of_ble_eq_true rfl, Nat.le_of_ble_eq_true rfl⟩ [0] [] rfl rfl 1 rfl (by decide) (by decide) hout hlocks

set_option maxHeartbeats 2000000 in
set_option maxRecDepth 100000 in
theorem t_X1_look (l : Launch) (D : va_G) (cI cZ cJ : ClassId) (sz : Nat) (hst : l.stackTraces = false) (hT : Nat) (hB : Nat) (hV : Nat) (a : Nat → Int32) (q : Int32) (hk : ¬ kYl a q = 0) : Ty l D cI cZ cJ yX1_look wsX1_look 7 111 sz [.ref hT, .int q] [cT hT hB hV a] (kYl a q) := by
  refine ty_of (by decide) rfl (Nat.le_of_ble_eq_true rfl) (fun p e s m below meth c ls A hx hb hr hml hts hown hlocks hout hP hK hN hD hA hS hZ hY hl => ?_)
  have hl : lv_has ls 3 [(0, .ref hT), (1, .int q)] := hl
  refine lv_aload_n hx hb dX1_look_0 rfl (lv_at hl 0 rfl) ?_
  refine lv_iconst (v := 2) hx hb dX1_look_1 (by decide) ?_
  by_cases c_1 : (a 0) = 2
  · refine rv_V (b := hT) (As := [.int 2]) (rest := []) ⟨hx, hb, hml, hown, hts⟩ (c_X1_requirePhase l D cI cZ cJ hT hB hV a 2 c_1) (cwV 1 hts gX1_look_X1_requirePhase rfl rfl rfl (by decide +kernel) ⟨Nat.le_of_ble_eq_true rfl, Nat.le_of_ble_eq_true rfl⟩) (hP.sub (ws' := [cT hT hB hV a]) [0] rfl) hK hN (va_recv hK hP (ci := 1) (q0 := 0) rfl rfl) rfl hl.1 rfl (Nat.le_of_ble_eq_true rfl) dX1_look_2 ⟨Nat.le_of_ble_eq_true rfl, Nat.le_of_ble_eq_true rfl⟩ ?_
    refine lv_aload_n hx hb dX1_look_5 rfl (lv_at hl 0 rfl) ?_
    refine lv_aload_n hx hb dX1_look_6 rfl (lv_at hl 0 rfl) ?_
    refine va_get (D := D) (cl := vwCl) (ci := 1) (v := .int (a 4)) (C := RX1) (T := TX1) (N := 14) hx hb hts in_X1_look_X1 hown hK hP 0 rfl rfl 6 (by decide) (hts (.fieldLink RX1 53 "WitchTrial" "seerPlayer" "I") (List.mem_of_getElem? (i := 3) rfl)) (fun _ h9 => h9) rfl dX1_look_7 ?_
    by_cases c_2 : (yIn (a 6) (a 4)) = true
    · refine rv_V (b := hT) (As := [.int (a 4)]) (rest := []) ⟨hx, hb, hml, hown, hts⟩ (c_X1_requireToLive l D cI cZ cJ hT hB hV a (a 4) c_2) (cwV 1 hts gX1_look_X1_requireToLive rfl rfl rfl (by decide +kernel) ⟨Nat.le_of_ble_eq_true rfl, Nat.le_of_ble_eq_true rfl⟩) (hP.sub (ws' := [cT hT hB hV a]) [0] rfl) hK hN (va_recv hK hP (ci := 1) (q0 := 0) rfl rfl) rfl hl.1 rfl (Nat.le_of_ble_eq_true rfl) dX1_look_10 ⟨Nat.le_of_ble_eq_true rfl, Nat.le_of_ble_eq_true rfl⟩ ?_
      refine lv_aload_n hx hb dX1_look_13 rfl (lv_at hl 0 rfl) ?_
      refine lv_iload_n hx hb dX1_look_14 rfl (lv_at hl 1 rfl) ?_
      by_cases c_3 : (yPl a q) = true
      · refine rv_V (b := hT) (As := [.int q]) (rest := []) ⟨hx, hb, hml, hown, hts⟩ (c_X1_requirePlayer l D cI cZ cJ hT hB hV a q c_3) (cwV 1 hts gX1_look_X1_requirePlayer rfl rfl rfl (by decide +kernel) ⟨Nat.le_of_ble_eq_true rfl, Nat.le_of_ble_eq_true rfl⟩) (hP.sub (ws' := [cT hT hB hV a]) [0] rfl) hK hN (va_recv hK hP (ci := 1) (q0 := 0) rfl rfl) rfl hl.1 rfl (Nat.le_of_ble_eq_true rfl) dX1_look_15 ⟨Nat.le_of_ble_eq_true rfl, Nat.le_of_ble_eq_true rfl⟩ ?_
        refine lv_aload_n hx hb dX1_look_18 rfl (lv_at hl 0 rfl) ?_
        refine lv_iload_n hx hb dX1_look_19 rfl (lv_at hl 1 rfl) ?_
        refine rd_V (b := hT) (As := [.int q]) (rest := []) ⟨hx, hb, hml, hown, hts⟩ (c_X1_isAlive l D cI cZ cJ hT hB hV a q) (cwV 1 hts gX1_look_X1_isAlive rfl rfl rfl (by decide +kernel) ⟨Nat.le_of_ble_eq_true rfl, Nat.le_of_ble_eq_true rfl⟩) (hP.sub (ws' := [cT hT hB hV a]) [0] rfl) hK hN (va_recv hK hP (ci := 1) (q0 := 0) rfl rfl) rfl hl.1 rfl (Nat.le_of_ble_eq_true rfl) dX1_look_20 ⟨Nat.le_of_ble_eq_true rfl, Nat.le_of_ble_eq_true rfl⟩ ?_
        refine lv_if_eq (tgt := 34) hx hb dX1_look_23 (by decide) (fun c_4 => ?_) (fun c_4 => ?_)
        · have c_4 : (yIn (a 6) q) = false := bI_0 c_4
          have ek9 : kYl a q = 3 := by (first | rfl | (simp only [kYl, c_1, c_2, c_3, c_4, eq_self, ↓reduceIte]; done) | (simp only [kYl, c_1, c_2, c_3, c_4, eq_self, ↓reduceIte]; rfl) | (simp only [kYl, eq_true c_1, c_2, c_3, c_4, eq_self, ↓reduceIte]; done) | (simp only [kYl, eq_true c_1, c_2, c_3, c_4, eq_self, ↓reduceIte]; rfl) | (simp [kYl, eq_true c_1, c_2, c_3, c_4]; done) | simp [kYl, c_1, c_2, c_3, c_4])
          rw [ek9]
          exact ty_throw (E := "java/lang/IllegalArgumentException") hx hb hst hown rfl (by decide +kernel) (hts (.classLink RX1 40 "java/lang/IllegalArgumentException") (List.mem_of_getElem? (i := 1) rfl)) (hts (.initialized "java/lang/IllegalArgumentException") (List.mem_of_getElem? (i := 2) rfl)) hN hY 6 rfl 2 rfl (fun w h => hts w (List.mem_cons_of_mem _ (List.mem_append_left _ (List.mem_append_left _ (List.mem_append_right _ h))))) (by decide +kernel) (by decide +kernel) hZ hS hP (hl.1.trans hml.symm) dX1_look_34 dX1_look_37 dX1_look_38 dX1_look_40 dX1_look_43 hout (Nat.le_of_ble_eq_true rfl) (Nat.le_of_ble_eq_true rfl) (Nat.le_of_ble_eq_true rfl) (Nat.le_of_ble_eq_true rfl) hlocks
        · have c_4 : (yIn (a 6) q) = true := bI_1 c_4
          refine lv_iload_n hx hb dX1_look_26 rfl (lv_at hl 1 rfl) ?_
          refine lv_aload_n hx hb dX1_look_27 rfl (lv_at hl 0 rfl) ?_
          refine va_get (D := D) (cl := vwCl) (ci := 1) (v := .int (a 4)) (C := RX1) (T := TX1) (N := 14) hx hb hts in_X1_look_X1 hown hK hP 0 rfl rfl 6 (by decide) (hts (.fieldLink RX1 53 "WitchTrial" "seerPlayer" "I") (List.mem_of_getElem? (i := 3) rfl)) (fun _ h9 => h9) rfl dX1_look_28 ?_
          refine lv_icmp_ne (tgt := 44) hx hb dX1_look_31 (by decide) (fun c_5 => ?_) (fun c_5 => ?_)
          · exact absurd (by (first | rfl | (simp only [kYl, c_1, c_2, c_3, c_4, c_5, eq_self, ↓reduceIte]; done) | (simp only [kYl, c_1, c_2, c_3, c_4, c_5, eq_self, ↓reduceIte]; rfl) | (simp only [kYl, eq_true c_1, c_2, c_3, c_4, c_5, eq_self, ↓reduceIte]; done) | (simp only [kYl, eq_true c_1, c_2, c_3, c_4, c_5, eq_self, ↓reduceIte]; rfl) | (simp [kYl, eq_true c_1, c_2, c_3, c_4, c_5]; done) | simp [kYl, c_1, c_2, c_3, c_4, c_5])) hk
          · have ek9 : kYl a q = 3 := by (first | rfl | (simp only [kYl, c_1, c_2, c_3, c_4, eq_true c_5, eq_self, ↓reduceIte]; done) | (simp only [kYl, c_1, c_2, c_3, c_4, eq_true c_5, eq_self, ↓reduceIte]; rfl) | (simp only [kYl, eq_true c_1, c_2, c_3, c_4, eq_true c_5, eq_self, ↓reduceIte]; done) | (simp only [kYl, eq_true c_1, c_2, c_3, c_4, eq_true c_5, eq_self, ↓reduceIte]; rfl) | (simp [kYl, eq_true c_1, c_2, c_3, c_4, eq_true c_5]; done) | simp [kYl, c_1, c_2, c_3, c_4, eq_true c_5])
            rw [ek9]
            exact ty_throw (E := "java/lang/IllegalArgumentException") hx hb hst hown rfl (by decide +kernel) (hts (.classLink RX1 40 "java/lang/IllegalArgumentException") (List.mem_of_getElem? (i := 1) rfl)) (hts (.initialized "java/lang/IllegalArgumentException") (List.mem_of_getElem? (i := 2) rfl)) hN hY 6 rfl 2 rfl (fun w h => hts w (List.mem_cons_of_mem _ (List.mem_append_left _ (List.mem_append_left _ (List.mem_append_right _ h))))) (by decide +kernel) (by decide +kernel) hZ hS hP (hl.1.trans hml.symm) dX1_look_34 dX1_look_37 dX1_look_38 dX1_look_40 dX1_look_43 hout (Nat.le_of_ble_eq_true rfl) (Nat.le_of_ble_eq_true rfl) (Nat.le_of_ble_eq_true rfl) (Nat.le_of_ble_eq_true rfl) hlocks
      · have c_3 : (yPl a q) = false := eq_false_of_ne_true c_3
        have ek9 : kYl a q = 2 := by (first | rfl | (simp only [kYl, c_1, c_2, c_3, eq_self, ↓reduceIte]; done) | (simp only [kYl, c_1, c_2, c_3, eq_self, ↓reduceIte]; rfl) | (simp only [kYl, eq_true c_1, c_2, c_3, eq_self, ↓reduceIte]; done) | (simp only [kYl, eq_true c_1, c_2, c_3, eq_self, ↓reduceIte]; rfl) | (simp [kYl, eq_true c_1, c_2, c_3]; done) | simp [kYl, c_1, c_2, c_3])
        rw [ek9]
        exact ty_V (b := hT) (As := [.int q]) (rest := []) ⟨hx, hb, hml, hown, hts⟩ (t_X1_requirePlayer l D cI cZ cJ _ hst hT hB hV a q c_3) (cwV 1 hts gX1_look_X1_requirePlayer rfl rfl rfl (by decide +kernel) ⟨Nat.le_of_ble_eq_true rfl, Nat.le_of_ble_eq_true rfl⟩) hP hD hK hN hY hS hA hZ (va_recv hK hP (ci := 1) (q0 := 0) rfl rfl) rfl hl.1 rfl (Nat.le_of_ble_eq_true rfl) dX1_look_15 ⟨Nat.le_of_ble_eq_true rfl, Nat.le_of_ble_eq_true rfl⟩ [0] [] rfl rfl 1 rfl (by decide) (by decide) hout hlocks
    · have c_2 : (yIn (a 6) (a 4)) = false := eq_false_of_ne_true c_2
      have ek9 : kYl a q = 1 := by (first | rfl | (simp only [kYl, c_1, c_2, eq_self, ↓reduceIte]; done) | (simp only [kYl, c_1, c_2, eq_self, ↓reduceIte]; rfl) | (simp only [kYl, eq_true c_1, c_2, eq_self, ↓reduceIte]; done) | (simp only [kYl, eq_true c_1, c_2, eq_self, ↓reduceIte]; rfl) | (simp [kYl, eq_true c_1, c_2]; done) | simp [kYl, c_1, c_2])
      rw [ek9]
      exact ty_V (b := hT) (As := [.int (a 4)]) (rest := []) ⟨hx, hb, hml, hown, hts⟩ (t_X1_requireToLive l D cI cZ cJ _ hst hT hB hV a (a 4) c_2) (cwV 1 hts gX1_look_X1_requireToLive rfl rfl rfl (by decide +kernel) ⟨Nat.le_of_ble_eq_true rfl, Nat.le_of_ble_eq_true rfl⟩) hP hD hK hN hY hS hA hZ (va_recv hK hP (ci := 1) (q0 := 0) rfl rfl) rfl hl.1 rfl (Nat.le_of_ble_eq_true rfl) dX1_look_10 ⟨Nat.le_of_ble_eq_true rfl, Nat.le_of_ble_eq_true rfl⟩ [0] [] rfl rfl 1 rfl (by decide) (by decide) hout hlocks
  · have ek9 : kYl a q = 1 := by (first | rfl | (simp only [kYl, c_1, eq_self, ↓reduceIte]; done) | (simp only [kYl, c_1, eq_self, ↓reduceIte]; rfl) | simp [kYl, c_1])
    rw [ek9]
    exact ty_V (b := hT) (As := [.int 2]) (rest := []) ⟨hx, hb, hml, hown, hts⟩ (t_X1_requirePhase l D cI cZ cJ _ hst hT hB hV a 2 c_1) (cwV 1 hts gX1_look_X1_requirePhase rfl rfl rfl (by decide +kernel) ⟨Nat.le_of_ble_eq_true rfl, Nat.le_of_ble_eq_true rfl⟩) hP hD hK hN hY hS hA hZ (va_recv hK hP (ci := 1) (q0 := 0) rfl rfl) rfl hl.1 rfl (Nat.le_of_ble_eq_true rfl) dX1_look_2 ⟨Nat.le_of_ble_eq_true rfl, Nat.le_of_ble_eq_true rfl⟩ [0] [] rfl rfl 1 rfl (by decide) (by decide) hout hlocks

set_option maxHeartbeats 2000000 in
set_option maxRecDepth 100000 in
theorem t_X1_endNight (l : Launch) (D : va_G) (cI cZ cJ : ClassId) (sz : Nat) (hst : l.stackTraces = false) (hT : Nat) (hB : Nat) (hV : Nat) (a : Nat → Int32) (hk : ¬ kYh a 2 = 0) : Ty l D cI cZ cJ yX1_endNight wsX1_endNight 7 111 sz [.ref hT] [cT hT hB hV a] (kYh a 2) := by
  refine ty_of (by decide) rfl (Nat.le_of_ble_eq_true rfl) (fun p e s m below meth c ls A hx hb hr hml hts hown hlocks hout hP hK hN hD hA hS hZ hY hl => ?_)
  have hl : lv_has ls 2 [(0, .ref hT)] := hl
  refine lv_aload_n hx hb dX1_endNight_0 rfl (lv_at hl 0 rfl) ?_
  refine lv_iconst (v := 2) hx hb dX1_endNight_1 (by decide) ?_
  by_cases c_1 : (a 0) = 2
  · refine rv_V (b := hT) (As := [.int 2]) (rest := []) ⟨hx, hb, hml, hown, hts⟩ (c_X1_requirePhase l D cI cZ cJ hT hB hV a 2 c_1) (cwV 1 hts gX1_endNight_X1_requirePhase rfl rfl rfl (by decide +kernel) ⟨Nat.le_of_ble_eq_true rfl, Nat.le_of_ble_eq_true rfl⟩) (hP.sub (ws' := [cT hT hB hV a]) [0] rfl) hK hN (va_recv hK hP (ci := 1) (q0 := 0) rfl rfl) rfl hl.1 rfl (Nat.le_of_ble_eq_true rfl) dX1_endNight_2 ⟨Nat.le_of_ble_eq_true rfl, Nat.le_of_ble_eq_true rfl⟩ ?_
    exact absurd (by (first | rfl | (simp only [kYh, c_1, eq_self, ↓reduceIte]; done) | (simp only [kYh, c_1, eq_self, ↓reduceIte]; rfl) | (simp only [kYh, eq_true c_1, eq_self, ↓reduceIte]; done) | (simp only [kYh, eq_true c_1, eq_self, ↓reduceIte]; rfl) | (simp [kYh, eq_true c_1]; done) | simp [kYh, c_1])) hk
  · have ek9 : kYh a 2 = 1 := by (first | rfl | (simp only [kYh, c_1, eq_self, ↓reduceIte]; done) | (simp only [kYh, c_1, eq_self, ↓reduceIte]; rfl) | simp [kYh, c_1])
    rw [ek9]
    exact ty_V (b := hT) (As := [.int 2]) (rest := []) ⟨hx, hb, hml, hown, hts⟩ (t_X1_requirePhase l D cI cZ cJ _ hst hT hB hV a 2 c_1) (cwV 1 hts gX1_endNight_X1_requirePhase rfl rfl rfl (by decide +kernel) ⟨Nat.le_of_ble_eq_true rfl, Nat.le_of_ble_eq_true rfl⟩) hP hD hK hN hY hS hA hZ (va_recv hK hP (ci := 1) (q0 := 0) rfl rfl) rfl hl.1 rfl (Nat.le_of_ble_eq_true rfl) dX1_endNight_2 ⟨Nat.le_of_ble_eq_true rfl, Nat.le_of_ble_eq_true rfl⟩ [0] [] rfl rfl 1 rfl (by decide) (by decide) hout hlocks

set_option maxHeartbeats 2000000 in
set_option maxRecDepth 100000 in
theorem t_X1_day (l : Launch) (D : va_G) (cI cZ cJ : ClassId) (sz : Nat) (hst : l.stackTraces = false) (hT : Nat) (hB : Nat) (hV : Nat) (a : Nat → Int32) (hk : ¬ kYg a = 0) : Ty l D cI cZ cJ yX1_day wsX1_day 7 110 sz [.ref hT] [cT hT hB hV a] (kYg a) := by
  refine ty_of (by decide) rfl (Nat.le_of_ble_eq_true rfl) (fun p e s m below meth c ls A hx hb hr hml hts hown hlocks hout hP hK hN hD hA hS hZ hY hl => ?_)
  have hl : lv_has ls 1 [(0, .ref hT)] := hl
  refine lv_aload_n hx hb dX1_day_0 rfl (lv_at hl 0 rfl) ?_
  by_cases c_1 : (a 0) = 0
  · have ek9 : kYg a = 1 := by (first | rfl | (simp only [kYg, c_1, eq_self, ↓reduceIte]; done) | (simp only [kYg, c_1, eq_self, ↓reduceIte]; rfl) | (simp only [kYg, eq_true c_1, eq_self, ↓reduceIte]; done) | (simp only [kYg, eq_true c_1, eq_self, ↓reduceIte]; rfl) | (simp [kYg, eq_true c_1]; done) | simp [kYg, c_1])
    rw [ek9]
    exact ty_V (b := hT) (As := []) (rest := []) ⟨hx, hb, hml, hown, hts⟩ (t_X1_requireGame l D cI cZ cJ _ hst hT hB hV a c_1) (cwV 0 hts gX1_day_X1_requireGame rfl rfl rfl (by decide +kernel) ⟨Nat.le_of_ble_eq_true rfl, Nat.le_of_ble_eq_true rfl⟩) hP hD hK hN hY hS hA hZ (va_recv hK hP (ci := 1) (q0 := 0) rfl rfl) rfl hl.1 rfl (Nat.le_of_ble_eq_true rfl) dX1_day_1 ⟨Nat.le_of_ble_eq_true rfl, Nat.le_of_ble_eq_true rfl⟩ [0] [] rfl rfl 1 rfl (by decide) (by decide) hout hlocks
  · refine rv_V (b := hT) (As := []) (rest := []) ⟨hx, hb, hml, hown, hts⟩ (c_X1_requireGame l D cI cZ cJ hT hB hV a c_1) (cwV 0 hts gX1_day_X1_requireGame rfl rfl rfl (by decide +kernel) ⟨Nat.le_of_ble_eq_true rfl, Nat.le_of_ble_eq_true rfl⟩) (hP.sub (ws' := [cT hT hB hV a]) [0] rfl) hK hN (va_recv hK hP (ci := 1) (q0 := 0) rfl rfl) rfl hl.1 rfl (Nat.le_of_ble_eq_true rfl) dX1_day_1 ⟨Nat.le_of_ble_eq_true rfl, Nat.le_of_ble_eq_true rfl⟩ ?_
    exact absurd (by (first | rfl | (simp only [kYg, c_1, eq_self, ↓reduceIte]; done) | (simp only [kYg, c_1, eq_self, ↓reduceIte]; rfl) | simp [kYg, c_1])) hk

set_option maxHeartbeats 2000000 in
set_option maxRecDepth 100000 in
theorem t_X1_alive (l : Launch) (D : va_G) (cI cZ cJ : ClassId) (sz : Nat) (hst : l.stackTraces = false) (hT : Nat) (hB : Nat) (hV : Nat) (a : Nat → Int32) (hk : ¬ kYg a = 0) : Ty l D cI cZ cJ yX1_alive wsX1_alive 7 110 sz [.ref hT] [cT hT hB hV a] (kYg a) := by
  refine ty_of (by decide) rfl (Nat.le_of_ble_eq_true rfl) (fun p e s m below meth c ls A hx hb hr hml hts hown hlocks hout hP hK hN hD hA hS hZ hY hl => ?_)
  have hl : lv_has ls 1 [(0, .ref hT)] := hl
  refine lv_aload_n hx hb dX1_alive_0 rfl (lv_at hl 0 rfl) ?_
  by_cases c_1 : (a 0) = 0
  · have ek9 : kYg a = 1 := by (first | rfl | (simp only [kYg, c_1, eq_self, ↓reduceIte]; done) | (simp only [kYg, c_1, eq_self, ↓reduceIte]; rfl) | (simp only [kYg, eq_true c_1, eq_self, ↓reduceIte]; done) | (simp only [kYg, eq_true c_1, eq_self, ↓reduceIte]; rfl) | (simp [kYg, eq_true c_1]; done) | simp [kYg, c_1])
    rw [ek9]
    exact ty_V (b := hT) (As := []) (rest := []) ⟨hx, hb, hml, hown, hts⟩ (t_X1_requireGame l D cI cZ cJ _ hst hT hB hV a c_1) (cwV 0 hts gX1_alive_X1_requireGame rfl rfl rfl (by decide +kernel) ⟨Nat.le_of_ble_eq_true rfl, Nat.le_of_ble_eq_true rfl⟩) hP hD hK hN hY hS hA hZ (va_recv hK hP (ci := 1) (q0 := 0) rfl rfl) rfl hl.1 rfl (Nat.le_of_ble_eq_true rfl) dX1_alive_1 ⟨Nat.le_of_ble_eq_true rfl, Nat.le_of_ble_eq_true rfl⟩ [0] [] rfl rfl 1 rfl (by decide) (by decide) hout hlocks
  · refine rv_V (b := hT) (As := []) (rest := []) ⟨hx, hb, hml, hown, hts⟩ (c_X1_requireGame l D cI cZ cJ hT hB hV a c_1) (cwV 0 hts gX1_alive_X1_requireGame rfl rfl rfl (by decide +kernel) ⟨Nat.le_of_ble_eq_true rfl, Nat.le_of_ble_eq_true rfl⟩) (hP.sub (ws' := [cT hT hB hV a]) [0] rfl) hK hN (va_recv hK hP (ci := 1) (q0 := 0) rfl rfl) rfl hl.1 rfl (Nat.le_of_ble_eq_true rfl) dX1_alive_1 ⟨Nat.le_of_ble_eq_true rfl, Nat.le_of_ble_eq_true rfl⟩ ?_
    exact absurd (by (first | rfl | (simp only [kYg, c_1, eq_self, ↓reduceIte]; done) | (simp only [kYg, c_1, eq_self, ↓reduceIte]; rfl) | simp [kYg, c_1])) hk

set_option maxHeartbeats 2000000 in
set_option maxRecDepth 100000 in
theorem t_X1_lookedAt (l : Launch) (D : va_G) (cI cZ cJ : ClassId) (sz : Nat) (hst : l.stackTraces = false) (hT : Nat) (hB : Nat) (hV : Nat) (a : Nat → Int32) (hk : ¬ kYg a = 0) : Ty l D cI cZ cJ yX1_lookedAt wsX1_lookedAt 7 110 sz [.ref hT] [cT hT hB hV a] (kYg a) := by
  refine ty_of (by decide) rfl (Nat.le_of_ble_eq_true rfl) (fun p e s m below meth c ls A hx hb hr hml hts hown hlocks hout hP hK hN hD hA hS hZ hY hl => ?_)
  have hl : lv_has ls 1 [(0, .ref hT)] := hl
  refine lv_aload_n hx hb dX1_lookedAt_0 rfl (lv_at hl 0 rfl) ?_
  by_cases c_1 : (a 0) = 0
  · have ek9 : kYg a = 1 := by (first | rfl | (simp only [kYg, c_1, eq_self, ↓reduceIte]; done) | (simp only [kYg, c_1, eq_self, ↓reduceIte]; rfl) | (simp only [kYg, eq_true c_1, eq_self, ↓reduceIte]; done) | (simp only [kYg, eq_true c_1, eq_self, ↓reduceIte]; rfl) | (simp [kYg, eq_true c_1]; done) | simp [kYg, c_1])
    rw [ek9]
    exact ty_V (b := hT) (As := []) (rest := []) ⟨hx, hb, hml, hown, hts⟩ (t_X1_requireGame l D cI cZ cJ _ hst hT hB hV a c_1) (cwV 0 hts gX1_lookedAt_X1_requireGame rfl rfl rfl (by decide +kernel) ⟨Nat.le_of_ble_eq_true rfl, Nat.le_of_ble_eq_true rfl⟩) hP hD hK hN hY hS hA hZ (va_recv hK hP (ci := 1) (q0 := 0) rfl rfl) rfl hl.1 rfl (Nat.le_of_ble_eq_true rfl) dX1_lookedAt_1 ⟨Nat.le_of_ble_eq_true rfl, Nat.le_of_ble_eq_true rfl⟩ [0] [] rfl rfl 1 rfl (by decide) (by decide) hout hlocks
  · refine rv_V (b := hT) (As := []) (rest := []) ⟨hx, hb, hml, hown, hts⟩ (c_X1_requireGame l D cI cZ cJ hT hB hV a c_1) (cwV 0 hts gX1_lookedAt_X1_requireGame rfl rfl rfl (by decide +kernel) ⟨Nat.le_of_ble_eq_true rfl, Nat.le_of_ble_eq_true rfl⟩) (hP.sub (ws' := [cT hT hB hV a]) [0] rfl) hK hN (va_recv hK hP (ci := 1) (q0 := 0) rfl rfl) rfl hl.1 rfl (Nat.le_of_ble_eq_true rfl) dX1_lookedAt_1 ⟨Nat.le_of_ble_eq_true rfl, Nat.le_of_ble_eq_true rfl⟩ ?_
    exact absurd (by (first | rfl | (simp only [kYg, c_1, eq_self, ↓reduceIte]; done) | (simp only [kYg, c_1, eq_self, ↓reduceIte]; rfl) | simp [kYg, c_1])) hk

set_option maxHeartbeats 2000000 in
set_option maxRecDepth 100000 in
theorem t_X1_votesFor (l : Launch) (D : va_G) (cI cZ cJ : ClassId) (sz : Nat) (hst : l.stackTraces = false) (hT : Nat) (hB : Nat) (hV : Nat) (a : Nat → Int32) (q : Int32) (hk : ¬ kYo a q = 0) : Ty l D cI cZ cJ yX1_votesFor wsX1_votesFor 7 111 sz [.ref hT, .int q] [cT hT hB hV a] (kYo a q) := by
  refine ty_of (by decide) rfl (Nat.le_of_ble_eq_true rfl) (fun p e s m below meth c ls A hx hb hr hml hts hown hlocks hout hP hK hN hD hA hS hZ hY hl => ?_)
  have hl : lv_has ls 2 [(0, .ref hT), (1, .int q)] := hl
  refine lv_aload_n hx hb dX1_votesFor_0 rfl (lv_at hl 0 rfl) ?_
  by_cases c_1 : (a 0) = 0
  · have ek9 : kYo a q = 1 := by (first | rfl | (simp only [kYo, c_1, eq_self, ↓reduceIte]; done) | (simp only [kYo, c_1, eq_self, ↓reduceIte]; rfl) | (simp only [kYo, eq_true c_1, eq_self, ↓reduceIte]; done) | (simp only [kYo, eq_true c_1, eq_self, ↓reduceIte]; rfl) | (simp [kYo, eq_true c_1]; done) | simp [kYo, c_1])
    rw [ek9]
    exact ty_V (b := hT) (As := []) (rest := []) ⟨hx, hb, hml, hown, hts⟩ (t_X1_requireGame l D cI cZ cJ _ hst hT hB hV a c_1) (cwV 0 hts gX1_votesFor_X1_requireGame rfl rfl rfl (by decide +kernel) ⟨Nat.le_of_ble_eq_true rfl, Nat.le_of_ble_eq_true rfl⟩) hP hD hK hN hY hS hA hZ (va_recv hK hP (ci := 1) (q0 := 0) rfl rfl) rfl hl.1 rfl (Nat.le_of_ble_eq_true rfl) dX1_votesFor_1 ⟨Nat.le_of_ble_eq_true rfl, Nat.le_of_ble_eq_true rfl⟩ [0] [] rfl rfl 1 rfl (by decide) (by decide) hout hlocks
  · refine rv_V (b := hT) (As := []) (rest := []) ⟨hx, hb, hml, hown, hts⟩ (c_X1_requireGame l D cI cZ cJ hT hB hV a c_1) (cwV 0 hts gX1_votesFor_X1_requireGame rfl rfl rfl (by decide +kernel) ⟨Nat.le_of_ble_eq_true rfl, Nat.le_of_ble_eq_true rfl⟩) (hP.sub (ws' := [cT hT hB hV a]) [0] rfl) hK hN (va_recv hK hP (ci := 1) (q0 := 0) rfl rfl) rfl hl.1 rfl (Nat.le_of_ble_eq_true rfl) dX1_votesFor_1 ⟨Nat.le_of_ble_eq_true rfl, Nat.le_of_ble_eq_true rfl⟩ ?_
    refine lv_aload_n hx hb dX1_votesFor_4 rfl (lv_at hl 0 rfl) ?_
    refine lv_iload_n hx hb dX1_votesFor_5 rfl (lv_at hl 1 rfl) ?_
    by_cases c_2 : (yPl a q) = true
    · refine rv_V (b := hT) (As := [.int q]) (rest := []) ⟨hx, hb, hml, hown, hts⟩ (c_X1_requirePlayer l D cI cZ cJ hT hB hV a q c_2) (cwV 1 hts gX1_votesFor_X1_requirePlayer rfl rfl rfl (by decide +kernel) ⟨Nat.le_of_ble_eq_true rfl, Nat.le_of_ble_eq_true rfl⟩) (hP.sub (ws' := [cT hT hB hV a]) [0] rfl) hK hN (va_recv hK hP (ci := 1) (q0 := 0) rfl rfl) rfl hl.1 rfl (Nat.le_of_ble_eq_true rfl) dX1_votesFor_6 ⟨Nat.le_of_ble_eq_true rfl, Nat.le_of_ble_eq_true rfl⟩ ?_
      exact absurd (by (first | rfl | (simp only [kYo, c_1, c_2, eq_self, ↓reduceIte]; done) | (simp only [kYo, c_1, c_2, eq_self, ↓reduceIte]; rfl) | simp [kYo, c_1, c_2])) hk
    · have c_2 : (yPl a q) = false := eq_false_of_ne_true c_2
      have ek9 : kYo a q = 2 := by (first | rfl | (simp only [kYo, c_1, c_2, eq_self, ↓reduceIte]; done) | (simp only [kYo, c_1, c_2, eq_self, ↓reduceIte]; rfl) | simp [kYo, c_1, c_2])
      rw [ek9]
      exact ty_V (b := hT) (As := [.int q]) (rest := []) ⟨hx, hb, hml, hown, hts⟩ (t_X1_requirePlayer l D cI cZ cJ _ hst hT hB hV a q c_2) (cwV 1 hts gX1_votesFor_X1_requirePlayer rfl rfl rfl (by decide +kernel) ⟨Nat.le_of_ble_eq_true rfl, Nat.le_of_ble_eq_true rfl⟩) hP hD hK hN hY hS hA hZ (va_recv hK hP (ci := 1) (q0 := 0) rfl rfl) rfl hl.1 rfl (Nat.le_of_ble_eq_true rfl) dX1_votesFor_6 ⟨Nat.le_of_ble_eq_true rfl, Nat.le_of_ble_eq_true rfl⟩ [0] [] rfl rfl 1 rfl (by decide) (by decide) hout hlocks

set_option maxHeartbeats 2000000 in
set_option maxRecDepth 100000 in
theorem t_X1_worlds (l : Launch) (D : va_G) (cI cZ cJ : ClassId) (sz : Nat) (hst : l.stackTraces = false) (hT : Nat) (hB : Nat) (hV : Nat) (a : Nat → Int32) (q : Int32) (hk : ¬ kYw a q = 0) : Ty l D cI cZ cJ yX1_worlds wsX1_worlds 8 132 sz [.ref hT, .int q] [cT hT hB hV a] (kYw a q) := by
  refine ty_of (by decide) rfl (Nat.le_of_ble_eq_true rfl) (fun p e s m below meth c ls A hx hb hr hml hts hown hlocks hout hP hK hN hD hA hS hZ hY hl => ?_)
  have hl : lv_has ls 2 [(0, .ref hT), (1, .int q)] := hl
  refine lv_aload_n hx hb dX1_worlds_0 rfl (lv_at hl 0 rfl) ?_
  by_cases c_1 : (a 0) = 0
  · have ek9 : kYw a q = 1 := by (first | rfl | (simp only [kYw, c_1, eq_self, ↓reduceIte]; done) | (simp only [kYw, c_1, eq_self, ↓reduceIte]; rfl) | (simp only [kYw, eq_true c_1, eq_self, ↓reduceIte]; done) | (simp only [kYw, eq_true c_1, eq_self, ↓reduceIte]; rfl) | (simp [kYw, eq_true c_1]; done) | simp [kYw, c_1])
    rw [ek9]
    exact ty_V (b := hT) (As := []) (rest := []) ⟨hx, hb, hml, hown, hts⟩ (t_X1_requireGame l D cI cZ cJ _ hst hT hB hV a c_1) (cwV 0 hts gX1_worlds_X1_requireGame rfl rfl rfl (by decide +kernel) ⟨Nat.le_of_ble_eq_true rfl, Nat.le_of_ble_eq_true rfl⟩) hP hD hK hN hY hS hA hZ (va_recv hK hP (ci := 1) (q0 := 0) rfl rfl) rfl hl.1 rfl (Nat.le_of_ble_eq_true rfl) dX1_worlds_1 ⟨Nat.le_of_ble_eq_true rfl, Nat.le_of_ble_eq_true rfl⟩ [0] [] rfl rfl 1 rfl (by decide) (by decide) hout hlocks
  · refine rv_V (b := hT) (As := []) (rest := []) ⟨hx, hb, hml, hown, hts⟩ (c_X1_requireGame l D cI cZ cJ hT hB hV a c_1) (cwV 0 hts gX1_worlds_X1_requireGame rfl rfl rfl (by decide +kernel) ⟨Nat.le_of_ble_eq_true rfl, Nat.le_of_ble_eq_true rfl⟩) (hP.sub (ws' := [cT hT hB hV a]) [0] rfl) hK hN (va_recv hK hP (ci := 1) (q0 := 0) rfl rfl) rfl hl.1 rfl (Nat.le_of_ble_eq_true rfl) dX1_worlds_1 ⟨Nat.le_of_ble_eq_true rfl, Nat.le_of_ble_eq_true rfl⟩ ?_
    refine lv_aload_n hx hb dX1_worlds_4 rfl (lv_at hl 0 rfl) ?_
    refine lv_iload_n hx hb dX1_worlds_5 rfl (lv_at hl 1 rfl) ?_
    by_cases c_2 : (yVw a q) = true
    · refine rv_V (b := hT) (As := [.int q]) (rest := []) ⟨hx, hb, hml, hown, hts⟩ (c_X1_requireViewer l D cI cZ cJ hT hB hV a q c_2) (cwV 1 hts gX1_worlds_X1_requireViewer rfl rfl rfl (by decide +kernel) ⟨Nat.le_of_ble_eq_true rfl, Nat.le_of_ble_eq_true rfl⟩) (hP.sub (ws' := [cT hT hB hV a]) [0] rfl) hK hN (va_recv hK hP (ci := 1) (q0 := 0) rfl rfl) rfl hl.1 rfl (Nat.le_of_ble_eq_true rfl) dX1_worlds_6 ⟨Nat.le_of_ble_eq_true rfl, Nat.le_of_ble_eq_true rfl⟩ ?_
      exact absurd (by (first | rfl | (simp only [kYw, c_1, c_2, eq_self, ↓reduceIte]; done) | (simp only [kYw, c_1, c_2, eq_self, ↓reduceIte]; rfl) | simp [kYw, c_1, c_2])) hk
    · have c_2 : (yVw a q) = false := eq_false_of_ne_true c_2
      have ek9 : kYw a q = 2 := by (first | rfl | (simp only [kYw, c_1, c_2, eq_self, ↓reduceIte]; done) | (simp only [kYw, c_1, c_2, eq_self, ↓reduceIte]; rfl) | simp [kYw, c_1, c_2])
      rw [ek9]
      exact ty_V (b := hT) (As := [.int q]) (rest := []) ⟨hx, hb, hml, hown, hts⟩ (t_X1_requireViewer l D cI cZ cJ _ hst hT hB hV a q c_2) (cwV 1 hts gX1_worlds_X1_requireViewer rfl rfl rfl (by decide +kernel) ⟨Nat.le_of_ble_eq_true rfl, Nat.le_of_ble_eq_true rfl⟩) hP hD hK hN hY hS hA hZ (va_recv hK hP (ci := 1) (q0 := 0) rfl rfl) rfl hl.1 rfl (Nat.le_of_ble_eq_true rfl) dX1_worlds_6 ⟨Nat.le_of_ble_eq_true rfl, Nat.le_of_ble_eq_true rfl⟩ [0] [] rfl rfl 1 rfl (by decide) (by decide) hout hlocks

set_option maxHeartbeats 2000000 in
set_option maxRecDepth 100000 in
theorem t_X1_sureWitches (l : Launch) (D : va_G) (cI cZ cJ : ClassId) (sz : Nat) (hst : l.stackTraces = false) (hT : Nat) (hB : Nat) (hV : Nat) (a : Nat → Int32) (q : Int32) (hk : ¬ kYw a q = 0) : Ty l D cI cZ cJ yX1_sureWitches wsX1_sureWitches 8 132 sz [.ref hT, .int q] [cT hT hB hV a] (kYw a q) := by
  refine ty_of (by decide) rfl (Nat.le_of_ble_eq_true rfl) (fun p e s m below meth c ls A hx hb hr hml hts hown hlocks hout hP hK hN hD hA hS hZ hY hl => ?_)
  have hl : lv_has ls 2 [(0, .ref hT), (1, .int q)] := hl
  refine lv_aload_n hx hb dX1_sureWitches_0 rfl (lv_at hl 0 rfl) ?_
  by_cases c_1 : (a 0) = 0
  · have ek9 : kYw a q = 1 := by (first | rfl | (simp only [kYw, c_1, eq_self, ↓reduceIte]; done) | (simp only [kYw, c_1, eq_self, ↓reduceIte]; rfl) | (simp only [kYw, eq_true c_1, eq_self, ↓reduceIte]; done) | (simp only [kYw, eq_true c_1, eq_self, ↓reduceIte]; rfl) | (simp [kYw, eq_true c_1]; done) | simp [kYw, c_1])
    rw [ek9]
    exact ty_V (b := hT) (As := []) (rest := []) ⟨hx, hb, hml, hown, hts⟩ (t_X1_requireGame l D cI cZ cJ _ hst hT hB hV a c_1) (cwV 0 hts gX1_sureWitches_X1_requireGame rfl rfl rfl (by decide +kernel) ⟨Nat.le_of_ble_eq_true rfl, Nat.le_of_ble_eq_true rfl⟩) hP hD hK hN hY hS hA hZ (va_recv hK hP (ci := 1) (q0 := 0) rfl rfl) rfl hl.1 rfl (Nat.le_of_ble_eq_true rfl) dX1_sureWitches_1 ⟨Nat.le_of_ble_eq_true rfl, Nat.le_of_ble_eq_true rfl⟩ [0] [] rfl rfl 1 rfl (by decide) (by decide) hout hlocks
  · refine rv_V (b := hT) (As := []) (rest := []) ⟨hx, hb, hml, hown, hts⟩ (c_X1_requireGame l D cI cZ cJ hT hB hV a c_1) (cwV 0 hts gX1_sureWitches_X1_requireGame rfl rfl rfl (by decide +kernel) ⟨Nat.le_of_ble_eq_true rfl, Nat.le_of_ble_eq_true rfl⟩) (hP.sub (ws' := [cT hT hB hV a]) [0] rfl) hK hN (va_recv hK hP (ci := 1) (q0 := 0) rfl rfl) rfl hl.1 rfl (Nat.le_of_ble_eq_true rfl) dX1_sureWitches_1 ⟨Nat.le_of_ble_eq_true rfl, Nat.le_of_ble_eq_true rfl⟩ ?_
    refine lv_aload_n hx hb dX1_sureWitches_4 rfl (lv_at hl 0 rfl) ?_
    refine lv_iload_n hx hb dX1_sureWitches_5 rfl (lv_at hl 1 rfl) ?_
    by_cases c_2 : (yVw a q) = true
    · refine rv_V (b := hT) (As := [.int q]) (rest := []) ⟨hx, hb, hml, hown, hts⟩ (c_X1_requireViewer l D cI cZ cJ hT hB hV a q c_2) (cwV 1 hts gX1_sureWitches_X1_requireViewer rfl rfl rfl (by decide +kernel) ⟨Nat.le_of_ble_eq_true rfl, Nat.le_of_ble_eq_true rfl⟩) (hP.sub (ws' := [cT hT hB hV a]) [0] rfl) hK hN (va_recv hK hP (ci := 1) (q0 := 0) rfl rfl) rfl hl.1 rfl (Nat.le_of_ble_eq_true rfl) dX1_sureWitches_6 ⟨Nat.le_of_ble_eq_true rfl, Nat.le_of_ble_eq_true rfl⟩ ?_
      exact absurd (by (first | rfl | (simp only [kYw, c_1, c_2, eq_self, ↓reduceIte]; done) | (simp only [kYw, c_1, c_2, eq_self, ↓reduceIte]; rfl) | simp [kYw, c_1, c_2])) hk
    · have c_2 : (yVw a q) = false := eq_false_of_ne_true c_2
      have ek9 : kYw a q = 2 := by (first | rfl | (simp only [kYw, c_1, c_2, eq_self, ↓reduceIte]; done) | (simp only [kYw, c_1, c_2, eq_self, ↓reduceIte]; rfl) | simp [kYw, c_1, c_2])
      rw [ek9]
      exact ty_V (b := hT) (As := [.int q]) (rest := []) ⟨hx, hb, hml, hown, hts⟩ (t_X1_requireViewer l D cI cZ cJ _ hst hT hB hV a q c_2) (cwV 1 hts gX1_sureWitches_X1_requireViewer rfl rfl rfl (by decide +kernel) ⟨Nat.le_of_ble_eq_true rfl, Nat.le_of_ble_eq_true rfl⟩) hP hD hK hN hY hS hA hZ (va_recv hK hP (ci := 1) (q0 := 0) rfl rfl) rfl hl.1 rfl (Nat.le_of_ble_eq_true rfl) dX1_sureWitches_6 ⟨Nat.le_of_ble_eq_true rfl, Nat.le_of_ble_eq_true rfl⟩ [0] [] rfl rfl 1 rfl (by decide) (by decide) hout hlocks

set_option maxHeartbeats 2000000 in
set_option maxRecDepth 100000 in
theorem t_X1_sureHonest (l : Launch) (D : va_G) (cI cZ cJ : ClassId) (sz : Nat) (hst : l.stackTraces = false) (hT : Nat) (hB : Nat) (hV : Nat) (a : Nat → Int32) (q : Int32) (hk : ¬ kYw a q = 0) : Ty l D cI cZ cJ yX1_sureHonest wsX1_sureHonest 8 132 sz [.ref hT, .int q] [cT hT hB hV a] (kYw a q) := by
  refine ty_of (by decide) rfl (Nat.le_of_ble_eq_true rfl) (fun p e s m below meth c ls A hx hb hr hml hts hown hlocks hout hP hK hN hD hA hS hZ hY hl => ?_)
  have hl : lv_has ls 2 [(0, .ref hT), (1, .int q)] := hl
  refine lv_aload_n hx hb dX1_sureHonest_0 rfl (lv_at hl 0 rfl) ?_
  by_cases c_1 : (a 0) = 0
  · have ek9 : kYw a q = 1 := by (first | rfl | (simp only [kYw, c_1, eq_self, ↓reduceIte]; done) | (simp only [kYw, c_1, eq_self, ↓reduceIte]; rfl) | (simp only [kYw, eq_true c_1, eq_self, ↓reduceIte]; done) | (simp only [kYw, eq_true c_1, eq_self, ↓reduceIte]; rfl) | (simp [kYw, eq_true c_1]; done) | simp [kYw, c_1])
    rw [ek9]
    exact ty_V (b := hT) (As := []) (rest := []) ⟨hx, hb, hml, hown, hts⟩ (t_X1_requireGame l D cI cZ cJ _ hst hT hB hV a c_1) (cwV 0 hts gX1_sureHonest_X1_requireGame rfl rfl rfl (by decide +kernel) ⟨Nat.le_of_ble_eq_true rfl, Nat.le_of_ble_eq_true rfl⟩) hP hD hK hN hY hS hA hZ (va_recv hK hP (ci := 1) (q0 := 0) rfl rfl) rfl hl.1 rfl (Nat.le_of_ble_eq_true rfl) dX1_sureHonest_1 ⟨Nat.le_of_ble_eq_true rfl, Nat.le_of_ble_eq_true rfl⟩ [0] [] rfl rfl 1 rfl (by decide) (by decide) hout hlocks
  · refine rv_V (b := hT) (As := []) (rest := []) ⟨hx, hb, hml, hown, hts⟩ (c_X1_requireGame l D cI cZ cJ hT hB hV a c_1) (cwV 0 hts gX1_sureHonest_X1_requireGame rfl rfl rfl (by decide +kernel) ⟨Nat.le_of_ble_eq_true rfl, Nat.le_of_ble_eq_true rfl⟩) (hP.sub (ws' := [cT hT hB hV a]) [0] rfl) hK hN (va_recv hK hP (ci := 1) (q0 := 0) rfl rfl) rfl hl.1 rfl (Nat.le_of_ble_eq_true rfl) dX1_sureHonest_1 ⟨Nat.le_of_ble_eq_true rfl, Nat.le_of_ble_eq_true rfl⟩ ?_
    refine lv_aload_n hx hb dX1_sureHonest_4 rfl (lv_at hl 0 rfl) ?_
    refine lv_iload_n hx hb dX1_sureHonest_5 rfl (lv_at hl 1 rfl) ?_
    by_cases c_2 : (yVw a q) = true
    · refine rv_V (b := hT) (As := [.int q]) (rest := []) ⟨hx, hb, hml, hown, hts⟩ (c_X1_requireViewer l D cI cZ cJ hT hB hV a q c_2) (cwV 1 hts gX1_sureHonest_X1_requireViewer rfl rfl rfl (by decide +kernel) ⟨Nat.le_of_ble_eq_true rfl, Nat.le_of_ble_eq_true rfl⟩) (hP.sub (ws' := [cT hT hB hV a]) [0] rfl) hK hN (va_recv hK hP (ci := 1) (q0 := 0) rfl rfl) rfl hl.1 rfl (Nat.le_of_ble_eq_true rfl) dX1_sureHonest_6 ⟨Nat.le_of_ble_eq_true rfl, Nat.le_of_ble_eq_true rfl⟩ ?_
      exact absurd (by (first | rfl | (simp only [kYw, c_1, c_2, eq_self, ↓reduceIte]; done) | (simp only [kYw, c_1, c_2, eq_self, ↓reduceIte]; rfl) | simp [kYw, c_1, c_2])) hk
    · have c_2 : (yVw a q) = false := eq_false_of_ne_true c_2
      have ek9 : kYw a q = 2 := by (first | rfl | (simp only [kYw, c_1, c_2, eq_self, ↓reduceIte]; done) | (simp only [kYw, c_1, c_2, eq_self, ↓reduceIte]; rfl) | simp [kYw, c_1, c_2])
      rw [ek9]
      exact ty_V (b := hT) (As := [.int q]) (rest := []) ⟨hx, hb, hml, hown, hts⟩ (t_X1_requireViewer l D cI cZ cJ _ hst hT hB hV a q c_2) (cwV 1 hts gX1_sureHonest_X1_requireViewer rfl rfl rfl (by decide +kernel) ⟨Nat.le_of_ble_eq_true rfl, Nat.le_of_ble_eq_true rfl⟩) hP hD hK hN hY hS hA hZ (va_recv hK hP (ci := 1) (q0 := 0) rfl rfl) rfl hl.1 rfl (Nat.le_of_ble_eq_true rfl) dX1_sureHonest_6 ⟨Nat.le_of_ble_eq_true rfl, Nat.le_of_ble_eq_true rfl⟩ [0] [] rfl rfl 1 rfl (by decide) (by decide) hout hlocks

set_option maxHeartbeats 2000000 in
set_option maxRecDepth 100000 in
theorem t_X1_witchSets (l : Launch) (D : va_G) (cI cZ cJ : ClassId) (sz : Nat) (hst : l.stackTraces = false) (hT : Nat) (hB : Nat) (hV : Nat) (a : Nat → Int32) (q : Int32) (hk : ¬ kYw a q = 0) : Ty l D cI cZ cJ yX1_witchSets wsX1_witchSets 8 132 sz [.ref hT, .int q] [cT hT hB hV a] (kYw a q) := by
  refine ty_of (by decide) rfl (Nat.le_of_ble_eq_true rfl) (fun p e s m below meth c ls A hx hb hr hml hts hown hlocks hout hP hK hN hD hA hS hZ hY hl => ?_)
  have hl : lv_has ls 2 [(0, .ref hT), (1, .int q)] := hl
  refine lv_aload_n hx hb dX1_witchSets_0 rfl (lv_at hl 0 rfl) ?_
  by_cases c_1 : (a 0) = 0
  · have ek9 : kYw a q = 1 := by (first | rfl | (simp only [kYw, c_1, eq_self, ↓reduceIte]; done) | (simp only [kYw, c_1, eq_self, ↓reduceIte]; rfl) | (simp only [kYw, eq_true c_1, eq_self, ↓reduceIte]; done) | (simp only [kYw, eq_true c_1, eq_self, ↓reduceIte]; rfl) | (simp [kYw, eq_true c_1]; done) | simp [kYw, c_1])
    rw [ek9]
    exact ty_V (b := hT) (As := []) (rest := []) ⟨hx, hb, hml, hown, hts⟩ (t_X1_requireGame l D cI cZ cJ _ hst hT hB hV a c_1) (cwV 0 hts gX1_witchSets_X1_requireGame rfl rfl rfl (by decide +kernel) ⟨Nat.le_of_ble_eq_true rfl, Nat.le_of_ble_eq_true rfl⟩) hP hD hK hN hY hS hA hZ (va_recv hK hP (ci := 1) (q0 := 0) rfl rfl) rfl hl.1 rfl (Nat.le_of_ble_eq_true rfl) dX1_witchSets_1 ⟨Nat.le_of_ble_eq_true rfl, Nat.le_of_ble_eq_true rfl⟩ [0] [] rfl rfl 1 rfl (by decide) (by decide) hout hlocks
  · refine rv_V (b := hT) (As := []) (rest := []) ⟨hx, hb, hml, hown, hts⟩ (c_X1_requireGame l D cI cZ cJ hT hB hV a c_1) (cwV 0 hts gX1_witchSets_X1_requireGame rfl rfl rfl (by decide +kernel) ⟨Nat.le_of_ble_eq_true rfl, Nat.le_of_ble_eq_true rfl⟩) (hP.sub (ws' := [cT hT hB hV a]) [0] rfl) hK hN (va_recv hK hP (ci := 1) (q0 := 0) rfl rfl) rfl hl.1 rfl (Nat.le_of_ble_eq_true rfl) dX1_witchSets_1 ⟨Nat.le_of_ble_eq_true rfl, Nat.le_of_ble_eq_true rfl⟩ ?_
    refine lv_aload_n hx hb dX1_witchSets_4 rfl (lv_at hl 0 rfl) ?_
    refine lv_iload_n hx hb dX1_witchSets_5 rfl (lv_at hl 1 rfl) ?_
    by_cases c_2 : (yVw a q) = true
    · refine rv_V (b := hT) (As := [.int q]) (rest := []) ⟨hx, hb, hml, hown, hts⟩ (c_X1_requireViewer l D cI cZ cJ hT hB hV a q c_2) (cwV 1 hts gX1_witchSets_X1_requireViewer rfl rfl rfl (by decide +kernel) ⟨Nat.le_of_ble_eq_true rfl, Nat.le_of_ble_eq_true rfl⟩) (hP.sub (ws' := [cT hT hB hV a]) [0] rfl) hK hN (va_recv hK hP (ci := 1) (q0 := 0) rfl rfl) rfl hl.1 rfl (Nat.le_of_ble_eq_true rfl) dX1_witchSets_6 ⟨Nat.le_of_ble_eq_true rfl, Nat.le_of_ble_eq_true rfl⟩ ?_
      exact absurd (by (first | rfl | (simp only [kYw, c_1, c_2, eq_self, ↓reduceIte]; done) | (simp only [kYw, c_1, c_2, eq_self, ↓reduceIte]; rfl) | simp [kYw, c_1, c_2])) hk
    · have c_2 : (yVw a q) = false := eq_false_of_ne_true c_2
      have ek9 : kYw a q = 2 := by (first | rfl | (simp only [kYw, c_1, c_2, eq_self, ↓reduceIte]; done) | (simp only [kYw, c_1, c_2, eq_self, ↓reduceIte]; rfl) | simp [kYw, c_1, c_2])
      rw [ek9]
      exact ty_V (b := hT) (As := [.int q]) (rest := []) ⟨hx, hb, hml, hown, hts⟩ (t_X1_requireViewer l D cI cZ cJ _ hst hT hB hV a q c_2) (cwV 1 hts gX1_witchSets_X1_requireViewer rfl rfl rfl (by decide +kernel) ⟨Nat.le_of_ble_eq_true rfl, Nat.le_of_ble_eq_true rfl⟩) hP hD hK hN hY hS hA hZ (va_recv hK hP (ci := 1) (q0 := 0) rfl rfl) rfl hl.1 rfl (Nat.le_of_ble_eq_true rfl) dX1_witchSets_6 ⟨Nat.le_of_ble_eq_true rfl, Nat.le_of_ble_eq_true rfl⟩ [0] [] rfl rfl 1 rfl (by decide) (by decide) hout hlocks

set_option maxHeartbeats 2000000 in
set_option maxRecDepth 100000 in
theorem t_X1_suspect (l : Launch) (D : va_G) (cI cZ cJ : ClassId) (sz : Nat) (hst : l.stackTraces = false) (hT : Nat) (hB : Nat) (hV : Nat) (a : Nat → Int32) (q : Int32) (hk : ¬ kYw a q = 0) : Ty l D cI cZ cJ yX1_suspect wsX1_suspect 8 132 sz [.ref hT, .int q] [cT hT hB hV a] (kYw a q) := by
  refine ty_of (by decide) rfl (Nat.le_of_ble_eq_true rfl) (fun p e s m below meth c ls A hx hb hr hml hts hown hlocks hout hP hK hN hD hA hS hZ hY hl => ?_)
  have hl : lv_has ls 7 [(0, .ref hT), (1, .int q)] := hl
  refine lv_aload_n hx hb dX1_suspect_0 rfl (lv_at hl 0 rfl) ?_
  by_cases c_1 : (a 0) = 0
  · have ek9 : kYw a q = 1 := by (first | rfl | (simp only [kYw, c_1, eq_self, ↓reduceIte]; done) | (simp only [kYw, c_1, eq_self, ↓reduceIte]; rfl) | (simp only [kYw, eq_true c_1, eq_self, ↓reduceIte]; done) | (simp only [kYw, eq_true c_1, eq_self, ↓reduceIte]; rfl) | (simp [kYw, eq_true c_1]; done) | simp [kYw, c_1])
    rw [ek9]
    exact ty_V (b := hT) (As := []) (rest := []) ⟨hx, hb, hml, hown, hts⟩ (t_X1_requireGame l D cI cZ cJ _ hst hT hB hV a c_1) (cwV 0 hts gX1_suspect_X1_requireGame rfl rfl rfl (by decide +kernel) ⟨Nat.le_of_ble_eq_true rfl, Nat.le_of_ble_eq_true rfl⟩) hP hD hK hN hY hS hA hZ (va_recv hK hP (ci := 1) (q0 := 0) rfl rfl) rfl hl.1 rfl (Nat.le_of_ble_eq_true rfl) dX1_suspect_1 ⟨Nat.le_of_ble_eq_true rfl, Nat.le_of_ble_eq_true rfl⟩ [0] [] rfl rfl 1 rfl (by decide) (by decide) hout hlocks
  · refine rv_V (b := hT) (As := []) (rest := []) ⟨hx, hb, hml, hown, hts⟩ (c_X1_requireGame l D cI cZ cJ hT hB hV a c_1) (cwV 0 hts gX1_suspect_X1_requireGame rfl rfl rfl (by decide +kernel) ⟨Nat.le_of_ble_eq_true rfl, Nat.le_of_ble_eq_true rfl⟩) (hP.sub (ws' := [cT hT hB hV a]) [0] rfl) hK hN (va_recv hK hP (ci := 1) (q0 := 0) rfl rfl) rfl hl.1 rfl (Nat.le_of_ble_eq_true rfl) dX1_suspect_1 ⟨Nat.le_of_ble_eq_true rfl, Nat.le_of_ble_eq_true rfl⟩ ?_
    refine lv_aload_n hx hb dX1_suspect_4 rfl (lv_at hl 0 rfl) ?_
    refine lv_iload_n hx hb dX1_suspect_5 rfl (lv_at hl 1 rfl) ?_
    by_cases c_2 : (yVw a q) = true
    · refine rv_V (b := hT) (As := [.int q]) (rest := []) ⟨hx, hb, hml, hown, hts⟩ (c_X1_requireViewer l D cI cZ cJ hT hB hV a q c_2) (cwV 1 hts gX1_suspect_X1_requireViewer rfl rfl rfl (by decide +kernel) ⟨Nat.le_of_ble_eq_true rfl, Nat.le_of_ble_eq_true rfl⟩) (hP.sub (ws' := [cT hT hB hV a]) [0] rfl) hK hN (va_recv hK hP (ci := 1) (q0 := 0) rfl rfl) rfl hl.1 rfl (Nat.le_of_ble_eq_true rfl) dX1_suspect_6 ⟨Nat.le_of_ble_eq_true rfl, Nat.le_of_ble_eq_true rfl⟩ ?_
      exact absurd (by (first | rfl | (simp only [kYw, c_1, c_2, eq_self, ↓reduceIte]; done) | (simp only [kYw, c_1, c_2, eq_self, ↓reduceIte]; rfl) | simp [kYw, c_1, c_2])) hk
    · have c_2 : (yVw a q) = false := eq_false_of_ne_true c_2
      have ek9 : kYw a q = 2 := by (first | rfl | (simp only [kYw, c_1, c_2, eq_self, ↓reduceIte]; done) | (simp only [kYw, c_1, c_2, eq_self, ↓reduceIte]; rfl) | simp [kYw, c_1, c_2])
      rw [ek9]
      exact ty_V (b := hT) (As := [.int q]) (rest := []) ⟨hx, hb, hml, hown, hts⟩ (t_X1_requireViewer l D cI cZ cJ _ hst hT hB hV a q c_2) (cwV 1 hts gX1_suspect_X1_requireViewer rfl rfl rfl (by decide +kernel) ⟨Nat.le_of_ble_eq_true rfl, Nat.le_of_ble_eq_true rfl⟩) hP hD hK hN hY hS hA hZ (va_recv hK hP (ci := 1) (q0 := 0) rfl rfl) rfl hl.1 rfl (Nat.le_of_ble_eq_true rfl) dX1_suspect_6 ⟨Nat.le_of_ble_eq_true rfl, Nat.le_of_ble_eq_true rfl⟩ [0] [] rfl rfl 1 rfl (by decide) (by decide) hout hlocks

set_option maxHeartbeats 2000000 in
set_option maxRecDepth 100000 in
theorem t_X1_worldsWith (l : Launch) (D : va_G) (cI cZ cJ : ClassId) (sz : Nat) (hst : l.stackTraces = false) (hT : Nat) (hB : Nat) (hV : Nat) (a : Nat → Int32) (q : Int32) (r : Int32) (k : Int32) (hk : ¬ kYx a q r k = 0) : Ty l D cI cZ cJ yX1_worldsWith wsX1_worldsWith 8 132 sz [.ref hT, .int q, .int r, .int k] [cT hT hB hV a] (kYx a q r k) := by
  refine ty_of (by decide) rfl (Nat.le_of_ble_eq_true rfl) (fun p e s m below meth c ls A hx hb hr hml hts hown hlocks hout hP hK hN hD hA hS hZ hY hl => ?_)
  have hl : lv_has ls 4 [(0, .ref hT), (1, .int q), (2, .int r), (3, .int k)] := hl
  refine lv_aload_n hx hb dX1_worldsWith_0 rfl (lv_at hl 0 rfl) ?_
  by_cases c_1 : (a 0) = 0
  · have ek9 : kYx a q r k = 1 := by (first | rfl | (simp only [kYx, c_1, eq_self, ↓reduceIte]; done) | (simp only [kYx, c_1, eq_self, ↓reduceIte]; rfl) | (simp only [kYx, eq_true c_1, eq_self, ↓reduceIte]; done) | (simp only [kYx, eq_true c_1, eq_self, ↓reduceIte]; rfl) | (simp [kYx, eq_true c_1]; done) | simp [kYx, c_1])
    rw [ek9]
    exact ty_V (b := hT) (As := []) (rest := []) ⟨hx, hb, hml, hown, hts⟩ (t_X1_requireGame l D cI cZ cJ _ hst hT hB hV a c_1) (cwV 0 hts gX1_worldsWith_X1_requireGame rfl rfl rfl (by decide +kernel) ⟨Nat.le_of_ble_eq_true rfl, Nat.le_of_ble_eq_true rfl⟩) hP hD hK hN hY hS hA hZ (va_recv hK hP (ci := 1) (q0 := 0) rfl rfl) rfl hl.1 rfl (Nat.le_of_ble_eq_true rfl) dX1_worldsWith_1 ⟨Nat.le_of_ble_eq_true rfl, Nat.le_of_ble_eq_true rfl⟩ [0] [] rfl rfl 1 rfl (by decide) (by decide) hout hlocks
  · refine rv_V (b := hT) (As := []) (rest := []) ⟨hx, hb, hml, hown, hts⟩ (c_X1_requireGame l D cI cZ cJ hT hB hV a c_1) (cwV 0 hts gX1_worldsWith_X1_requireGame rfl rfl rfl (by decide +kernel) ⟨Nat.le_of_ble_eq_true rfl, Nat.le_of_ble_eq_true rfl⟩) (hP.sub (ws' := [cT hT hB hV a]) [0] rfl) hK hN (va_recv hK hP (ci := 1) (q0 := 0) rfl rfl) rfl hl.1 rfl (Nat.le_of_ble_eq_true rfl) dX1_worldsWith_1 ⟨Nat.le_of_ble_eq_true rfl, Nat.le_of_ble_eq_true rfl⟩ ?_
    refine lv_aload_n hx hb dX1_worldsWith_4 rfl (lv_at hl 0 rfl) ?_
    refine lv_iload_n hx hb dX1_worldsWith_5 rfl (lv_at hl 1 rfl) ?_
    by_cases c_2 : (yVw a q) = true
    · refine rv_V (b := hT) (As := [.int q]) (rest := []) ⟨hx, hb, hml, hown, hts⟩ (c_X1_requireViewer l D cI cZ cJ hT hB hV a q c_2) (cwV 1 hts gX1_worldsWith_X1_requireViewer rfl rfl rfl (by decide +kernel) ⟨Nat.le_of_ble_eq_true rfl, Nat.le_of_ble_eq_true rfl⟩) (hP.sub (ws' := [cT hT hB hV a]) [0] rfl) hK hN (va_recv hK hP (ci := 1) (q0 := 0) rfl rfl) rfl hl.1 rfl (Nat.le_of_ble_eq_true rfl) dX1_worldsWith_6 ⟨Nat.le_of_ble_eq_true rfl, Nat.le_of_ble_eq_true rfl⟩ ?_
      refine lv_aload_n hx hb dX1_worldsWith_9 rfl (lv_at hl 0 rfl) ?_
      refine lv_iload_n hx hb dX1_worldsWith_10 rfl (lv_at hl 2 rfl) ?_
      by_cases c_3 : (yPl a r) = true
      · refine rv_V (b := hT) (As := [.int r]) (rest := []) ⟨hx, hb, hml, hown, hts⟩ (c_X1_requirePlayer l D cI cZ cJ hT hB hV a r c_3) (cwV 1 hts gX1_worldsWith_X1_requirePlayer rfl rfl rfl (by decide +kernel) ⟨Nat.le_of_ble_eq_true rfl, Nat.le_of_ble_eq_true rfl⟩) (hP.sub (ws' := [cT hT hB hV a]) [0] rfl) hK hN (va_recv hK hP (ci := 1) (q0 := 0) rfl rfl) rfl hl.1 rfl (Nat.le_of_ble_eq_true rfl) dX1_worldsWith_11 ⟨Nat.le_of_ble_eq_true rfl, Nat.le_of_ble_eq_true rfl⟩ ?_
        refine lv_iload_n hx hb dX1_worldsWith_14 rfl (lv_at hl 3 rfl) ?_
        refine lv_if_lt (tgt := 23) hx hb dX1_worldsWith_15 (by decide) (fun c_4 => ?_) (fun c_4 => ?_)
        · have ek9 : kYx a q r k = 3 := by (first | rfl | (simp only [kYx, c_1, c_2, c_3, c_4, eq_self, ↓reduceIte]; done) | (simp only [kYx, c_1, c_2, c_3, c_4, eq_self, ↓reduceIte]; rfl) | simp [kYx, c_1, c_2, c_3, c_4])
          rw [ek9]
          exact ty_throw (E := "java/lang/IllegalArgumentException") hx hb hst hown rfl (by decide +kernel) (hts (.classLink RX1 40 "java/lang/IllegalArgumentException") (List.mem_of_getElem? (i := 1) rfl)) (hts (.initialized "java/lang/IllegalArgumentException") (List.mem_of_getElem? (i := 2) rfl)) hN hY 7 rfl 2 rfl (fun w h => hts w (List.mem_cons_of_mem _ (List.mem_append_left _ (List.mem_append_left _ (List.mem_append_right _ h))))) (by decide +kernel) (by decide +kernel) hZ hS hP (hl.1.trans hml.symm) dX1_worldsWith_23 dX1_worldsWith_26 dX1_worldsWith_27 dX1_worldsWith_29 dX1_worldsWith_32 hout (Nat.le_of_ble_eq_true rfl) (Nat.le_of_ble_eq_true rfl) (Nat.le_of_ble_eq_true rfl) (Nat.le_of_ble_eq_true rfl) hlocks
        · refine lv_iload_n hx hb dX1_worldsWith_18 rfl (lv_at hl 3 rfl) ?_
          refine lv_iconst (v := 3) hx hb dX1_worldsWith_19 (by decide) ?_
          refine lv_icmp_le (tgt := 33) hx hb dX1_worldsWith_20 (by decide) (fun c_5 => ?_) (fun c_5 => ?_)
          · exact absurd (by (first | rfl | (simp only [kYx, c_1, c_2, c_3, c_4, c_5, eq_self, ↓reduceIte]; done) | (simp only [kYx, c_1, c_2, c_3, c_4, c_5, eq_self, ↓reduceIte]; rfl) | simp [kYx, c_1, c_2, c_3, c_4, c_5])) hk
          · have ek9 : kYx a q r k = 3 := by (first | rfl | (simp only [kYx, c_1, c_2, c_3, c_4, c_5, eq_self, ↓reduceIte]; done) | (simp only [kYx, c_1, c_2, c_3, c_4, c_5, eq_self, ↓reduceIte]; rfl) | simp [kYx, c_1, c_2, c_3, c_4, c_5])
            rw [ek9]
            exact ty_throw (E := "java/lang/IllegalArgumentException") hx hb hst hown rfl (by decide +kernel) (hts (.classLink RX1 40 "java/lang/IllegalArgumentException") (List.mem_of_getElem? (i := 1) rfl)) (hts (.initialized "java/lang/IllegalArgumentException") (List.mem_of_getElem? (i := 2) rfl)) hN hY 7 rfl 2 rfl (fun w h => hts w (List.mem_cons_of_mem _ (List.mem_append_left _ (List.mem_append_left _ (List.mem_append_right _ h))))) (by decide +kernel) (by decide +kernel) hZ hS hP (hl.1.trans hml.symm) dX1_worldsWith_23 dX1_worldsWith_26 dX1_worldsWith_27 dX1_worldsWith_29 dX1_worldsWith_32 hout (Nat.le_of_ble_eq_true rfl) (Nat.le_of_ble_eq_true rfl) (Nat.le_of_ble_eq_true rfl) (Nat.le_of_ble_eq_true rfl) hlocks
      · have c_3 : (yPl a r) = false := eq_false_of_ne_true c_3
        have ek9 : kYx a q r k = 2 := by (first | rfl | (simp only [kYx, c_1, c_2, c_3, eq_self, ↓reduceIte]; done) | (simp only [kYx, c_1, c_2, c_3, eq_self, ↓reduceIte]; rfl) | simp [kYx, c_1, c_2, c_3])
        rw [ek9]
        exact ty_V (b := hT) (As := [.int r]) (rest := []) ⟨hx, hb, hml, hown, hts⟩ (t_X1_requirePlayer l D cI cZ cJ _ hst hT hB hV a r c_3) (cwV 1 hts gX1_worldsWith_X1_requirePlayer rfl rfl rfl (by decide +kernel) ⟨Nat.le_of_ble_eq_true rfl, Nat.le_of_ble_eq_true rfl⟩) hP hD hK hN hY hS hA hZ (va_recv hK hP (ci := 1) (q0 := 0) rfl rfl) rfl hl.1 rfl (Nat.le_of_ble_eq_true rfl) dX1_worldsWith_11 ⟨Nat.le_of_ble_eq_true rfl, Nat.le_of_ble_eq_true rfl⟩ [0] [] rfl rfl 1 rfl (by decide) (by decide) hout hlocks
    · have c_2 : (yVw a q) = false := eq_false_of_ne_true c_2
      have ek9 : kYx a q r k = 2 := by (first | rfl | (simp only [kYx, c_1, c_2, eq_self, ↓reduceIte]; done) | (simp only [kYx, c_1, c_2, eq_self, ↓reduceIte]; rfl) | simp [kYx, c_1, c_2])
      rw [ek9]
      exact ty_V (b := hT) (As := [.int q]) (rest := []) ⟨hx, hb, hml, hown, hts⟩ (t_X1_requireViewer l D cI cZ cJ _ hst hT hB hV a q c_2) (cwV 1 hts gX1_worldsWith_X1_requireViewer rfl rfl rfl (by decide +kernel) ⟨Nat.le_of_ble_eq_true rfl, Nat.le_of_ble_eq_true rfl⟩) hP hD hK hN hY hS hA hZ (va_recv hK hP (ci := 1) (q0 := 0) rfl rfl) rfl hl.1 rfl (Nat.le_of_ble_eq_true rfl) dX1_worldsWith_6 ⟨Nat.le_of_ble_eq_true rfl, Nat.le_of_ble_eq_true rfl⟩ [0] [] rfl rfl 1 rfl (by decide) (by decide) hout hlocks

set_option maxHeartbeats 2000000 in
set_option maxRecDepth 100000 in
theorem t_X1_bestLook (l : Launch) (D : va_G) (cI cZ cJ : ClassId) (sz : Nat) (hst : l.stackTraces = false) (hT : Nat) (hB : Nat) (hV : Nat) (a : Nat → Int32) (hk : ¬ kYg a = 0) : Ty l D cI cZ cJ yX1_bestLook wsX1_bestLook 7 110 sz [.ref hT] [cT hT hB hV a] (kYg a) := by
  refine ty_of (by decide) rfl (Nat.le_of_ble_eq_true rfl) (fun p e s m below meth c ls A hx hb hr hml hts hown hlocks hout hP hK hN hD hA hS hZ hY hl => ?_)
  have hl : lv_has ls 8 [(0, .ref hT)] := hl
  refine lv_aload_n hx hb dX1_bestLook_0 rfl (lv_at hl 0 rfl) ?_
  by_cases c_1 : (a 0) = 0
  · have ek9 : kYg a = 1 := by (first | rfl | (simp only [kYg, c_1, eq_self, ↓reduceIte]; done) | (simp only [kYg, c_1, eq_self, ↓reduceIte]; rfl) | (simp only [kYg, eq_true c_1, eq_self, ↓reduceIte]; done) | (simp only [kYg, eq_true c_1, eq_self, ↓reduceIte]; rfl) | (simp [kYg, eq_true c_1]; done) | simp [kYg, c_1])
    rw [ek9]
    exact ty_V (b := hT) (As := []) (rest := []) ⟨hx, hb, hml, hown, hts⟩ (t_X1_requireGame l D cI cZ cJ _ hst hT hB hV a c_1) (cwV 0 hts gX1_bestLook_X1_requireGame rfl rfl rfl (by decide +kernel) ⟨Nat.le_of_ble_eq_true rfl, Nat.le_of_ble_eq_true rfl⟩) hP hD hK hN hY hS hA hZ (va_recv hK hP (ci := 1) (q0 := 0) rfl rfl) rfl hl.1 rfl (Nat.le_of_ble_eq_true rfl) dX1_bestLook_1 ⟨Nat.le_of_ble_eq_true rfl, Nat.le_of_ble_eq_true rfl⟩ [0] [] rfl rfl 1 rfl (by decide) (by decide) hout hlocks
  · refine rv_V (b := hT) (As := []) (rest := []) ⟨hx, hb, hml, hown, hts⟩ (c_X1_requireGame l D cI cZ cJ hT hB hV a c_1) (cwV 0 hts gX1_bestLook_X1_requireGame rfl rfl rfl (by decide +kernel) ⟨Nat.le_of_ble_eq_true rfl, Nat.le_of_ble_eq_true rfl⟩) (hP.sub (ws' := [cT hT hB hV a]) [0] rfl) hK hN (va_recv hK hP (ci := 1) (q0 := 0) rfl rfl) rfl hl.1 rfl (Nat.le_of_ble_eq_true rfl) dX1_bestLook_1 ⟨Nat.le_of_ble_eq_true rfl, Nat.le_of_ble_eq_true rfl⟩ ?_
    exact absurd (by (first | rfl | (simp only [kYg, c_1, eq_self, ↓reduceIte]; done) | (simp only [kYg, c_1, eq_self, ↓reduceIte]; rfl) | simp [kYg, c_1])) hk

set_option maxHeartbeats 2000000 in
set_option maxRecDepth 100000 in
theorem t_X1_isPossible (l : Launch) (D : va_G) (cI cZ cJ : ClassId) (sz : Nat) (hst : l.stackTraces = false) (hT : Nat) (hB : Nat) (hV : Nat) (a : Nat → Int32) (q : Int32) (t : Int32) (r : Int32) (u : Int32) (hk : ¬ kYi a q r u = 0) : Ty l D cI cZ cJ yX1_isPossible wsX1_isPossible 8 132 sz [.ref hT, .int q, .int t, .int r, .int u] [cT hT hB hV a] (kYi a q r u) := by
  refine ty_of (by decide) rfl (Nat.le_of_ble_eq_true rfl) (fun p e s m below meth c ls A hx hb hr hml hts hown hlocks hout hP hK hN hD hA hS hZ hY hl => ?_)
  have hl : lv_has ls 5 [(0, .ref hT), (1, .int q), (2, .int t), (3, .int r), (4, .int u)] := hl
  refine lv_aload_n hx hb dX1_isPossible_0 rfl (lv_at hl 0 rfl) ?_
  by_cases c_1 : (a 0) = 0
  · have ek9 : kYi a q r u = 1 := by (first | rfl | (simp only [kYi, c_1, eq_self, ↓reduceIte]; done) | (simp only [kYi, c_1, eq_self, ↓reduceIte]; rfl) | (simp only [kYi, eq_true c_1, eq_self, ↓reduceIte]; done) | (simp only [kYi, eq_true c_1, eq_self, ↓reduceIte]; rfl) | (simp [kYi, eq_true c_1]; done) | simp [kYi, c_1])
    rw [ek9]
    exact ty_V (b := hT) (As := []) (rest := []) ⟨hx, hb, hml, hown, hts⟩ (t_X1_requireGame l D cI cZ cJ _ hst hT hB hV a c_1) (cwV 0 hts gX1_isPossible_X1_requireGame rfl rfl rfl (by decide +kernel) ⟨Nat.le_of_ble_eq_true rfl, Nat.le_of_ble_eq_true rfl⟩) hP hD hK hN hY hS hA hZ (va_recv hK hP (ci := 1) (q0 := 0) rfl rfl) rfl hl.1 rfl (Nat.le_of_ble_eq_true rfl) dX1_isPossible_1 ⟨Nat.le_of_ble_eq_true rfl, Nat.le_of_ble_eq_true rfl⟩ [0] [] rfl rfl 1 rfl (by decide) (by decide) hout hlocks
  · refine rv_V (b := hT) (As := []) (rest := []) ⟨hx, hb, hml, hown, hts⟩ (c_X1_requireGame l D cI cZ cJ hT hB hV a c_1) (cwV 0 hts gX1_isPossible_X1_requireGame rfl rfl rfl (by decide +kernel) ⟨Nat.le_of_ble_eq_true rfl, Nat.le_of_ble_eq_true rfl⟩) (hP.sub (ws' := [cT hT hB hV a]) [0] rfl) hK hN (va_recv hK hP (ci := 1) (q0 := 0) rfl rfl) rfl hl.1 rfl (Nat.le_of_ble_eq_true rfl) dX1_isPossible_1 ⟨Nat.le_of_ble_eq_true rfl, Nat.le_of_ble_eq_true rfl⟩ ?_
    refine lv_aload_n hx hb dX1_isPossible_4 rfl (lv_at hl 0 rfl) ?_
    refine lv_iload_n hx hb dX1_isPossible_5 rfl (lv_at hl 1 rfl) ?_
    by_cases c_2 : (yVw a q) = true
    · refine rv_V (b := hT) (As := [.int q]) (rest := []) ⟨hx, hb, hml, hown, hts⟩ (c_X1_requireViewer l D cI cZ cJ hT hB hV a q c_2) (cwV 1 hts gX1_isPossible_X1_requireViewer rfl rfl rfl (by decide +kernel) ⟨Nat.le_of_ble_eq_true rfl, Nat.le_of_ble_eq_true rfl⟩) (hP.sub (ws' := [cT hT hB hV a]) [0] rfl) hK hN (va_recv hK hP (ci := 1) (q0 := 0) rfl rfl) rfl hl.1 rfl (Nat.le_of_ble_eq_true rfl) dX1_isPossible_6 ⟨Nat.le_of_ble_eq_true rfl, Nat.le_of_ble_eq_true rfl⟩ ?_
      refine lv_aload_n hx hb dX1_isPossible_9 rfl (lv_at hl 0 rfl) ?_
      refine lv_iload_n hx hb dX1_isPossible_10 rfl (lv_at hl 3 rfl) ?_
      by_cases c_3 : (yPl a r) = true
      · refine rv_V (b := hT) (As := [.int r]) (rest := []) ⟨hx, hb, hml, hown, hts⟩ (c_X1_requirePlayer l D cI cZ cJ hT hB hV a r c_3) (cwV 1 hts gX1_isPossible_X1_requirePlayer rfl rfl rfl (by decide +kernel) ⟨Nat.le_of_ble_eq_true rfl, Nat.le_of_ble_eq_true rfl⟩) (hP.sub (ws' := [cT hT hB hV a]) [0] rfl) hK hN (va_recv hK hP (ci := 1) (q0 := 0) rfl rfl) rfl hl.1 rfl (Nat.le_of_ble_eq_true rfl) dX1_isPossible_11 ⟨Nat.le_of_ble_eq_true rfl, Nat.le_of_ble_eq_true rfl⟩ ?_
        refine lv_aload_n hx hb dX1_isPossible_14 rfl (lv_at hl 0 rfl) ?_
        refine lv_iload hx hb dX1_isPossible_15 (lv_at hl 4 rfl) ?_
        by_cases c_4 : (yPl a u) = true
        · refine rv_V (b := hT) (As := [.int u]) (rest := []) ⟨hx, hb, hml, hown, hts⟩ (c_X1_requirePlayer l D cI cZ cJ hT hB hV a u c_4) (cwV 1 hts gX1_isPossible_X1_requirePlayer rfl rfl rfl (by decide +kernel) ⟨Nat.le_of_ble_eq_true rfl, Nat.le_of_ble_eq_true rfl⟩) (hP.sub (ws' := [cT hT hB hV a]) [0] rfl) hK hN (va_recv hK hP (ci := 1) (q0 := 0) rfl rfl) rfl hl.1 rfl (Nat.le_of_ble_eq_true rfl) dX1_isPossible_17 ⟨Nat.le_of_ble_eq_true rfl, Nat.le_of_ble_eq_true rfl⟩ ?_
          exact absurd (by (first | rfl | (simp only [kYi, c_1, c_2, c_3, c_4, eq_self, ↓reduceIte]; done) | (simp only [kYi, c_1, c_2, c_3, c_4, eq_self, ↓reduceIte]; rfl) | simp [kYi, c_1, c_2, c_3, c_4])) hk
        · have c_4 : (yPl a u) = false := eq_false_of_ne_true c_4
          have ek9 : kYi a q r u = 2 := by (first | rfl | (simp only [kYi, c_1, c_2, c_3, c_4, eq_self, ↓reduceIte]; done) | (simp only [kYi, c_1, c_2, c_3, c_4, eq_self, ↓reduceIte]; rfl) | simp [kYi, c_1, c_2, c_3, c_4])
          rw [ek9]
          exact ty_V (b := hT) (As := [.int u]) (rest := []) ⟨hx, hb, hml, hown, hts⟩ (t_X1_requirePlayer l D cI cZ cJ _ hst hT hB hV a u c_4) (cwV 1 hts gX1_isPossible_X1_requirePlayer rfl rfl rfl (by decide +kernel) ⟨Nat.le_of_ble_eq_true rfl, Nat.le_of_ble_eq_true rfl⟩) hP hD hK hN hY hS hA hZ (va_recv hK hP (ci := 1) (q0 := 0) rfl rfl) rfl hl.1 rfl (Nat.le_of_ble_eq_true rfl) dX1_isPossible_17 ⟨Nat.le_of_ble_eq_true rfl, Nat.le_of_ble_eq_true rfl⟩ [0] [] rfl rfl 1 rfl (by decide) (by decide) hout hlocks
      · have c_3 : (yPl a r) = false := eq_false_of_ne_true c_3
        have ek9 : kYi a q r u = 2 := by (first | rfl | (simp only [kYi, c_1, c_2, c_3, eq_self, ↓reduceIte]; done) | (simp only [kYi, c_1, c_2, c_3, eq_self, ↓reduceIte]; rfl) | simp [kYi, c_1, c_2, c_3])
        rw [ek9]
        exact ty_V (b := hT) (As := [.int r]) (rest := []) ⟨hx, hb, hml, hown, hts⟩ (t_X1_requirePlayer l D cI cZ cJ _ hst hT hB hV a r c_3) (cwV 1 hts gX1_isPossible_X1_requirePlayer rfl rfl rfl (by decide +kernel) ⟨Nat.le_of_ble_eq_true rfl, Nat.le_of_ble_eq_true rfl⟩) hP hD hK hN hY hS hA hZ (va_recv hK hP (ci := 1) (q0 := 0) rfl rfl) rfl hl.1 rfl (Nat.le_of_ble_eq_true rfl) dX1_isPossible_11 ⟨Nat.le_of_ble_eq_true rfl, Nat.le_of_ble_eq_true rfl⟩ [0] [] rfl rfl 1 rfl (by decide) (by decide) hout hlocks
    · have c_2 : (yVw a q) = false := eq_false_of_ne_true c_2
      have ek9 : kYi a q r u = 2 := by (first | rfl | (simp only [kYi, c_1, c_2, eq_self, ↓reduceIte]; done) | (simp only [kYi, c_1, c_2, eq_self, ↓reduceIte]; rfl) | simp [kYi, c_1, c_2])
      rw [ek9]
      exact ty_V (b := hT) (As := [.int q]) (rest := []) ⟨hx, hb, hml, hown, hts⟩ (t_X1_requireViewer l D cI cZ cJ _ hst hT hB hV a q c_2) (cwV 1 hts gX1_isPossible_X1_requireViewer rfl rfl rfl (by decide +kernel) ⟨Nat.le_of_ble_eq_true rfl, Nat.le_of_ble_eq_true rfl⟩) hP hD hK hN hY hS hA hZ (va_recv hK hP (ci := 1) (q0 := 0) rfl rfl) rfl hl.1 rfl (Nat.le_of_ble_eq_true rfl) dX1_isPossible_6 ⟨Nat.le_of_ble_eq_true rfl, Nat.le_of_ble_eq_true rfl⟩ [0] [] rfl rfl 1 rfl (by decide) (by decide) hout hlocks
