set_option maxHeartbeats 2000000 in
set_option maxRecDepth 100000 in
theorem t_X1_requireGame (l : Launch) (D : va_G) (cI cZ cJ : ClassId) (sz : Nat) (hst : l.stackTraces = false) (hT : Nat) (hB : Nat) (hV : Nat) (a : Nat → Int32) (hk : a 0 = 0) : Ty l D cI cZ cJ yX1_requireGame wsX1_requireGame 6 90 sz [.ref hT] [cT hT hB hV a] (1) := by
  refine ty_of (by decide) rfl (Nat.le_of_ble_eq_true rfl) (fun p e s m below meth c ls A hx hb hr hml hts hown hlocks hout hP hK hN hD hA hS hZ hY hl => ?_)
  have hl : lv_has ls 1 [(0, .ref hT)] := hl
  refine lv_aload_n hx hb dX1_requireGame_0 rfl (lv_at hl 0 rfl) ?_
  refine va_get (D := D) (cl := vwCl) (ci := 1) (v := .int (a 0)) (C := RX1) (T := TX1) (N := 14) hx hb hts in_X1_requireGame_X1 hown hK hP 0 rfl rfl 2 (by decide) (hts (.fieldLink RX1 20 "WitchTrial" "phase" "I") (List.mem_of_getElem? (i := 3) rfl)) (fun _ h9 => h9) rfl dX1_requireGame_1 ?_
  refine lv_if_ne (tgt := 17) hx hb dX1_requireGame_4 (by decide) (fun c_1 => ?_) (fun c_1 => ?_)
  · exact absurd hk c_1
  · exact ty_throw (E := "java/lang/IllegalStateException") hx hb hst hown rfl (by decide +kernel) (hts (.classLink RX1 171 "java/lang/IllegalStateException") (List.mem_of_getElem? (i := 1) rfl)) (hts (.initialized "java/lang/IllegalStateException") (List.mem_of_getElem? (i := 2) rfl)) hN hY 8 rfl 0 rfl (fun w h => hts w (List.mem_cons_of_mem _ (List.mem_append_right _ h))) (by decide +kernel) (by decide +kernel) hZ hS hP (hl.1.trans hml.symm) dX1_requireGame_7 dX1_requireGame_10 dX1_requireGame_11 dX1_requireGame_13 dX1_requireGame_16 hout (Nat.le_of_ble_eq_true rfl) (Nat.le_of_ble_eq_true rfl) (Nat.le_of_ble_eq_true rfl) (Nat.le_of_ble_eq_true rfl) hlocks

set_option maxHeartbeats 2000000 in
set_option maxRecDepth 100000 in
theorem t_X1_requirePhase (l : Launch) (D : va_G) (cI cZ cJ : ClassId) (sz : Nat) (hst : l.stackTraces = false) (hT : Nat) (hB : Nat) (hV : Nat) (a : Nat → Int32) (k : Int32) (hk : ¬ a 0 = k) : Ty l D cI cZ cJ yX1_requirePhase wsX1_requirePhase 6 90 sz [.ref hT, .int k] [cT hT hB hV a] (1) := by
  refine ty_of (by decide) rfl (Nat.le_of_ble_eq_true rfl) (fun p e s m below meth c ls A hx hb hr hml hts hown hlocks hout hP hK hN hD hA hS hZ hY hl => ?_)
  have hl : lv_has ls 2 [(0, .ref hT), (1, .int k)] := hl
  refine lv_aload_n hx hb dX1_requirePhase_0 rfl (lv_at hl 0 rfl) ?_
  refine va_get (D := D) (cl := vwCl) (ci := 1) (v := .int (a 0)) (C := RX1) (T := TX1) (N := 14) hx hb hts in_X1_requirePhase_X1 hown hK hP 0 rfl rfl 2 (by decide) (hts (.fieldLink RX1 20 "WitchTrial" "phase" "I") (List.mem_of_getElem? (i := 3) rfl)) (fun _ h9 => h9) rfl dX1_requirePhase_1 ?_
  refine lv_iload_n hx hb dX1_requirePhase_4 rfl (lv_at hl 1 rfl) ?_
  refine lv_icmp_eq (tgt := 18) hx hb dX1_requirePhase_5 (by decide) (fun c_1 => ?_) (fun c_1 => ?_)
  · exact absurd c_1 hk
  · exact ty_throw (E := "java/lang/IllegalStateException") hx hb hst hown rfl (by decide +kernel) (hts (.classLink RX1 171 "java/lang/IllegalStateException") (List.mem_of_getElem? (i := 1) rfl)) (hts (.initialized "java/lang/IllegalStateException") (List.mem_of_getElem? (i := 2) rfl)) hN hY 9 rfl 0 rfl (fun w h => hts w (List.mem_cons_of_mem _ (List.mem_append_right _ h))) (by decide +kernel) (by decide +kernel) hZ hS hP (hl.1.trans hml.symm) dX1_requirePhase_8 dX1_requirePhase_11 dX1_requirePhase_12 dX1_requirePhase_14 dX1_requirePhase_17 hout (Nat.le_of_ble_eq_true rfl) (Nat.le_of_ble_eq_true rfl) (Nat.le_of_ble_eq_true rfl) (Nat.le_of_ble_eq_true rfl) hlocks

set_option maxHeartbeats 2000000 in
set_option maxRecDepth 100000 in
theorem t_X1_requireToLive (l : Launch) (D : va_G) (cI cZ cJ : ClassId) (sz : Nat) (hst : l.stackTraces = false) (hT : Nat) (hB : Nat) (hV : Nat) (a : Nat → Int32) (q : Int32) (hk : yIn (a 6) q = false) : Ty l D cI cZ cJ yX1_requireToLive wsX1_requireToLive 6 90 sz [.ref hT, .int q] [cT hT hB hV a] (1) := by
  refine ty_of (by decide) rfl (Nat.le_of_ble_eq_true rfl) (fun p e s m below meth c ls A hx hb hr hml hts hown hlocks hout hP hK hN hD hA hS hZ hY hl => ?_)
  have hl : lv_has ls 2 [(0, .ref hT), (1, .int q)] := hl
  refine lv_aload_n hx hb dX1_requireToLive_0 rfl (lv_at hl 0 rfl) ?_
  refine lv_iload_n hx hb dX1_requireToLive_1 rfl (lv_at hl 1 rfl) ?_
  refine rd_V (b := hT) (As := [.int q]) (rest := []) ⟨hx, hb, hml, hown, hts⟩ (c_X1_isAlive l D cI cZ cJ hT hB hV a q) (cwV 1 hts gX1_requireToLive_X1_isAlive rfl rfl rfl (by decide +kernel) ⟨Nat.le_of_ble_eq_true rfl, Nat.le_of_ble_eq_true rfl⟩) (hP.sub (ws' := [cT hT hB hV a]) [0] rfl) hK hN (va_recv hK hP (ci := 1) (q0 := 0) rfl rfl) rfl hl.1 rfl (Nat.le_of_ble_eq_true rfl) dX1_requireToLive_2 ⟨Nat.le_of_ble_eq_true rfl, Nat.le_of_ble_eq_true rfl⟩ ?_
  refine lv_if_ne (tgt := 18) hx hb dX1_requireToLive_5 (by decide) (fun c_1 => ?_) (fun c_1 => ?_)
  · have c_1 : (yIn (a 6) q) = true := bI_1 c_1
    simp [hk] at c_1
  · have c_1 : (yIn (a 6) q) = false := bI_0 c_1
    exact ty_throw (E := "java/lang/IllegalStateException") hx hb hst hown rfl (by decide +kernel) (hts (.classLink RX1 171 "java/lang/IllegalStateException") (List.mem_of_getElem? (i := 1) rfl)) (hts (.initialized "java/lang/IllegalStateException") (List.mem_of_getElem? (i := 2) rfl)) hN hY 10 rfl 0 rfl (fun w h => hts w (List.mem_cons_of_mem _ (List.mem_append_right _ h))) (by decide +kernel) (by decide +kernel) hZ hS hP (hl.1.trans hml.symm) dX1_requireToLive_8 dX1_requireToLive_11 dX1_requireToLive_12 dX1_requireToLive_14 dX1_requireToLive_17 hout (Nat.le_of_ble_eq_true rfl) (Nat.le_of_ble_eq_true rfl) (Nat.le_of_ble_eq_true rfl) (Nat.le_of_ble_eq_true rfl) hlocks

set_option maxHeartbeats 2000000 in
set_option maxRecDepth 100000 in
theorem t_X1_requirePlayer (l : Launch) (D : va_G) (cI cZ cJ : ClassId) (sz : Nat) (hst : l.stackTraces = false) (hT : Nat) (hB : Nat) (hV : Nat) (a : Nat → Int32) (q : Int32) (hk : yPl a q = false) : Ty l D cI cZ cJ yX1_requirePlayer wsX1_requirePlayer 6 90 sz [.ref hT, .int q] [cT hT hB hV a] (2) := by
  refine ty_of (by decide) rfl (Nat.le_of_ble_eq_true rfl) (fun p e s m below meth c ls A hx hb hr hml hts hown hlocks hout hP hK hN hD hA hS hZ hY hl => ?_)
  have hl : lv_has ls 2 [(0, .ref hT), (1, .int q)] := hl
  refine lv_iload_n hx hb dX1_requirePlayer_0 rfl (lv_at hl 1 rfl) ?_
  refine lv_if_lt (tgt := 12) hx hb dX1_requirePlayer_1 (by decide) (fun c_1 => ?_) (fun c_1 => ?_)
  · exact ty_throw (E := "java/lang/IndexOutOfBoundsException") hx hb hst hown rfl (by decide +kernel) (hts (.classLink RX1 180 "java/lang/IndexOutOfBoundsException") (List.mem_of_getElem? (i := 1) rfl)) (hts (.initialized "java/lang/IndexOutOfBoundsException") (List.mem_of_getElem? (i := 2) rfl)) hN hY 11 rfl 1 rfl (fun w h => hts w (List.mem_cons_of_mem _ (List.mem_append_right _ h))) (by decide +kernel) (by decide +kernel) hZ hS hP (hl.1.trans hml.symm) dX1_requirePlayer_12 dX1_requirePlayer_15 dX1_requirePlayer_16 dX1_requirePlayer_18 dX1_requirePlayer_21 hout (Nat.le_of_ble_eq_true rfl) (Nat.le_of_ble_eq_true rfl) (Nat.le_of_ble_eq_true rfl) (Nat.le_of_ble_eq_true rfl) hlocks
  · refine lv_iload_n hx hb dX1_requirePlayer_4 rfl (lv_at hl 1 rfl) ?_
    refine lv_aload_n hx hb dX1_requirePlayer_5 rfl (lv_at hl 0 rfl) ?_
    refine va_get (D := D) (cl := vwCl) (ci := 1) (v := .int (a 2)) (C := RX1) (T := TX1) (N := 14) hx hb hts in_X1_requirePlayer_X1 hown hK hP 0 rfl rfl 4 (by decide) (hts (.fieldLink RX1 47 "WitchTrial" "playerCount" "I") (List.mem_of_getElem? (i := 3) rfl)) (fun _ h9 => h9) rfl dX1_requirePlayer_6 ?_
    refine lv_icmp_lt (tgt := 22) hx hb dX1_requirePlayer_9 (by decide) (fun c_2 => ?_) (fun c_2 => ?_)
    · exact absurd hk (by simp [yPl, bI, c_1, c_2])
    · exact ty_throw (E := "java/lang/IndexOutOfBoundsException") hx hb hst hown rfl (by decide +kernel) (hts (.classLink RX1 180 "java/lang/IndexOutOfBoundsException") (List.mem_of_getElem? (i := 1) rfl)) (hts (.initialized "java/lang/IndexOutOfBoundsException") (List.mem_of_getElem? (i := 2) rfl)) hN hY 11 rfl 1 rfl (fun w h => hts w (List.mem_cons_of_mem _ (List.mem_append_right _ h))) (by decide +kernel) (by decide +kernel) hZ hS hP (hl.1.trans hml.symm) dX1_requirePlayer_12 dX1_requirePlayer_15 dX1_requirePlayer_16 dX1_requirePlayer_18 dX1_requirePlayer_21 hout (Nat.le_of_ble_eq_true rfl) (Nat.le_of_ble_eq_true rfl) (Nat.le_of_ble_eq_true rfl) (Nat.le_of_ble_eq_true rfl) hlocks

set_option maxHeartbeats 2000000 in
set_option maxRecDepth 100000 in
theorem t_X1_requireViewer (l : Launch) (D : va_G) (cI cZ cJ : ClassId) (sz : Nat) (hst : l.stackTraces = false) (hT : Nat) (hB : Nat) (hV : Nat) (a : Nat → Int32) (q : Int32) (hk : yVw a q = false) : Ty l D cI cZ cJ yX1_requireViewer wsX1_requireViewer 7 111 sz [.ref hT, .int q] [cT hT hB hV a] (2) := by
  refine ty_of (by decide) rfl (Nat.le_of_ble_eq_true rfl) (fun p e s m below meth c ls A hx hb hr hml hts hown hlocks hout hP hK hN hD hA hS hZ hY hl => ?_)
  have hl : lv_has ls 2 [(0, .ref hT), (1, .int q)] := hl
  refine lv_iload_n hx hb dX1_requireViewer_0 rfl (lv_at hl 1 rfl) ?_
  refine lv_iconst (v := (-1)) hx hb dX1_requireViewer_1 (by decide) ?_
  refine lv_icmp_eq (tgt := 10) hx hb dX1_requireViewer_2 (by decide) (fun c_1 => ?_) (fun c_1 => ?_)
  · simp [yVw, c_1] at hk
  · refine lv_aload_n hx hb dX1_requireViewer_5 rfl (lv_at hl 0 rfl) ?_
    refine lv_iload_n hx hb dX1_requireViewer_6 rfl (lv_at hl 1 rfl) ?_
    exact ty_V (b := hT) (As := [.int q]) (rest := []) ⟨hx, hb, hml, hown, hts⟩ (t_X1_requirePlayer l D cI cZ cJ _ hst hT hB hV a q (by simpa [yVw, c_1] using hk)) (cwV 1 hts gX1_requireViewer_X1_requirePlayer rfl rfl rfl (by decide +kernel) ⟨Nat.le_of_ble_eq_true rfl, Nat.le_of_ble_eq_true rfl⟩) hP hD hK hN hY hS hA hZ (va_recv hK hP (ci := 1) (q0 := 0) rfl rfl) rfl hl.1 rfl (Nat.le_of_ble_eq_true rfl) dX1_requireViewer_7 ⟨Nat.le_of_ble_eq_true rfl, Nat.le_of_ble_eq_true rfl⟩ [0] [] rfl rfl 1 rfl (by decide) (by decide) hout hlocks

set_option maxHeartbeats 2000000 in
set_option maxRecDepth 100000 in
theorem t_X1_makeClaim (l : Launch) (D : va_G) (cI cZ cJ : ClassId) (sz : Nat) (hst : l.stackTraces = false) (hT : Nat) (hB : Nat) (hV : Nat) (a : Nat → Int32) (hG : Nat) (tr : Int32) (q : Int32) (bits : Int32) (b : Bool) (hk : yMay a tr q bits b = false) : Ty l D cI cZ cJ yX1_makeClaim wsX1_makeClaim 6 90 sz [.ref hT, .int q, .int bits, .int (bI b)] [cT hT hB hV a, cB hB hG tr] (4) := by
  refine ty_of (by decide) rfl (Nat.le_of_ble_eq_true rfl) (fun p e s m below meth c ls A hx hb hr hml hts hown hlocks hout hP hK hN hD hA hS hZ hY hl => ?_)
  have hl : lv_has ls 4 [(0, .ref hT), (1, .int q), (2, .int bits), (3, .int (bI b))] := hl
  refine lv_aload_n hx hb dX1_makeClaim_0 rfl (lv_at hl 0 rfl) ?_
  refine va_get (D := D) (cl := vwCl) (ci := 1) (v := .int (a 0)) (C := RX1) (T := TX1) (N := 14) hx hb hts in_X1_makeClaim_X1 hown hK hP 0 rfl rfl 2 (by decide) (hts (.fieldLink RX1 20 "WitchTrial" "phase" "I") (List.mem_of_getElem? (i := 3) rfl)) (fun _ h9 => h9) rfl dX1_makeClaim_1 ?_
  refine lv_iconst (v := 1) hx hb dX1_makeClaim_4 (by decide) ?_
  refine lv_icmp_ne (tgt := 29) hx hb dX1_makeClaim_5 (by decide) (fun c_1 => ?_) (fun c_1 => ?_)
  · exact ty_throw (E := "java/util/NoSuchElementException") hx hb hst hown rfl (by decide +kernel) (hts (.classLink RX1 201 "java/util/NoSuchElementException") (List.mem_of_getElem? (i := 1) rfl)) (hts (.initialized "java/util/NoSuchElementException") (List.mem_of_getElem? (i := 2) rfl)) hN hY 12 rfl 3 rfl (fun w h => hts w (List.mem_cons_of_mem _ (List.mem_append_right _ h))) (by decide +kernel) (by decide +kernel) hZ hS hP (hl.1.trans hml.symm) dX1_makeClaim_29 dX1_makeClaim_32 dX1_makeClaim_33 dX1_makeClaim_35 dX1_makeClaim_38 hout (Nat.le_of_ble_eq_true rfl) (Nat.le_of_ble_eq_true rfl) (Nat.le_of_ble_eq_true rfl) (Nat.le_of_ble_eq_true rfl) hlocks
  · refine lv_aload_n hx hb dX1_makeClaim_8 rfl (lv_at hl 0 rfl) ?_
    refine lv_iload_n hx hb dX1_makeClaim_9 rfl (lv_at hl 1 rfl) ?_
    refine rd_V (b := hT) (As := [.int q]) (rest := []) ⟨hx, hb, hml, hown, hts⟩ (c_X1_isAlive l D cI cZ cJ hT hB hV a q) (cwV 1 hts gX1_makeClaim_X1_isAlive rfl rfl rfl (by decide +kernel) ⟨Nat.le_of_ble_eq_true rfl, Nat.le_of_ble_eq_true rfl⟩) (hP.sub (ws' := [cT hT hB hV a]) [0] rfl) hK hN (va_recv hK hP (ci := 1) (q0 := 0) rfl rfl) rfl hl.1 rfl (Nat.le_of_ble_eq_true rfl) dX1_makeClaim_10 ⟨Nat.le_of_ble_eq_true rfl, Nat.le_of_ble_eq_true rfl⟩ ?_
    refine lv_if_eq (tgt := 29) hx hb dX1_makeClaim_13 (by decide) (fun c_2 => ?_) (fun c_2 => ?_)
    · have c_2 : (yIn (a 6) q) = false := bI_0 c_2
      exact ty_throw (E := "java/util/NoSuchElementException") hx hb hst hown rfl (by decide +kernel) (hts (.classLink RX1 201 "java/util/NoSuchElementException") (List.mem_of_getElem? (i := 1) rfl)) (hts (.initialized "java/util/NoSuchElementException") (List.mem_of_getElem? (i := 2) rfl)) hN hY 12 rfl 3 rfl (fun w h => hts w (List.mem_cons_of_mem _ (List.mem_append_right _ h))) (by decide +kernel) (by decide +kernel) hZ hS hP (hl.1.trans hml.symm) dX1_makeClaim_29 dX1_makeClaim_32 dX1_makeClaim_33 dX1_makeClaim_35 dX1_makeClaim_38 hout (Nat.le_of_ble_eq_true rfl) (Nat.le_of_ble_eq_true rfl) (Nat.le_of_ble_eq_true rfl) (Nat.le_of_ble_eq_true rfl) hlocks
    · have c_2 : (yIn (a 6) q) = true := bI_1 c_2
      refine lv_aload_n hx hb dX1_makeClaim_16 rfl (lv_at hl 0 rfl) ?_
      refine va_get (D := D) (cl := vwCl) (ci := 1) (v := .ref hB) (C := RX1) (T := TX1) (N := 14) hx hb hts in_X1_makeClaim_X1 hown hK hP 0 rfl rfl 0 (by decide) (hts (.fieldLink RX1 12 "WitchTrial" "book" "LWitchTrial$Book;") (List.mem_of_getElem? (i := 4) rfl)) (fun _ h9 => h9) rfl dX1_makeClaim_17 ?_
      refine lv_iload_n hx hb dX1_makeClaim_20 rfl (lv_at hl 1 rfl) ?_
      refine lv_iload_n hx hb dX1_makeClaim_21 rfl (lv_at hl 2 rfl) ?_
      refine lv_iload_n hx hb dX1_makeClaim_22 rfl (lv_at hl 3 rfl) ?_
      refine rd_VN (b := hB) (As := [.int q, .int bits, .int (bI b)]) (rest := []) ⟨hx, hb, hml, hown, hts⟩ (c_X0_allowsClaim l D cI cZ cJ hB hG tr q bits b) ⟨va_cnB 3 hts gX1_makeClaim_X0_allowsClaim_n197 rfl rfl rfl (hN.link 7 rfl) (hts (.initialized RX0) (List.mem_of_getElem? (i := 15) rfl)) (by decide +kernel) ⟨Nat.le_of_ble_eq_true rfl, Nat.le_of_ble_eq_true rfl⟩, (hts (.instanceMethod yX0_allowsClaim) (List.mem_of_getElem? (i := 14) rfl)), (hts (.selects RX0 yX0_allowsClaim yX0_allowsClaim) (List.mem_of_getElem? (i := 16) rfl))⟩ (hP.sub (ws' := [cB hB hG tr]) [1] rfl) hK hN (va_recv hK hP (ci := 0) (q0 := 1) rfl rfl) rfl hl.1 rfl (Nat.le_of_ble_eq_true rfl) dX1_makeClaim_23 ⟨Nat.le_of_ble_eq_true rfl, Nat.le_of_ble_eq_true rfl⟩ ?_
      refine lv_if_ne (tgt := 39) hx hb dX1_makeClaim_26 (by decide) (fun c_3 => ?_) (fun c_3 => ?_)
      · have c_3 : (yAg tr q bits b) = true := bI_1 c_3
        exact absurd hk (by simp [yMay, bI, c_1, c_2, c_3])
      · have c_3 : (yAg tr q bits b) = false := bI_0 c_3
        exact ty_throw (E := "java/util/NoSuchElementException") hx hb hst hown rfl (by decide +kernel) (hts (.classLink RX1 201 "java/util/NoSuchElementException") (List.mem_of_getElem? (i := 1) rfl)) (hts (.initialized "java/util/NoSuchElementException") (List.mem_of_getElem? (i := 2) rfl)) hN hY 12 rfl 3 rfl (fun w h => hts w (List.mem_cons_of_mem _ (List.mem_append_right _ h))) (by decide +kernel) (by decide +kernel) hZ hS hP (hl.1.trans hml.symm) dX1_makeClaim_29 dX1_makeClaim_32 dX1_makeClaim_33 dX1_makeClaim_35 dX1_makeClaim_38 hout (Nat.le_of_ble_eq_true rfl) (Nat.le_of_ble_eq_true rfl) (Nat.le_of_ble_eq_true rfl) (Nat.le_of_ble_eq_true rfl) hlocks

theorem in_X1_start_X0 : ∀ w ∈ wsX00, w ∈ wsX1_start := by decide +kernel
theorem in_X1_start_X1 : ∀ w ∈ wsX10, w ∈ wsX1_start := by decide +kernel
set_option maxHeartbeats 2000000 in
set_option maxRecDepth 100000 in
theorem t_X1_start (l : Launch) (D : va_G) (cI cZ cJ : ClassId) (sz : Nat) (hst : l.stackTraces = false) (hT : Nat) (hB : Nat) (hV : Nat) (a : Nat → Int32) (pl : Int32) (wi : Int32) (se : Int32) (gu : Int32) (hk : ¬ kYs pl wi se gu = 0) : Ty l D cI cZ cJ yX1_start wsX1_start 6 90 sz [.ref hT, .int pl, .int wi, .int se, .int gu] [cT hT hB hV a] (kYs pl wi se gu) := by
  refine ty_of (by decide) rfl (Nat.le_of_ble_eq_true rfl) (fun p e s m below meth c ls A hx hb hr hml hts hown hlocks hout hP hK hN hD hA hS hZ hY hl => ?_)
  have hl : lv_has ls 5 [(0, .ref hT), (1, .int pl), (2, .int wi), (3, .int se), (4, .int gu)] := hl
  refine lv_iload_n hx hb dX1_start_0 rfl (lv_at hl 1 rfl) ?_
  refine lv_iload_n hx hb dX1_start_1 rfl (lv_at hl 2 rfl) ?_
  refine lv_iload_n hx hb dX1_start_2 rfl (lv_at hl 3 rfl) ?_
  refine lv_iload hx hb dX1_start_3 (lv_at hl 4 rfl) ?_
  refine rd_S (As := [.int pl, .int wi, .int se, .int gu]) (rest := []) ⟨hx, hb, hml, hown, hts⟩ (c_X1_isDeal l D cI cZ cJ pl wi se gu) (va_cwS 4 hts gX1_start_X1_isDeal rfl rfl rfl (by decide +kernel) ⟨Nat.le_of_ble_eq_true rfl, Nat.le_of_ble_eq_true rfl⟩) (hP.sub (ws' := []) [] rfl) hK hN rfl hl.1 rfl (Nat.le_of_ble_eq_true rfl) dX1_start_5 ⟨Nat.le_of_ble_eq_true rfl, Nat.le_of_ble_eq_true rfl⟩ ?_
  refine lv_if_ne (tgt := 21) hx hb dX1_start_8 (by decide) (fun c_1 => ?_) (fun c_1 => ?_)
  · have c_1 : (yGood pl wi se gu) = true := bI_1 c_1
    exact absurd (by (first | rfl | (simp only [kYs, c_1, eq_self, ↓reduceIte]; done) | (simp only [kYs, c_1, eq_self, ↓reduceIte]; rfl) | simp [kYs, c_1])) hk
  · have c_1 : (yGood pl wi se gu) = false := bI_0 c_1
    have ek9 : kYs pl wi se gu = 3 := by (first | rfl | (simp only [kYs, c_1, eq_self, ↓reduceIte]; done) | (simp only [kYs, c_1, eq_self, ↓reduceIte]; rfl) | simp [kYs, c_1])
    rw [ek9]
    exact ty_throw (E := "java/lang/IllegalArgumentException") hx hb hst hown rfl (by decide +kernel) (hts (.classLink RX1 40 "java/lang/IllegalArgumentException") (List.mem_of_getElem? (i := 1) rfl)) (hts (.initialized "java/lang/IllegalArgumentException") (List.mem_of_getElem? (i := 2) rfl)) hN hY 0 rfl 2 rfl (fun w h => hts w (List.mem_cons_of_mem _ (List.mem_append_right _ h))) (by decide +kernel) (by decide +kernel) hZ hS hP (hl.1.trans hml.symm) dX1_start_11 dX1_start_14 dX1_start_15 dX1_start_17 dX1_start_20 hout (Nat.le_of_ble_eq_true rfl) (Nat.le_of_ble_eq_true rfl) (Nat.le_of_ble_eq_true rfl) (Nat.le_of_ble_eq_true rfl) hlocks

theorem in_X1_claim_X0 : ∀ w ∈ wsX00, w ∈ wsX1_claim := by decide +kernel
theorem in_X1_claim_X1 : ∀ w ∈ wsX10, w ∈ wsX1_claim := by decide +kernel
set_option maxHeartbeats 2000000 in
set_option maxRecDepth 100000 in
theorem t_X1_claim (l : Launch) (D : va_G) (cI cZ cJ : ClassId) (sz : Nat) (hst : l.stackTraces = false) (hT : Nat) (hB : Nat) (hV : Nat) (a : Nat → Int32) (hG : Nat) (tr : Int32) (q : Int32) (k : Int32) (r : Int32) (hk : ¬ kYc a tr q k r = 0) : Ty l D cI cZ cJ yX1_claim wsX1_claim 7 113 sz [.ref hT, .int q, .int k, .int r] [cT hT hB hV a, cB hB hG tr] (kYc a tr q k r) := by
  refine ty_of (by decide) rfl (Nat.le_of_ble_eq_true rfl) (fun p e s m below meth c ls A hx hb hr hml hts hown hlocks hout hP hK hN hD hA hS hZ hY hl => ?_)
  have hl : lv_has ls 4 [(0, .ref hT), (1, .int q), (2, .int k), (3, .int r)] := hl
  refine lv_aload_n hx hb dX1_claim_0 rfl (lv_at hl 0 rfl) ?_
  by_cases c_1 : (a 0) = 0
  · have ek9 : kYc a tr q k r = 1 := by (first | rfl | (simp only [kYc, c_1, eq_self, ↓reduceIte]; done) | (simp only [kYc, c_1, eq_self, ↓reduceIte]; rfl) | (simp only [kYc, eq_true c_1, eq_self, ↓reduceIte]; done) | (simp only [kYc, eq_true c_1, eq_self, ↓reduceIte]; rfl) | (simp [kYc, eq_true c_1]; done) | simp [kYc, c_1])
    rw [ek9]
    exact ty_V (b := hT) (As := []) (rest := []) ⟨hx, hb, hml, hown, hts⟩ (t_X1_requireGame l D cI cZ cJ _ hst hT hB hV a c_1) (cwV 0 hts gX1_claim_X1_requireGame rfl rfl rfl (by decide +kernel) ⟨Nat.le_of_ble_eq_true rfl, Nat.le_of_ble_eq_true rfl⟩) hP hD hK hN hY hS hA hZ (va_recv hK hP (ci := 1) (q0 := 0) rfl rfl) rfl hl.1 rfl (Nat.le_of_ble_eq_true rfl) dX1_claim_1 ⟨Nat.le_of_ble_eq_true rfl, Nat.le_of_ble_eq_true rfl⟩ [0] [1] rfl rfl 2 rfl (by decide) (by decide) hout hlocks
  · refine rv_V (b := hT) (As := []) (rest := []) ⟨hx, hb, hml, hown, hts⟩ (c_X1_requireGame l D cI cZ cJ hT hB hV a c_1) (cwV 0 hts gX1_claim_X1_requireGame rfl rfl rfl (by decide +kernel) ⟨Nat.le_of_ble_eq_true rfl, Nat.le_of_ble_eq_true rfl⟩) (hP.sub (ws' := [cT hT hB hV a]) [0] rfl) hK hN (va_recv hK hP (ci := 1) (q0 := 0) rfl rfl) rfl hl.1 rfl (Nat.le_of_ble_eq_true rfl) dX1_claim_1 ⟨Nat.le_of_ble_eq_true rfl, Nat.le_of_ble_eq_true rfl⟩ ?_
    refine lv_aload_n hx hb dX1_claim_4 rfl (lv_at hl 0 rfl) ?_
    refine lv_iload_n hx hb dX1_claim_5 rfl (lv_at hl 1 rfl) ?_
    by_cases c_2 : (yPl a q) = true
    · refine rv_V (b := hT) (As := [.int q]) (rest := []) ⟨hx, hb, hml, hown, hts⟩ (c_X1_requirePlayer l D cI cZ cJ hT hB hV a q c_2) (cwV 1 hts gX1_claim_X1_requirePlayer rfl rfl rfl (by decide +kernel) ⟨Nat.le_of_ble_eq_true rfl, Nat.le_of_ble_eq_true rfl⟩) (hP.sub (ws' := [cT hT hB hV a]) [0] rfl) hK hN (va_recv hK hP (ci := 1) (q0 := 0) rfl rfl) rfl hl.1 rfl (Nat.le_of_ble_eq_true rfl) dX1_claim_6 ⟨Nat.le_of_ble_eq_true rfl, Nat.le_of_ble_eq_true rfl⟩ ?_
      refine lv_aload_n hx hb dX1_claim_9 rfl (lv_at hl 0 rfl) ?_
      refine lv_iload_n hx hb dX1_claim_10 rfl (lv_at hl 3 rfl) ?_
      by_cases c_3 : (yPl a r) = true
      · refine rv_V (b := hT) (As := [.int r]) (rest := []) ⟨hx, hb, hml, hown, hts⟩ (c_X1_requirePlayer l D cI cZ cJ hT hB hV a r c_3) (cwV 1 hts gX1_claim_X1_requirePlayer rfl rfl rfl (by decide +kernel) ⟨Nat.le_of_ble_eq_true rfl, Nat.le_of_ble_eq_true rfl⟩) (hP.sub (ws' := [cT hT hB hV a]) [0] rfl) hK hN (va_recv hK hP (ci := 1) (q0 := 0) rfl rfl) rfl hl.1 rfl (Nat.le_of_ble_eq_true rfl) dX1_claim_11 ⟨Nat.le_of_ble_eq_true rfl, Nat.le_of_ble_eq_true rfl⟩ ?_
        refine lv_iload_n hx hb dX1_claim_14 rfl (lv_at hl 2 rfl) ?_
        refine lv_if_lt (tgt := 23) hx hb dX1_claim_15 (by decide) (fun c_4 => ?_) (fun c_4 => ?_)
        · have ek9 : kYc a tr q k r = 3 := by (first | rfl | (simp only [kYc, c_1, c_2, c_3, c_4, eq_self, ↓reduceIte]; done) | (simp only [kYc, c_1, c_2, c_3, c_4, eq_self, ↓reduceIte]; rfl) | simp [kYc, c_1, c_2, c_3, c_4])
          rw [ek9]
          exact ty_throw (E := "java/lang/IllegalArgumentException") hx hb hst hown rfl (by decide +kernel) (hts (.classLink RX1 40 "java/lang/IllegalArgumentException") (List.mem_of_getElem? (i := 1) rfl)) (hts (.initialized "java/lang/IllegalArgumentException") (List.mem_of_getElem? (i := 2) rfl)) hN hY 1 rfl 2 rfl (fun w h => hts w (List.mem_cons_of_mem _ (List.mem_append_left _ (List.mem_append_left _ (List.mem_append_left _ (List.mem_append_right _ h)))))) (by decide +kernel) (by decide +kernel) hZ hS hP (hl.1.trans hml.symm) dX1_claim_23 dX1_claim_26 dX1_claim_27 dX1_claim_29 dX1_claim_32 hout (Nat.le_of_ble_eq_true rfl) (Nat.le_of_ble_eq_true rfl) (Nat.le_of_ble_eq_true rfl) (Nat.le_of_ble_eq_true rfl) hlocks
        · refine lv_iload_n hx hb dX1_claim_18 rfl (lv_at hl 2 rfl) ?_
          refine lv_iconst (v := 3) hx hb dX1_claim_19 (by decide) ?_
          refine lv_icmp_le (tgt := 33) hx hb dX1_claim_20 (by decide) (fun c_5 => ?_) (fun c_5 => ?_)
          · refine lv_aload_n hx hb dX1_claim_33 rfl (lv_at hl 0 rfl) ?_
            refine lv_iload_n hx hb dX1_claim_34 rfl (lv_at hl 1 rfl) ?_
            refine lv_iload_n hx hb dX1_claim_35 rfl (lv_at hl 2 rfl) ?_
            refine lv_iload_n hx hb dX1_claim_36 rfl (lv_at hl 3 rfl) ?_
            refine rd_S (As := [.int k, .int r]) (rest := [.int q, .ref hT]) ⟨hx, hb, hml, hown, hts⟩ (c_X1_claimedBits l D cI cZ cJ k r) (va_cwS 2 hts gX1_claim_X1_claimedBits rfl rfl rfl (by decide +kernel) ⟨Nat.le_of_ble_eq_true rfl, Nat.le_of_ble_eq_true rfl⟩) (hP.sub (ws' := []) [] rfl) hK hN rfl hl.1 rfl (Nat.le_of_ble_eq_true rfl) dX1_claim_37 ⟨Nat.le_of_ble_eq_true rfl, Nat.le_of_ble_eq_true rfl⟩ ?_
            refine lv_iload_n hx hb dX1_claim_40 rfl (lv_at hl 2 rfl) ?_
            refine lv_iconst (v := 1) hx hb dX1_claim_41 (by decide) ?_
            refine lv_icmp_eq (tgt := 49) hx hb dX1_claim_42 (by decide) (fun c_6 => ?_) (fun c_6 => ?_)
            · refine lv_iconst (v := 0) hx hb dX1_claim_49 (by decide) ?_
              by_cases c_7 : (yMay a tr q (yCb k r) false) = true
              · exact absurd (by (first | rfl | (simp only [kYc, c_1, c_2, c_3, c_4, c_5, eq_true c_6, c_7, eq_self, ↓reduceIte]; done) | (simp only [kYc, c_1, c_2, c_3, c_4, c_5, eq_true c_6, c_7, eq_self, ↓reduceIte]; rfl) | simp [kYc, c_1, c_2, c_3, c_4, c_5, eq_true c_6, c_7])) hk
              · have c_7 : (yMay a tr q (yCb k r) false) = false := eq_false_of_ne_true c_7
                have ek9 : kYc a tr q k r = 4 := by (first | rfl | (simp only [kYc, c_1, c_2, c_3, c_4, c_5, eq_true c_6, c_7, eq_self, ↓reduceIte]; done) | (simp only [kYc, c_1, c_2, c_3, c_4, c_5, eq_true c_6, c_7, eq_self, ↓reduceIte]; rfl) | simp [kYc, c_1, c_2, c_3, c_4, c_5, eq_true c_6, c_7])
                rw [ek9]
                exact ty_V (b := hT) (As := [.int q, .int (yCb k r), .int 0]) (rest := []) ⟨hx, hb, hml, hown, hts⟩ (t_X1_makeClaim l D cI cZ cJ _ hst hT hB hV a hG tr q (yCb k r) false c_7) (cwV 3 hts gX1_claim_X1_makeClaim rfl rfl rfl (by decide +kernel) ⟨Nat.le_of_ble_eq_true rfl, Nat.le_of_ble_eq_true rfl⟩) hP hD hK hN hY hS hA hZ (va_recv hK hP (ci := 1) (q0 := 0) rfl rfl) rfl hl.1 rfl (Nat.le_of_ble_eq_true rfl) dX1_claim_50 ⟨Nat.le_of_ble_eq_true rfl, Nat.le_of_ble_eq_true rfl⟩ [0, 1] [] rfl rfl 2 rfl (by decide) (by decide) hout hlocks
            · refine lv_iconst (v := 1) hx hb dX1_claim_45 (by decide) ?_
              refine lv_goto (tgt := 50) hx hb dX1_claim_46 (by decide) ?_
              by_cases c_8 : (yMay a tr q (yCb k r) true) = true
              · exact absurd (by (first | rfl | (simp only [kYc, c_1, c_2, c_3, c_4, c_5, c_6, c_8, eq_self, ↓reduceIte]; done) | (simp only [kYc, c_1, c_2, c_3, c_4, c_5, c_6, c_8, eq_self, ↓reduceIte]; rfl) | simp [kYc, c_1, c_2, c_3, c_4, c_5, c_6, c_8])) hk
              · have c_8 : (yMay a tr q (yCb k r) true) = false := eq_false_of_ne_true c_8
                have ek9 : kYc a tr q k r = 4 := by (first | rfl | (simp only [kYc, c_1, c_2, c_3, c_4, c_5, c_6, c_8, eq_self, ↓reduceIte]; done) | (simp only [kYc, c_1, c_2, c_3, c_4, c_5, c_6, c_8, eq_self, ↓reduceIte]; rfl) | simp [kYc, c_1, c_2, c_3, c_4, c_5, c_6, c_8])
                rw [ek9]
                exact ty_V (b := hT) (As := [.int q, .int (yCb k r), .int 1]) (rest := []) ⟨hx, hb, hml, hown, hts⟩ (t_X1_makeClaim l D cI cZ cJ _ hst hT hB hV a hG tr q (yCb k r) true c_8) (cwV 3 hts gX1_claim_X1_makeClaim rfl rfl rfl (by decide +kernel) ⟨Nat.le_of_ble_eq_true rfl, Nat.le_of_ble_eq_true rfl⟩) hP hD hK hN hY hS hA hZ (va_recv hK hP (ci := 1) (q0 := 0) rfl rfl) rfl hl.1 rfl (Nat.le_of_ble_eq_true rfl) dX1_claim_50 ⟨Nat.le_of_ble_eq_true rfl, Nat.le_of_ble_eq_true rfl⟩ [0, 1] [] rfl rfl 2 rfl (by decide) (by decide) hout hlocks
          · have ek9 : kYc a tr q k r = 3 := by (first | rfl | (simp only [kYc, c_1, c_2, c_3, c_4, c_5, eq_self, ↓reduceIte]; done) | (simp only [kYc, c_1, c_2, c_3, c_4, c_5, eq_self, ↓reduceIte]; rfl) | simp [kYc, c_1, c_2, c_3, c_4, c_5])
            rw [ek9]
            exact ty_throw (E := "java/lang/IllegalArgumentException") hx hb hst hown rfl (by decide +kernel) (hts (.classLink RX1 40 "java/lang/IllegalArgumentException") (List.mem_of_getElem? (i := 1) rfl)) (hts (.initialized "java/lang/IllegalArgumentException") (List.mem_of_getElem? (i := 2) rfl)) hN hY 1 rfl 2 rfl (fun w h => hts w (List.mem_cons_of_mem _ (List.mem_append_left _ (List.mem_append_left _ (List.mem_append_left _ (List.mem_append_right _ h)))))) (by decide +kernel) (by decide +kernel) hZ hS hP (hl.1.trans hml.symm) dX1_claim_23 dX1_claim_26 dX1_claim_27 dX1_claim_29 dX1_claim_32 hout (Nat.le_of_ble_eq_true rfl) (Nat.le_of_ble_eq_true rfl) (Nat.le_of_ble_eq_true rfl) (Nat.le_of_ble_eq_true rfl) hlocks
      · have c_3 : (yPl a r) = false := eq_false_of_ne_true c_3
        have ek9 : kYc a tr q k r = 2 := by (first | rfl | (simp only [kYc, c_1, c_2, c_3, eq_self, ↓reduceIte]; done) | (simp only [kYc, c_1, c_2, c_3, eq_self, ↓reduceIte]; rfl) | simp [kYc, c_1, c_2, c_3])
        rw [ek9]
        exact ty_V (b := hT) (As := [.int r]) (rest := []) ⟨hx, hb, hml, hown, hts⟩ (t_X1_requirePlayer l D cI cZ cJ _ hst hT hB hV a r c_3) (cwV 1 hts gX1_claim_X1_requirePlayer rfl rfl rfl (by decide +kernel) ⟨Nat.le_of_ble_eq_true rfl, Nat.le_of_ble_eq_true rfl⟩) hP hD hK hN hY hS hA hZ (va_recv hK hP (ci := 1) (q0 := 0) rfl rfl) rfl hl.1 rfl (Nat.le_of_ble_eq_true rfl) dX1_claim_11 ⟨Nat.le_of_ble_eq_true rfl, Nat.le_of_ble_eq_true rfl⟩ [0] [1] rfl rfl 2 rfl (by decide) (by decide) hout hlocks
    · have c_2 : (yPl a q) = false := eq_false_of_ne_true c_2
      have ek9 : kYc a tr q k r = 2 := by (first | rfl | (simp only [kYc, c_1, c_2, eq_self, ↓reduceIte]; done) | (simp only [kYc, c_1, c_2, eq_self, ↓reduceIte]; rfl) | simp [kYc, c_1, c_2])
      rw [ek9]
      exact ty_V (b := hT) (As := [.int q]) (rest := []) ⟨hx, hb, hml, hown, hts⟩ (t_X1_requirePlayer l D cI cZ cJ _ hst hT hB hV a q c_2) (cwV 1 hts gX1_claim_X1_requirePlayer rfl rfl rfl (by decide +kernel) ⟨Nat.le_of_ble_eq_true rfl, Nat.le_of_ble_eq_true rfl⟩) hP hD hK hN hY hS hA hZ (va_recv hK hP (ci := 1) (q0 := 0) rfl rfl) rfl hl.1 rfl (Nat.le_of_ble_eq_true rfl) dX1_claim_6 ⟨Nat.le_of_ble_eq_true rfl, Nat.le_of_ble_eq_true rfl⟩ [0] [1] rfl rfl 2 rfl (by decide) (by decide) hout hlocks

theorem in_X1_claimAmong_X0 : ∀ w ∈ wsX00, w ∈ wsX1_claimAmong := by decide +kernel
theorem in_X1_claimAmong_X1 : ∀ w ∈ wsX10, w ∈ wsX1_claimAmong := by decide +kernel
set_option maxHeartbeats 2000000 in
set_option maxRecDepth 100000 in
theorem t_X1_claimAmong (l : Launch) (D : va_G) (cI cZ cJ : ClassId) (sz : Nat) (hst : l.stackTraces = false) (hT : Nat) (hB : Nat) (hV : Nat) (a : Nat → Int32) (hG : Nat) (tr : Int32) (q : Int32) (st : Int32) (hk : ¬ kYa a tr q st = 0) : Ty l D cI cZ cJ yX1_claimAmong wsX1_claimAmong 7 113 sz [.ref hT, .int q, .int st] [cT hT hB hV a, cB hB hG tr] (kYa a tr q st) := by
  refine ty_of (by decide) rfl (Nat.le_of_ble_eq_true rfl) (fun p e s m below meth c ls A hx hb hr hml hts hown hlocks hout hP hK hN hD hA hS hZ hY hl => ?_)
  have hl : lv_has ls 3 [(0, .ref hT), (1, .int q), (2, .int st)] := hl
  refine lv_aload_n hx hb dX1_claimAmong_0 rfl (lv_at hl 0 rfl) ?_
  by_cases c_1 : (a 0) = 0
  · have ek9 : kYa a tr q st = 1 := by (first | rfl | (simp only [kYa, c_1, eq_self, ↓reduceIte]; done) | (simp only [kYa, c_1, eq_self, ↓reduceIte]; rfl) | (simp only [kYa, eq_true c_1, eq_self, ↓reduceIte]; done) | (simp only [kYa, eq_true c_1, eq_self, ↓reduceIte]; rfl) | (simp [kYa, eq_true c_1]; done) | simp [kYa, c_1])
    rw [ek9]
    exact ty_V (b := hT) (As := []) (rest := []) ⟨hx, hb, hml, hown, hts⟩ (t_X1_requireGame l D cI cZ cJ _ hst hT hB hV a c_1) (cwV 0 hts gX1_claimAmong_X1_requireGame rfl rfl rfl (by decide +kernel) ⟨Nat.le_of_ble_eq_true rfl, Nat.le_of_ble_eq_true rfl⟩) hP hD hK hN hY hS hA hZ (va_recv hK hP (ci := 1) (q0 := 0) rfl rfl) rfl hl.1 rfl (Nat.le_of_ble_eq_true rfl) dX1_claimAmong_1 ⟨Nat.le_of_ble_eq_true rfl, Nat.le_of_ble_eq_true rfl⟩ [0] [1] rfl rfl 2 rfl (by decide) (by decide) hout hlocks
  · refine rv_V (b := hT) (As := []) (rest := []) ⟨hx, hb, hml, hown, hts⟩ (c_X1_requireGame l D cI cZ cJ hT hB hV a c_1) (cwV 0 hts gX1_claimAmong_X1_requireGame rfl rfl rfl (by decide +kernel) ⟨Nat.le_of_ble_eq_true rfl, Nat.le_of_ble_eq_true rfl⟩) (hP.sub (ws' := [cT hT hB hV a]) [0] rfl) hK hN (va_recv hK hP (ci := 1) (q0 := 0) rfl rfl) rfl hl.1 rfl (Nat.le_of_ble_eq_true rfl) dX1_claimAmong_1 ⟨Nat.le_of_ble_eq_true rfl, Nat.le_of_ble_eq_true rfl⟩ ?_
    refine lv_aload_n hx hb dX1_claimAmong_4 rfl (lv_at hl 0 rfl) ?_
    refine lv_iload_n hx hb dX1_claimAmong_5 rfl (lv_at hl 1 rfl) ?_
    by_cases c_2 : (yPl a q) = true
    · refine rv_V (b := hT) (As := [.int q]) (rest := []) ⟨hx, hb, hml, hown, hts⟩ (c_X1_requirePlayer l D cI cZ cJ hT hB hV a q c_2) (cwV 1 hts gX1_claimAmong_X1_requirePlayer rfl rfl rfl (by decide +kernel) ⟨Nat.le_of_ble_eq_true rfl, Nat.le_of_ble_eq_true rfl⟩) (hP.sub (ws' := [cT hT hB hV a]) [0] rfl) hK hN (va_recv hK hP (ci := 1) (q0 := 0) rfl rfl) rfl hl.1 rfl (Nat.le_of_ble_eq_true rfl) dX1_claimAmong_6 ⟨Nat.le_of_ble_eq_true rfl, Nat.le_of_ble_eq_true rfl⟩ ?_
      refine lv_iload_n hx hb dX1_claimAmong_9 rfl (lv_at hl 2 rfl) ?_
      refine lv_aload_n hx hb dX1_claimAmong_10 rfl (lv_at hl 0 rfl) ?_
      refine va_get (D := D) (cl := vwCl) (ci := 1) (v := .int (a 2)) (C := RX1) (T := TX1) (N := 14) hx hb hts in_X1_claimAmong_X1 hown hK hP 0 rfl rfl 4 (by decide) (hts (.fieldLink RX1 47 "WitchTrial" "playerCount" "I") (List.mem_of_getElem? (i := 3) rfl)) (fun _ h9 => h9) rfl dX1_claimAmong_11 ?_
      refine rd_S (As := [.int (a 2)]) (rest := [.int st]) ⟨hx, hb, hml, hown, hts⟩ (c_X1_everyone l D cI cZ cJ (a 2)) (va_cwS 1 hts gX1_claimAmong_X1_everyone rfl rfl rfl (by decide +kernel) ⟨Nat.le_of_ble_eq_true rfl, Nat.le_of_ble_eq_true rfl⟩) (hP.sub (ws' := []) [] rfl) hK hN rfl hl.1 rfl (Nat.le_of_ble_eq_true rfl) dX1_claimAmong_14 ⟨Nat.le_of_ble_eq_true rfl, Nat.le_of_ble_eq_true rfl⟩ ?_
      refine lv_iconst (v := (-1)) hx hb dX1_claimAmong_17 (by decide) ?_
      refine lv_ixor hx hb dX1_claimAmong_18 ?_
      refine lv_iand hx hb dX1_claimAmong_19 ?_
      refine lv_if_eq (tgt := 33) hx hb dX1_claimAmong_20 (by decide) (fun c_3 => ?_) (fun c_3 => ?_)
      · refine lv_aload_n hx hb dX1_claimAmong_33 rfl (lv_at hl 0 rfl) ?_
        refine lv_iload_n hx hb dX1_claimAmong_34 rfl (lv_at hl 1 rfl) ?_
        refine lv_iload_n hx hb dX1_claimAmong_35 rfl (lv_at hl 2 rfl) ?_
        refine lv_iconst (v := 1) hx hb dX1_claimAmong_36 (by decide) ?_
        by_cases c_4 : (yMay a tr q st true) = true
        · exact absurd (by (first | rfl | (simp only [kYa, c_1, c_2, c_3, c_4, eq_self, ↓reduceIte]; done) | (simp only [kYa, c_1, c_2, c_3, c_4, eq_self, ↓reduceIte]; rfl) | (simp only [kYa, c_1, c_2, eq_true c_3, c_4, eq_self, ↓reduceIte]; done) | (simp only [kYa, c_1, c_2, eq_true c_3, c_4, eq_self, ↓reduceIte]; rfl) | (simp [kYa, c_1, c_2, eq_true c_3, c_4]; done) | simp [kYa, c_1, c_2, c_3, c_4])) hk
        · have c_4 : (yMay a tr q st true) = false := eq_false_of_ne_true c_4
          have ek9 : kYa a tr q st = 4 := by (first | rfl | (simp only [kYa, c_1, c_2, c_3, c_4, eq_self, ↓reduceIte]; done) | (simp only [kYa, c_1, c_2, c_3, c_4, eq_self, ↓reduceIte]; rfl) | (simp only [kYa, c_1, c_2, eq_true c_3, c_4, eq_self, ↓reduceIte]; done) | (simp only [kYa, c_1, c_2, eq_true c_3, c_4, eq_self, ↓reduceIte]; rfl) | (simp [kYa, c_1, c_2, eq_true c_3, c_4]; done) | simp [kYa, c_1, c_2, c_3, c_4])
          rw [ek9]
          exact ty_V (b := hT) (As := [.int q, .int st, .int 1]) (rest := []) ⟨hx, hb, hml, hown, hts⟩ (t_X1_makeClaim l D cI cZ cJ _ hst hT hB hV a hG tr q st true c_4) (cwV 3 hts gX1_claimAmong_X1_makeClaim rfl rfl rfl (by decide +kernel) ⟨Nat.le_of_ble_eq_true rfl, Nat.le_of_ble_eq_true rfl⟩) hP hD hK hN hY hS hA hZ (va_recv hK hP (ci := 1) (q0 := 0) rfl rfl) rfl hl.1 rfl (Nat.le_of_ble_eq_true rfl) dX1_claimAmong_37 ⟨Nat.le_of_ble_eq_true rfl, Nat.le_of_ble_eq_true rfl⟩ [0, 1] [] rfl rfl 2 rfl (by decide) (by decide) hout hlocks
      · have ek9 : kYa a tr q st = 3 := by (first | rfl | (simp only [kYa, c_1, c_2, c_3, eq_self, ↓reduceIte]; done) | (simp only [kYa, c_1, c_2, c_3, eq_self, ↓reduceIte]; rfl) | simp [kYa, c_1, c_2, c_3])
        rw [ek9]
        exact ty_throw (E := "java/lang/IllegalArgumentException") hx hb hst hown rfl (by decide +kernel) (hts (.classLink RX1 40 "java/lang/IllegalArgumentException") (List.mem_of_getElem? (i := 1) rfl)) (hts (.initialized "java/lang/IllegalArgumentException") (List.mem_of_getElem? (i := 2) rfl)) hN hY 2 rfl 2 rfl (fun w h => hts w (List.mem_cons_of_mem _ (List.mem_append_left _ (List.mem_append_left _ (List.mem_append_left _ (List.mem_append_right _ h)))))) (by decide +kernel) (by decide +kernel) hZ hS hP (hl.1.trans hml.symm) dX1_claimAmong_23 dX1_claimAmong_26 dX1_claimAmong_27 dX1_claimAmong_29 dX1_claimAmong_32 hout (Nat.le_of_ble_eq_true rfl) (Nat.le_of_ble_eq_true rfl) (Nat.le_of_ble_eq_true rfl) (Nat.le_of_ble_eq_true rfl) hlocks
    · have c_2 : (yPl a q) = false := eq_false_of_ne_true c_2
      have ek9 : kYa a tr q st = 2 := by (first | rfl | (simp only [kYa, c_1, c_2, eq_self, ↓reduceIte]; done) | (simp only [kYa, c_1, c_2, eq_self, ↓reduceIte]; rfl) | simp [kYa, c_1, c_2])
      rw [ek9]
      exact ty_V (b := hT) (As := [.int q]) (rest := []) ⟨hx, hb, hml, hown, hts⟩ (t_X1_requirePlayer l D cI cZ cJ _ hst hT hB hV a q c_2) (cwV 1 hts gX1_claimAmong_X1_requirePlayer rfl rfl rfl (by decide +kernel) ⟨Nat.le_of_ble_eq_true rfl, Nat.le_of_ble_eq_true rfl⟩) hP hD hK hN hY hS hA hZ (va_recv hK hP (ci := 1) (q0 := 0) rfl rfl) rfl hl.1 rfl (Nat.le_of_ble_eq_true rfl) dX1_claimAmong_6 ⟨Nat.le_of_ble_eq_true rfl, Nat.le_of_ble_eq_true rfl⟩ [0] [1] rfl rfl 2 rfl (by decide) (by decide) hout hlocks

set_option maxHeartbeats 2000000 in
set_option maxRecDepth 100000 in
theorem t_X1_vote (l : Launch) (D : va_G) (cI cZ cJ : ClassId) (sz : Nat) (hst : l.stackTraces = false) (hT : Nat) (hB : Nat) (hV : Nat) (a : Nat → Int32) (q : Int32) (r : Int32) (hk : ¬ kYv a q r = 0) : Ty l D cI cZ cJ yX1_vote wsX1_vote 7 111 sz [.ref hT, .int q, .int r] [cT hT hB hV a] (kYv a q r) := by
  refine ty_of (by decide) rfl (Nat.le_of_ble_eq_true rfl) (fun p e s m below meth c ls A hx hb hr hml hts hown hlocks hout hP hK hN hD hA hS hZ hY hl => ?_)
  have hl : lv_has ls 3 [(0, .ref hT), (1, .int q), (2, .int r)] := hl
  refine lv_aload_n hx hb dX1_vote_0 rfl (lv_at hl 0 rfl) ?_
  refine lv_iconst (v := 1) hx hb dX1_vote_1 (by decide) ?_
  by_cases c_1 : (a 0) = 1
  · refine rv_V (b := hT) (As := [.int 1]) (rest := []) ⟨hx, hb, hml, hown, hts⟩ (c_X1_requirePhase l D cI cZ cJ hT hB hV a 1 c_1) (cwV 1 hts gX1_vote_X1_requirePhase rfl rfl rfl (by decide +kernel) ⟨Nat.le_of_ble_eq_true rfl, Nat.le_of_ble_eq_true rfl⟩) (hP.sub (ws' := [cT hT hB hV a]) [0] rfl) hK hN (va_recv hK hP (ci := 1) (q0 := 0) rfl rfl) rfl hl.1 rfl (Nat.le_of_ble_eq_true rfl) dX1_vote_2 ⟨Nat.le_of_ble_eq_true rfl, Nat.le_of_ble_eq_true rfl⟩ ?_
    refine lv_aload_n hx hb dX1_vote_5 rfl (lv_at hl 0 rfl) ?_
    refine lv_iload_n hx hb dX1_vote_6 rfl (lv_at hl 1 rfl) ?_
    by_cases c_2 : (yPl a q) = true
    · refine rv_V (b := hT) (As := [.int q]) (rest := []) ⟨hx, hb, hml, hown, hts⟩ (c_X1_requirePlayer l D cI cZ cJ hT hB hV a q c_2) (cwV 1 hts gX1_vote_X1_requirePlayer rfl rfl rfl (by decide +kernel) ⟨Nat.le_of_ble_eq_true rfl, Nat.le_of_ble_eq_true rfl⟩) (hP.sub (ws' := [cT hT hB hV a]) [0] rfl) hK hN (va_recv hK hP (ci := 1) (q0 := 0) rfl rfl) rfl hl.1 rfl (Nat.le_of_ble_eq_true rfl) dX1_vote_7 ⟨Nat.le_of_ble_eq_true rfl, Nat.le_of_ble_eq_true rfl⟩ ?_
      refine lv_aload_n hx hb dX1_vote_10 rfl (lv_at hl 0 rfl) ?_
      refine lv_iload_n hx hb dX1_vote_11 rfl (lv_at hl 2 rfl) ?_
      by_cases c_3 : (yPl a r) = true
      · refine rv_V (b := hT) (As := [.int r]) (rest := []) ⟨hx, hb, hml, hown, hts⟩ (c_X1_requirePlayer l D cI cZ cJ hT hB hV a r c_3) (cwV 1 hts gX1_vote_X1_requirePlayer rfl rfl rfl (by decide +kernel) ⟨Nat.le_of_ble_eq_true rfl, Nat.le_of_ble_eq_true rfl⟩) (hP.sub (ws' := [cT hT hB hV a]) [0] rfl) hK hN (va_recv hK hP (ci := 1) (q0 := 0) rfl rfl) rfl hl.1 rfl (Nat.le_of_ble_eq_true rfl) dX1_vote_12 ⟨Nat.le_of_ble_eq_true rfl, Nat.le_of_ble_eq_true rfl⟩ ?_
        refine lv_aload_n hx hb dX1_vote_15 rfl (lv_at hl 0 rfl) ?_
        refine lv_iload_n hx hb dX1_vote_16 rfl (lv_at hl 1 rfl) ?_
        refine rd_V (b := hT) (As := [.int q]) (rest := []) ⟨hx, hb, hml, hown, hts⟩ (c_X1_isAlive l D cI cZ cJ hT hB hV a q) (cwV 1 hts gX1_vote_X1_isAlive rfl rfl rfl (by decide +kernel) ⟨Nat.le_of_ble_eq_true rfl, Nat.le_of_ble_eq_true rfl⟩) (hP.sub (ws' := [cT hT hB hV a]) [0] rfl) hK hN (va_recv hK hP (ci := 1) (q0 := 0) rfl rfl) rfl hl.1 rfl (Nat.le_of_ble_eq_true rfl) dX1_vote_17 ⟨Nat.le_of_ble_eq_true rfl, Nat.le_of_ble_eq_true rfl⟩ ?_
        refine lv_if_eq (tgt := 31) hx hb dX1_vote_20 (by decide) (fun c_4 => ?_) (fun c_4 => ?_)
        · have c_4 : (yIn (a 6) q) = false := bI_0 c_4
          have ek9 : kYv a q r = 3 := by (first | rfl | (simp only [kYv, c_1, c_2, c_3, c_4, eq_self, ↓reduceIte]; done) | (simp only [kYv, c_1, c_2, c_3, c_4, eq_self, ↓reduceIte]; rfl) | (simp only [kYv, eq_true c_1, c_2, c_3, c_4, eq_self, ↓reduceIte]; done) | (simp only [kYv, eq_true c_1, c_2, c_3, c_4, eq_self, ↓reduceIte]; rfl) | (simp [kYv, eq_true c_1, c_2, c_3, c_4]; done) | simp [kYv, c_1, c_2, c_3, c_4])
          rw [ek9]
          exact ty_throw (E := "java/lang/IllegalArgumentException") hx hb hst hown rfl (by decide +kernel) (hts (.classLink RX1 40 "java/lang/IllegalArgumentException") (List.mem_of_getElem? (i := 1) rfl)) (hts (.initialized "java/lang/IllegalArgumentException") (List.mem_of_getElem? (i := 2) rfl)) hN hY 3 rfl 2 rfl (fun w h => hts w (List.mem_cons_of_mem _ (List.mem_append_left _ (List.mem_append_left _ (List.mem_append_right _ h))))) (by decide +kernel) (by decide +kernel) hZ hS hP (hl.1.trans hml.symm) dX1_vote_31 dX1_vote_34 dX1_vote_35 dX1_vote_37 dX1_vote_40 hout (Nat.le_of_ble_eq_true rfl) (Nat.le_of_ble_eq_true rfl) (Nat.le_of_ble_eq_true rfl) (Nat.le_of_ble_eq_true rfl) hlocks
        · have c_4 : (yIn (a 6) q) = true := bI_1 c_4
          refine lv_aload_n hx hb dX1_vote_23 rfl (lv_at hl 0 rfl) ?_
          refine lv_iload_n hx hb dX1_vote_24 rfl (lv_at hl 2 rfl) ?_
          refine rd_V (b := hT) (As := [.int r]) (rest := []) ⟨hx, hb, hml, hown, hts⟩ (c_X1_isAlive l D cI cZ cJ hT hB hV a r) (cwV 1 hts gX1_vote_X1_isAlive rfl rfl rfl (by decide +kernel) ⟨Nat.le_of_ble_eq_true rfl, Nat.le_of_ble_eq_true rfl⟩) (hP.sub (ws' := [cT hT hB hV a]) [0] rfl) hK hN (va_recv hK hP (ci := 1) (q0 := 0) rfl rfl) rfl hl.1 rfl (Nat.le_of_ble_eq_true rfl) dX1_vote_25 ⟨Nat.le_of_ble_eq_true rfl, Nat.le_of_ble_eq_true rfl⟩ ?_
          refine lv_if_ne (tgt := 41) hx hb dX1_vote_28 (by decide) (fun c_5 => ?_) (fun c_5 => ?_)
          · have c_5 : (yIn (a 6) r) = true := bI_1 c_5
            exact absurd (by (first | rfl | (simp only [kYv, c_1, c_2, c_3, c_4, c_5, eq_self, ↓reduceIte]; done) | (simp only [kYv, c_1, c_2, c_3, c_4, c_5, eq_self, ↓reduceIte]; rfl) | (simp only [kYv, eq_true c_1, c_2, c_3, c_4, c_5, eq_self, ↓reduceIte]; done) | (simp only [kYv, eq_true c_1, c_2, c_3, c_4, c_5, eq_self, ↓reduceIte]; rfl) | (simp [kYv, eq_true c_1, c_2, c_3, c_4, c_5]; done) | simp [kYv, c_1, c_2, c_3, c_4, c_5])) hk
          · have c_5 : (yIn (a 6) r) = false := bI_0 c_5
            have ek9 : kYv a q r = 3 := by (first | rfl | (simp only [kYv, c_1, c_2, c_3, c_4, c_5, eq_self, ↓reduceIte]; done) | (simp only [kYv, c_1, c_2, c_3, c_4, c_5, eq_self, ↓reduceIte]; rfl) | (simp only [kYv, eq_true c_1, c_2, c_3, c_4, c_5, eq_self, ↓reduceIte]; done) | (simp only [kYv, eq_true c_1, c_2, c_3, c_4, c_5, eq_self, ↓reduceIte]; rfl) | (simp [kYv, eq_true c_1, c_2, c_3, c_4, c_5]; done) | simp [kYv, c_1, c_2, c_3, c_4, c_5])
            rw [ek9]
            exact ty_throw (E := "java/lang/IllegalArgumentException") hx hb hst hown rfl (by decide +kernel) (hts (.classLink RX1 40 "java/lang/IllegalArgumentException") (List.mem_of_getElem? (i := 1) rfl)) (hts (.initialized "java/lang/IllegalArgumentException") (List.mem_of_getElem? (i := 2) rfl)) hN hY 3 rfl 2 rfl (fun w h => hts w (List.mem_cons_of_mem _ (List.mem_append_left _ (List.mem_append_left _ (List.mem_append_right _ h))))) (by decide +kernel) (by decide +kernel) hZ hS hP (hl.1.trans hml.symm) dX1_vote_31 dX1_vote_34 dX1_vote_35 dX1_vote_37 dX1_vote_40 hout (Nat.le_of_ble_eq_true rfl) (Nat.le_of_ble_eq_true rfl) (Nat.le_of_ble_eq_true rfl) (Nat.le_of_ble_eq_true rfl) hlocks
      · have c_3 : (yPl a r) = false := eq_false_of_ne_true c_3
        have ek9 : kYv a q r = 2 := by (first | rfl | (simp only [kYv, c_1, c_2, c_3, eq_self, ↓reduceIte]; done) | (simp only [kYv, c_1, c_2, c_3, eq_self, ↓reduceIte]; rfl) | (simp only [kYv, eq_true c_1, c_2, c_3, eq_self, ↓reduceIte]; done) | (simp only [kYv, eq_true c_1, c_2, c_3, eq_self, ↓reduceIte]; rfl) | (simp [kYv, eq_true c_1, c_2, c_3]; done) | simp [kYv, c_1, c_2, c_3])
        rw [ek9]
        exact ty_V (b := hT) (As := [.int r]) (rest := []) ⟨hx, hb, hml, hown, hts⟩ (t_X1_requirePlayer l D cI cZ cJ _ hst hT hB hV a r c_3) (cwV 1 hts gX1_vote_X1_requirePlayer rfl rfl rfl (by decide +kernel) ⟨Nat.le_of_ble_eq_true rfl, Nat.le_of_ble_eq_true rfl⟩) hP hD hK hN hY hS hA hZ (va_recv hK hP (ci := 1) (q0 := 0) rfl rfl) rfl hl.1 rfl (Nat.le_of_ble_eq_true rfl) dX1_vote_12 ⟨Nat.le_of_ble_eq_true rfl, Nat.le_of_ble_eq_true rfl⟩ [0] [] rfl rfl 1 rfl (by decide) (by decide) hout hlocks
    · have c_2 : (yPl a q) = false := eq_false_of_ne_true c_2
      have ek9 : kYv a q r = 2 := by (first | rfl | (simp only [kYv, c_1, c_2, eq_self, ↓reduceIte]; done) | (simp only [kYv, c_1, c_2, eq_self, ↓reduceIte]; rfl) | (simp only [kYv, eq_true c_1, c_2, eq_self, ↓reduceIte]; done) | (simp only [kYv, eq_true c_1, c_2, eq_self, ↓reduceIte]; rfl) | (simp [kYv, eq_true c_1, c_2]; done) | simp [kYv, c_1, c_2])
      rw [ek9]
      exact ty_V (b := hT) (As := [.int q]) (rest := []) ⟨hx, hb, hml, hown, hts⟩ (t_X1_requirePlayer l D cI cZ cJ _ hst hT hB hV a q c_2) (cwV 1 hts gX1_vote_X1_requirePlayer rfl rfl rfl (by decide +kernel) ⟨Nat.le_of_ble_eq_true rfl, Nat.le_of_ble_eq_true rfl⟩) hP hD hK hN hY hS hA hZ (va_recv hK hP (ci := 1) (q0 := 0) rfl rfl) rfl hl.1 rfl (Nat.le_of_ble_eq_true rfl) dX1_vote_7 ⟨Nat.le_of_ble_eq_true rfl, Nat.le_of_ble_eq_true rfl⟩ [0] [] rfl rfl 1 rfl (by decide) (by decide) hout hlocks
  · have ek9 : kYv a q r = 1 := by (first | rfl | (simp only [kYv, c_1, eq_self, ↓reduceIte]; done) | (simp only [kYv, c_1, eq_self, ↓reduceIte]; rfl) | simp [kYv, c_1])
    rw [ek9]
    exact ty_V (b := hT) (As := [.int 1]) (rest := []) ⟨hx, hb, hml, hown, hts⟩ (t_X1_requirePhase l D cI cZ cJ _ hst hT hB hV a 1 c_1) (cwV 1 hts gX1_vote_X1_requirePhase rfl rfl rfl (by decide +kernel) ⟨Nat.le_of_ble_eq_true rfl, Nat.le_of_ble_eq_true rfl⟩) hP hD hK hN hY hS hA hZ (va_recv hK hP (ci := 1) (q0 := 0) rfl rfl) rfl hl.1 rfl (Nat.le_of_ble_eq_true rfl) dX1_vote_2 ⟨Nat.le_of_ble_eq_true rfl, Nat.le_of_ble_eq_true rfl⟩ [0] [] rfl rfl 1 rfl (by decide) (by decide) hout hlocks

set_option maxHeartbeats 2000000 in
set_option maxRecDepth 100000 in
theorem t_X1_closeVote (l : Launch) (D : va_G) (cI cZ cJ : ClassId) (sz : Nat) (hst : l.stackTraces = false) (hT : Nat) (hB : Nat) (hV : Nat) (a : Nat → Int32) (hk : ¬ kYh a 1 = 0) : Ty l D cI cZ cJ yX1_closeVote wsX1_closeVote 7 111 sz [.ref hT] [cT hT hB hV a] (kYh a 1) := by
  refine ty_of (by decide) rfl (Nat.le_of_ble_eq_true rfl) (fun p e s m below meth c ls A hx hb hr hml hts hown hlocks hout hP hK hN hD hA hS hZ hY hl => ?_)
  have hl : lv_has ls 2 [(0, .ref hT)] := hl
  refine lv_aload_n hx hb dX1_closeVote_0 rfl (lv_at hl 0 rfl) ?_
  refine lv_iconst (v := 1) hx hb dX1_closeVote_1 (by decide) ?_
  by_cases c_1 : (a 0) = 1
  · refine rv_V (b := hT) (As := [.int 1]) (rest := []) ⟨hx, hb, hml, hown, hts⟩ (c_X1_requirePhase l D cI cZ cJ hT hB hV a 1 c_1) (cwV 1 hts gX1_closeVote_X1_requirePhase rfl rfl rfl (by decide +kernel) ⟨Nat.le_of_ble_eq_true rfl, Nat.le_of_ble_eq_true rfl⟩) (hP.sub (ws' := [cT hT hB hV a]) [0] rfl) hK hN (va_recv hK hP (ci := 1) (q0 := 0) rfl rfl) rfl hl.1 rfl (Nat.le_of_ble_eq_true rfl) dX1_closeVote_2 ⟨Nat.le_of_ble_eq_true rfl, Nat.le_of_ble_eq_true rfl⟩ ?_
    exact absurd (by (first | rfl | (simp only [kYh, c_1, eq_self, ↓reduceIte]; done) | (simp only [kYh, c_1, eq_self, ↓reduceIte]; rfl) | (simp only [kYh, eq_true c_1, eq_self, ↓reduceIte]; done) | (simp only [kYh, eq_true c_1, eq_self, ↓reduceIte]; rfl) | (simp [kYh, eq_true c_1]; done) | simp [kYh, c_1])) hk
  · have ek9 : kYh a 1 = 1 := by (first | rfl | (simp only [kYh, c_1, eq_self, ↓reduceIte]; done) | (simp only [kYh, c_1, eq_self, ↓reduceIte]; rfl) | simp [kYh, c_1])
    rw [ek9]
    exact ty_V (b := hT) (As := [.int 1]) (rest := []) ⟨hx, hb, hml, hown, hts⟩ (t_X1_requirePhase l D cI cZ cJ _ hst hT hB hV a 1 c_1) (cwV 1 hts gX1_closeVote_X1_requirePhase rfl rfl rfl (by decide +kernel) ⟨Nat.le_of_ble_eq_true rfl, Nat.le_of_ble_eq_true rfl⟩) hP hD hK hN hY hS hA hZ (va_recv hK hP (ci := 1) (q0 := 0) rfl rfl) rfl hl.1 rfl (Nat.le_of_ble_eq_true rfl) dX1_closeVote_2 ⟨Nat.le_of_ble_eq_true rfl, Nat.le_of_ble_eq_true rfl⟩ [0] [] rfl rfl 1 rfl (by decide) (by decide) hout hlocks

set_option maxHeartbeats 2000000 in
set_option maxRecDepth 100000 in
theorem t_X1_protect (l : Launch) (D : va_G) (cI cZ cJ : ClassId) (sz : Nat) (hst : l.stackTraces = false) (hT : Nat) (hB : Nat) (hV : Nat) (a : Nat → Int32) (q : Int32) (hk : ¬ kYp a q = 0) : Ty l D cI cZ cJ yX1_protect wsX1_protect 7 111 sz [.ref hT, .int q] [cT hT hB hV a] (kYp a q) := by
  refine ty_of (by decide) rfl (Nat.le_of_ble_eq_true rfl) (fun p e s m below meth c ls A hx hb hr hml hts hown hlocks hout hP hK hN hD hA hS hZ hY hl => ?_)
  have hl : lv_has ls 3 [(0, .ref hT), (1, .int q)] := hl
  refine lv_aload_n hx hb dX1_protect_0 rfl (lv_at hl 0 rfl) ?_
  refine lv_iconst (v := 2) hx hb dX1_protect_1 (by decide) ?_
  by_cases c_1 : (a 0) = 2
  · refine rv_V (b := hT) (As := [.int 2]) (rest := []) ⟨hx, hb, hml, hown, hts⟩ (c_X1_requirePhase l D cI cZ cJ hT hB hV a 2 c_1) (cwV 1 hts gX1_protect_X1_requirePhase rfl rfl rfl (by decide +kernel) ⟨Nat.le_of_ble_eq_true rfl, Nat.le_of_ble_eq_true rfl⟩) (hP.sub (ws' := [cT hT hB hV a]) [0] rfl) hK hN (va_recv hK hP (ci := 1) (q0 := 0) rfl rfl) rfl hl.1 rfl (Nat.le_of_ble_eq_true rfl) dX1_protect_2 ⟨Nat.le_of_ble_eq_true rfl, Nat.le_of_ble_eq_true rfl⟩ ?_
    refine lv_aload_n hx hb dX1_protect_5 rfl (lv_at hl 0 rfl) ?_
    refine lv_aload_n hx hb dX1_protect_6 rfl (lv_at hl 0 rfl) ?_
    refine va_get (D := D) (cl := vwCl) (ci := 1) (v := .int (a 5)) (C := RX1) (T := TX1) (N := 14) hx hb hts in_X1_protect_X1 hown hK hP 0 rfl rfl 7 (by decide) (hts (.fieldLink RX1 56 "WitchTrial" "guardPlayer" "I") (List.mem_of_getElem? (i := 3) rfl)) (fun _ h9 => h9) rfl dX1_protect_7 ?_
    by_cases c_2 : (yIn (a 6) (a 5)) = true
    · refine rv_V (b := hT) (As := [.int (a 5)]) (rest := []) ⟨hx, hb, hml, hown, hts⟩ (c_X1_requireToLive l D cI cZ cJ hT hB hV a (a 5) c_2) (cwV 1 hts gX1_protect_X1_requireToLive rfl rfl rfl (by decide +kernel) ⟨Nat.le_of_ble_eq_true rfl, Nat.le_of_ble_eq_true rfl⟩) (hP.sub (ws' := [cT hT hB hV a]) [0] rfl) hK hN (va_recv hK hP (ci := 1) (q0 := 0) rfl rfl) rfl hl.1 rfl (Nat.le_of_ble_eq_true rfl) dX1_protect_10 ⟨Nat.le_of_ble_eq_true rfl, Nat.le_of_ble_eq_true rfl⟩ ?_
      refine lv_aload_n hx hb dX1_protect_13 rfl (lv_at hl 0 rfl) ?_
      refine lv_iload_n hx hb dX1_protect_14 rfl (lv_at hl 1 rfl) ?_
      by_cases c_3 : (yPl a q) = true
      · refine rv_V (b := hT) (As := [.int q]) (rest := []) ⟨hx, hb, hml, hown, hts⟩ (c_X1_requirePlayer l D cI cZ cJ hT hB hV a q c_3) (cwV 1 hts gX1_protect_X1_requirePlayer rfl rfl rfl (by decide +kernel) ⟨Nat.le_of_ble_eq_true rfl, Nat.le_of_ble_eq_true rfl⟩) (hP.sub (ws' := [cT hT hB hV a]) [0] rfl) hK hN (va_recv hK hP (ci := 1) (q0 := 0) rfl rfl) rfl hl.1 rfl (Nat.le_of_ble_eq_true rfl) dX1_protect_15 ⟨Nat.le_of_ble_eq_true rfl, Nat.le_of_ble_eq_true rfl⟩ ?_
        refine lv_aload_n hx hb dX1_protect_18 rfl (lv_at hl 0 rfl) ?_
        refine lv_iload_n hx hb dX1_protect_19 rfl (lv_at hl 1 rfl) ?_
        refine rd_V (b := hT) (As := [.int q]) (rest := []) ⟨hx, hb, hml, hown, hts⟩ (c_X1_isAlive l D cI cZ cJ hT hB hV a q) (cwV 1 hts gX1_protect_X1_isAlive rfl rfl rfl (by decide +kernel) ⟨Nat.le_of_ble_eq_true rfl, Nat.le_of_ble_eq_true rfl⟩) (hP.sub (ws' := [cT hT hB hV a]) [0] rfl) hK hN (va_recv hK hP (ci := 1) (q0 := 0) rfl rfl) rfl hl.1 rfl (Nat.le_of_ble_eq_true rfl) dX1_protect_20 ⟨Nat.le_of_ble_eq_true rfl, Nat.le_of_ble_eq_true rfl⟩ ?_
        refine lv_if_eq (tgt := 34) hx hb dX1_protect_23 (by decide) (fun c_4 => ?_) (fun c_4 => ?_)
        · have c_4 : (yIn (a 6) q) = false := bI_0 c_4
          have ek9 : kYp a q = 3 := by (first | rfl | (simp only [kYp, c_1, c_2, c_3, c_4, eq_self, ↓reduceIte]; done) | (simp only [kYp, c_1, c_2, c_3, c_4, eq_self, ↓reduceIte]; rfl) | (simp only [kYp, eq_true c_1, c_2, c_3, c_4, eq_self, ↓reduceIte]; done) | (simp only [kYp, eq_true c_1, c_2, c_3, c_4, eq_self, ↓reduceIte]; rfl) | (simp [kYp, eq_true c_1, c_2, c_3, c_4]; done) | simp [kYp, c_1, c_2, c_3, c_4])
          rw [ek9]
          exact ty_throw (E := "java/lang/IllegalArgumentException") hx hb hst hown rfl (by decide +kernel) (hts (.classLink RX1 40 "java/lang/IllegalArgumentException") (List.mem_of_getElem? (i := 1) rfl)) (hts (.initialized "java/lang/IllegalArgumentException") (List.mem_of_getElem? (i := 2) rfl)) hN hY 4 rfl 2 rfl (fun w h => hts w (List.mem_cons_of_mem _ (List.mem_append_left _ (List.mem_append_left _ (List.mem_append_right _ h))))) (by decide +kernel) (by decide +kernel) hZ hS hP (hl.1.trans hml.symm) dX1_protect_34 dX1_protect_37 dX1_protect_38 dX1_protect_40 dX1_protect_43 hout (Nat.le_of_ble_eq_true rfl) (Nat.le_of_ble_eq_true rfl) (Nat.le_of_ble_eq_true rfl) (Nat.le_of_ble_eq_true rfl) hlocks
        · have c_4 : (yIn (a 6) q) = true := bI_1 c_4
          refine lv_iload_n hx hb dX1_protect_26 rfl (lv_at hl 1 rfl) ?_
          refine lv_aload_n hx hb dX1_protect_27 rfl (lv_at hl 0 rfl) ?_
          refine va_get (D := D) (cl := vwCl) (ci := 1) (v := .int (a 11)) (C := RX1) (T := TX1) (N := 14) hx hb hts in_X1_protect_X1 hown hK hP 0 rfl rfl 13 (by decide) (hts (.fieldLink RX1 33 "WitchTrial" "protectedLastNight" "I") (List.mem_of_getElem? (i := 4) rfl)) (fun _ h9 => h9) rfl dX1_protect_28 ?_
          refine lv_icmp_ne (tgt := 44) hx hb dX1_protect_31 (by decide) (fun c_5 => ?_) (fun c_5 => ?_)
          · exact absurd (by (first | rfl | (simp only [kYp, c_1, c_2, c_3, c_4, c_5, eq_self, ↓reduceIte]; done) | (simp only [kYp, c_1, c_2, c_3, c_4, c_5, eq_self, ↓reduceIte]; rfl) | (simp only [kYp, eq_true c_1, c_2, c_3, c_4, c_5, eq_self, ↓reduceIte]; done) | (simp only [kYp, eq_true c_1, c_2, c_3, c_4, c_5, eq_self, ↓reduceIte]; rfl) | (simp [kYp, eq_true c_1, c_2, c_3, c_4, c_5]; done) | simp [kYp, c_1, c_2, c_3, c_4, c_5])) hk
          · have ek9 : kYp a q = 3 := by (first | rfl | (simp only [kYp, c_1, c_2, c_3, c_4, eq_true c_5, eq_self, ↓reduceIte]; done) | (simp only [kYp, c_1, c_2, c_3, c_4, eq_true c_5, eq_self, ↓reduceIte]; rfl) | (simp only [kYp, eq_true c_1, c_2, c_3, c_4, eq_true c_5, eq_self, ↓reduceIte]; done) | (simp only [kYp, eq_true c_1, c_2, c_3, c_4, eq_true c_5, eq_self, ↓reduceIte]; rfl) | (simp [kYp, eq_true c_1, c_2, c_3, c_4, eq_true c_5]; done) | simp [kYp, c_1, c_2, c_3, c_4, eq_true c_5])
            rw [ek9]
            exact ty_throw (E := "java/lang/IllegalArgumentException") hx hb hst hown rfl (by decide +kernel) (hts (.classLink RX1 40 "java/lang/IllegalArgumentException") (List.mem_of_getElem? (i := 1) rfl)) (hts (.initialized "java/lang/IllegalArgumentException") (List.mem_of_getElem? (i := 2) rfl)) hN hY 4 rfl 2 rfl (fun w h => hts w (List.mem_cons_of_mem _ (List.mem_append_left _ (List.mem_append_left _ (List.mem_append_right _ h))))) (by decide +kernel) (by decide +kernel) hZ hS hP (hl.1.trans hml.symm) dX1_protect_34 dX1_protect_37 dX1_protect_38 dX1_protect_40 dX1_protect_43 hout (Nat.le_of_ble_eq_true rfl) (Nat.le_of_ble_eq_true rfl) (Nat.le_of_ble_eq_true rfl) (Nat.le_of_ble_eq_true rfl) hlocks
      · have c_3 : (yPl a q) = false := eq_false_of_ne_true c_3
        have ek9 : kYp a q = 2 := by (first | rfl | (simp only [kYp, c_1, c_2, c_3, eq_self, ↓reduceIte]; done) | (simp only [kYp, c_1, c_2, c_3, eq_self, ↓reduceIte]; rfl) | (simp only [kYp, eq_true c_1, c_2, c_3, eq_self, ↓reduceIte]; done) | (simp only [kYp, eq_true c_1, c_2, c_3, eq_self, ↓reduceIte]; rfl) | (simp [kYp, eq_true c_1, c_2, c_3]; done) | simp [kYp, c_1, c_2, c_3])
        rw [ek9]
        exact ty_V (b := hT) (As := [.int q]) (rest := []) ⟨hx, hb, hml, hown, hts⟩ (t_X1_requirePlayer l D cI cZ cJ _ hst hT hB hV a q c_3) (cwV 1 hts gX1_protect_X1_requirePlayer rfl rfl rfl (by decide +kernel) ⟨Nat.le_of_ble_eq_true rfl, Nat.le_of_ble_eq_true rfl⟩) hP hD hK hN hY hS hA hZ (va_recv hK hP (ci := 1) (q0 := 0) rfl rfl) rfl hl.1 rfl (Nat.le_of_ble_eq_true rfl) dX1_protect_15 ⟨Nat.le_of_ble_eq_true rfl, Nat.le_of_ble_eq_true rfl⟩ [0] [] rfl rfl 1 rfl (by decide) (by decide) hout hlocks
    · have c_2 : (yIn (a 6) (a 5)) = false := eq_false_of_ne_true c_2
      have ek9 : kYp a q = 1 := by (first | rfl | (simp only [kYp, c_1, c_2, eq_self, ↓reduceIte]; done) | (simp only [kYp, c_1, c_2, eq_self, ↓reduceIte]; rfl) | (simp only [kYp, eq_true c_1, c_2, eq_self, ↓reduceIte]; done) | (simp only [kYp, eq_true c_1, c_2, eq_self, ↓reduceIte]; rfl) | (simp [kYp, eq_true c_1, c_2]; done) | simp [kYp, c_1, c_2])
      rw [ek9]
      exact ty_V (b := hT) (As := [.int (a 5)]) (rest := []) ⟨hx, hb, hml, hown, hts⟩ (t_X1_requireToLive l D cI cZ cJ _ hst hT hB hV a (a 5) c_2) (cwV 1 hts gX1_protect_X1_requireToLive rfl rfl rfl (by decide +kernel) ⟨Nat.le_of_ble_eq_true rfl, Nat.le_of_ble_eq_true rfl⟩) hP hD hK hN hY hS hA hZ (va_recv hK hP (ci := 1) (q0 := 0) rfl rfl) rfl hl.1 rfl (Nat.le_of_ble_eq_true rfl) dX1_protect_10 ⟨Nat.le_of_ble_eq_true rfl, Nat.le_of_ble_eq_true rfl⟩ [0] [] rfl rfl 1 rfl (by decide) (by decide) hout hlocks
  · have ek9 : kYp a q = 1 := by (first | rfl | (simp only [kYp, c_1, eq_self, ↓reduceIte]; done) | (simp only [kYp, c_1, eq_self, ↓reduceIte]; rfl) | simp [kYp, c_1])
    rw [ek9]
    exact ty_V (b := hT) (As := [.int 2]) (rest := []) ⟨hx, hb, hml, hown, hts⟩ (t_X1_requirePhase l D cI cZ cJ _ hst hT hB hV a 2 c_1) (cwV 1 hts gX1_protect_X1_requirePhase rfl rfl rfl (by decide +kernel) ⟨Nat.le_of_ble_eq_true rfl, Nat.le_of_ble_eq_true rfl⟩) hP hD hK hN hY hS hA hZ (va_recv hK hP (ci := 1) (q0 := 0) rfl rfl) rfl hl.1 rfl (Nat.le_of_ble_eq_true rfl) dX1_protect_2 ⟨Nat.le_of_ble_eq_true rfl, Nat.le_of_ble_eq_true rfl⟩ [0] [] rfl rfl 1 rfl (by decide) (by decide) hout hlocks

set_option maxHeartbeats 2000000 in
set_option maxRecDepth 100000 in
theorem t_X1_attack (l : Launch) (D : va_G) (cI cZ cJ : ClassId) (sz : Nat) (hst : l.stackTraces = false) (hT : Nat) (hB : Nat) (hV : Nat) (a : Nat → Int32) (q : Int32) (hk : ¬ kYt a q = 0) : Ty l D cI cZ cJ yX1_attack wsX1_attack 7 111 sz [.ref hT, .int q] [cT hT hB hV a] (kYt a q) := by
  refine ty_of (by decide) rfl (Nat.le_of_ble_eq_true rfl) (fun p e s m below meth c ls A hx hb hr hml hts hown hlocks hout hP hK hN hD hA hS hZ hY hl => ?_)
  have hl : lv_has ls 3 [(0, .ref hT), (1, .int q)] := hl
  refine lv_aload_n hx hb dX1_attack_0 rfl (lv_at hl 0 rfl) ?_
  refine lv_iconst (v := 2) hx hb dX1_attack_1 (by decide) ?_
  by_cases c_1 : (a 0) = 2
  · refine rv_V (b := hT) (As := [.int 2]) (rest := []) ⟨hx, hb, hml, hown, hts⟩ (c_X1_requirePhase l D cI cZ cJ hT hB hV a 2 c_1) (cwV 1 hts gX1_attack_X1_requirePhase rfl rfl rfl (by decide +kernel) ⟨Nat.le_of_ble_eq_true rfl, Nat.le_of_ble_eq_true rfl⟩) (hP.sub (ws' := [cT hT hB hV a]) [0] rfl) hK hN (va_recv hK hP (ci := 1) (q0 := 0) rfl rfl) rfl hl.1 rfl (Nat.le_of_ble_eq_true rfl) dX1_attack_2 ⟨Nat.le_of_ble_eq_true rfl, Nat.le_of_ble_eq_true rfl⟩ ?_
    refine lv_aload_n hx hb dX1_attack_5 rfl (lv_at hl 0 rfl) ?_
    refine lv_iload_n hx hb dX1_attack_6 rfl (lv_at hl 1 rfl) ?_
    by_cases c_2 : (yPl a q) = true
    · refine rv_V (b := hT) (As := [.int q]) (rest := []) ⟨hx, hb, hml, hown, hts⟩ (c_X1_requirePlayer l D cI cZ cJ hT hB hV a q c_2) (cwV 1 hts gX1_attack_X1_requirePlayer rfl rfl rfl (by decide +kernel) ⟨Nat.le_of_ble_eq_true rfl, Nat.le_of_ble_eq_true rfl⟩) (hP.sub (ws' := [cT hT hB hV a]) [0] rfl) hK hN (va_recv hK hP (ci := 1) (q0 := 0) rfl rfl) rfl hl.1 rfl (Nat.le_of_ble_eq_true rfl) dX1_attack_7 ⟨Nat.le_of_ble_eq_true rfl, Nat.le_of_ble_eq_true rfl⟩ ?_
      refine lv_aload_n hx hb dX1_attack_10 rfl (lv_at hl 0 rfl) ?_
      refine lv_iload_n hx hb dX1_attack_11 rfl (lv_at hl 1 rfl) ?_
      refine rd_V (b := hT) (As := [.int q]) (rest := []) ⟨hx, hb, hml, hown, hts⟩ (c_X1_isAlive l D cI cZ cJ hT hB hV a q) (cwV 1 hts gX1_attack_X1_isAlive rfl rfl rfl (by decide +kernel) ⟨Nat.le_of_ble_eq_true rfl, Nat.le_of_ble_eq_true rfl⟩) (hP.sub (ws' := [cT hT hB hV a]) [0] rfl) hK hN (va_recv hK hP (ci := 1) (q0 := 0) rfl rfl) rfl hl.1 rfl (Nat.le_of_ble_eq_true rfl) dX1_attack_12 ⟨Nat.le_of_ble_eq_true rfl, Nat.le_of_ble_eq_true rfl⟩ ?_
      refine lv_if_eq (tgt := 26) hx hb dX1_attack_15 (by decide) (fun c_3 => ?_) (fun c_3 => ?_)
      · have c_3 : (yIn (a 6) q) = false := bI_0 c_3
        have ek9 : kYt a q = 3 := by (first | rfl | (simp only [kYt, c_1, c_2, c_3, eq_self, ↓reduceIte]; done) | (simp only [kYt, c_1, c_2, c_3, eq_self, ↓reduceIte]; rfl) | (simp only [kYt, eq_true c_1, c_2, c_3, eq_self, ↓reduceIte]; done) | (simp only [kYt, eq_true c_1, c_2, c_3, eq_self, ↓reduceIte]; rfl) | (simp [kYt, eq_true c_1, c_2, c_3]; done) | simp [kYt, c_1, c_2, c_3])
        rw [ek9]
        exact ty_throw (E := "java/lang/IllegalArgumentException") hx hb hst hown rfl (by decide +kernel) (hts (.classLink RX1 40 "java/lang/IllegalArgumentException") (List.mem_of_getElem? (i := 1) rfl)) (hts (.initialized "java/lang/IllegalArgumentException") (List.mem_of_getElem? (i := 2) rfl)) hN hY 5 rfl 2 rfl (fun w h => hts w (List.mem_cons_of_mem _ (List.mem_append_left _ (List.mem_append_left _ (List.mem_append_right _ h))))) (by decide +kernel) (by decide +kernel) hZ hS hP (hl.1.trans hml.symm) dX1_attack_26 dX1_attack_29 dX1_attack_30 dX1_attack_32 dX1_attack_35 hout (Nat.le_of_ble_eq_true rfl) (Nat.le_of_ble_eq_true rfl) (Nat.le_of_ble_eq_true rfl) (Nat.le_of_ble_eq_true rfl) hlocks
      · have c_3 : (yIn (a 6) q) = true := bI_1 c_3
        refine lv_aload_n hx hb dX1_attack_18 rfl (lv_at hl 0 rfl) ?_
        refine lv_iload_n hx hb dX1_attack_19 rfl (lv_at hl 1 rfl) ?_
        refine rd_V (b := hT) (As := [.int q]) (rest := []) ⟨hx, hb, hml, hown, hts⟩ (c_X1_isWitch l D cI cZ cJ hT hB hV a q) (cwV 1 hts gX1_attack_X1_isWitch rfl rfl rfl (by decide +kernel) ⟨Nat.le_of_ble_eq_true rfl, Nat.le_of_ble_eq_true rfl⟩) (hP.sub (ws' := [cT hT hB hV a]) [0] rfl) hK hN (va_recv hK hP (ci := 1) (q0 := 0) rfl rfl) rfl hl.1 rfl (Nat.le_of_ble_eq_true rfl) dX1_attack_20 ⟨Nat.le_of_ble_eq_true rfl, Nat.le_of_ble_eq_true rfl⟩ ?_
        refine lv_if_eq (tgt := 36) hx hb dX1_attack_23 (by decide) (fun c_4 => ?_) (fun c_4 => ?_)
        · have c_4 : (yIn (a 3) q) = false := bI_0 c_4
          exact absurd (by (first | rfl | (simp only [kYt, c_1, c_2, c_3, c_4, eq_self, ↓reduceIte]; done) | (simp only [kYt, c_1, c_2, c_3, c_4, eq_self, ↓reduceIte]; rfl) | (simp only [kYt, eq_true c_1, c_2, c_3, c_4, eq_self, ↓reduceIte]; done) | (simp only [kYt, eq_true c_1, c_2, c_3, c_4, eq_self, ↓reduceIte]; rfl) | (simp [kYt, eq_true c_1, c_2, c_3, c_4]; done) | simp [kYt, c_1, c_2, c_3, c_4])) hk
        · have c_4 : (yIn (a 3) q) = true := bI_1 c_4
          have ek9 : kYt a q = 3 := by (first | rfl | (simp only [kYt, c_1, c_2, c_3, c_4, eq_self, ↓reduceIte]; done) | (simp only [kYt, c_1, c_2, c_3, c_4, eq_self, ↓reduceIte]; rfl) | (simp only [kYt, eq_true c_1, c_2, c_3, c_4, eq_self, ↓reduceIte]; done) | (simp only [kYt, eq_true c_1, c_2, c_3, c_4, eq_self, ↓reduceIte]; rfl) | (simp [kYt, eq_true c_1, c_2, c_3, c_4]; done) | simp [kYt, c_1, c_2, c_3, c_4])
          rw [ek9]
          exact ty_throw (E := "java/lang/IllegalArgumentException") hx hb hst hown rfl (by decide +kernel) (hts (.classLink RX1 40 "java/lang/IllegalArgumentException") (List.mem_of_getElem? (i := 1) rfl)) (hts (.initialized "java/lang/IllegalArgumentException") (List.mem_of_getElem? (i := 2) rfl)) hN hY 5 rfl 2 rfl (fun w h => hts w (List.mem_cons_of_mem _ (List.mem_append_left _ (List.mem_append_left _ (List.mem_append_right _ h))))) (by decide +kernel) (by decide +kernel) hZ hS hP (hl.1.trans hml.symm) dX1_attack_26 dX1_attack_29 dX1_attack_30 dX1_attack_32 dX1_attack_35 hout (Nat.le_of_ble_eq_true rfl) (Nat.le_of_ble_eq_true rfl) (Nat.le_of_ble_eq_true rfl) (Nat.le_of_ble_eq_true rfl) hlocks
    · have c_2 : (yPl a q) = false := eq_false_of_ne_true c_2
      have ek9 : kYt a q = 2 := by (first | rfl | (simp only [kYt, c_1, c_2, eq_self, ↓reduceIte]; done) | (simp only [kYt, c_1, c_2, eq_self, ↓reduceIte]; rfl) | (simp only [kYt, eq_true c_1, c_2, eq_self, ↓reduceIte]; done) | (simp only [kYt, eq_true c_1, c_2, eq_self, ↓reduceIte]; rfl) | (simp [kYt, eq_true c_1, c_2]; done) | simp [kYt, c_1, c_2])
      rw [ek9]
      exact ty_V (b := hT) (As := [.int q]) (rest := []) ⟨hx, hb, hml, hown, hts⟩ (t_X1_requirePlayer l D cI cZ cJ _ hst hT hB hV a q c_2) (cwV 1 hts gX1_attack_X1_requirePlayer rfl rfl rfl (by decide +kernel) ⟨Nat.le_of_ble_eq_true rfl, Nat.le_of_ble_eq_true rfl⟩) hP hD hK hN hY hS hA hZ (va_recv hK hP (ci := 1) (q0 := 0) rfl rfl) rfl hl.1 rfl (Nat.le_of_ble_eq_true rfl) dX1_attack_7 ⟨Nat.le_of_ble_eq_true rfl, Nat.le_of_ble_eq_true rfl⟩ [0] [] rfl rfl 1 rfl (by decide) (by decide) hout hlocks
  · have ek9 : kYt a q = 1 := by (first | rfl | (simp only [kYt, c_1, eq_self, ↓reduceIte]; done) | (simp only [kYt, c_1, eq_self, ↓reduceIte]; rfl) | simp [kYt, c_1])
    rw [ek9]
    exact ty_V (b := hT) (As := [.int 2]) (rest := []) ⟨hx, hb, hml, hown, hts⟩ (t_X1_requirePhase l D cI cZ cJ _ hst hT hB hV a 2 c_1) (cwV 1 hts gX1_attack_X1_requirePhase rfl rfl rfl (by decide +kernel) ⟨Nat.le_of_ble_eq_true rfl, Nat.le_of_ble_eq_true rfl⟩) hP hD hK hN hY hS hA hZ (va_recv hK hP (ci := 1) (q0 := 0) rfl rfl) rfl hl.1 rfl (Nat.le_of_ble_eq_true rfl) dX1_attack_2 ⟨Nat.le_of_ble_eq_true rfl, Nat.le_of_ble_eq_true rfl⟩ [0] [] rfl rfl 1 rfl (by decide) (by decide) hout hlocks

set_option maxHeartbeats 2000000 in
set_option maxRecDepth 100000 in
theorem t_X1_look (l : Launch) (D : va_G) (cI cZ cJ : ClassId) (sz : Nat) (hst : l.stackTraces = false) (hT : Nat) (hB : Nat) (hV : Nat) (a : Nat → Int32) (q : Int32) (hk : ¬ kYl a q = 0) : Ty l D cI cZ cJ yX1_look wsX1_look 7 111 sz [.ref hT, .int q] [cT hT hB hV a] (kYl a q) := by
  refine ty_of (by decide) rfl (Nat.le_of_ble_eq_true rfl) (fun p e s m below meth c ls A hx hb hr hml hts hown hlocks hout hP hK hN hD hA hS hZ hY hl => ?_)
  have hl : lv_has ls 3 [(0, .ref hT), (1, .int q)] := hl
  refine lv_aload_n hx hb dX1_look_0 rfl (lv_at hl 0 rfl) ?_
  refine lv_iconst (v := 2) hx hb dX1_look_1 (by decide) ?_
  by_cases c_1 : (a 0) = 2
  · refine rv_V (b := hT) (As := [.int 2]) (rest := []) ⟨hx, hb, hml, hown, hts⟩ (c_X1_requirePhase l D cI cZ cJ hT hB hV a 2 c_1) (cwV 1 hts gX1_look_X1_requirePhase rfl rfl rfl (by decide +kernel) ⟨Nat.le_of_ble_eq_true rfl, Nat.le_of_ble_eq_true rfl⟩) (hP.sub (ws' := [cT hT hB hV a]) [0] rfl) hK hN (va_recv hK hP (ci := 1) (q0 := 0) rfl rfl) rfl hl.1 rfl (Nat.le_of_ble_eq_true rfl) dX1_look_2 ⟨Nat.le_of_ble_eq_true rfl, Nat.le_of_ble_eq_true rfl⟩ ?_
    refine lv_aload_n hx hb dX1_look_5 rfl (lv_at hl 0 rfl) ?_
    refine lv_aload_n hx hb dX1_look_6 rfl (lv_at hl 0 rfl) ?_
    refine va_get (D := D) (cl := vwCl) (ci := 1) (v := .int (a 4)) (C := RX1) (T := TX1) (N := 14) hx hb hts in_X1_look_X1 hown hK hP 0 rfl rfl 6 (by decide) (hts (.fieldLink RX1 53 "WitchTrial" "seerPlayer" "I") (List.mem_of_getElem? (i := 3) rfl)) (fun _ h9 => h9) rfl dX1_look_7 ?_
    by_cases c_2 : (yIn (a 6) (a 4)) = true
    · refine rv_V (b := hT) (As := [.int (a 4)]) (rest := []) ⟨hx, hb, hml, hown, hts⟩ (c_X1_requireToLive l D cI cZ cJ hT hB hV a (a 4) c_2) (cwV 1 hts gX1_look_X1_requireToLive rfl rfl rfl (by decide +kernel) ⟨Nat.le_of_ble_eq_true rfl, Nat.le_of_ble_eq_true rfl⟩) (hP.sub (ws' := [cT hT hB hV a]) [0] rfl) hK hN (va_recv hK hP (ci := 1) (q0 := 0) rfl rfl) rfl hl.1 rfl (Nat.le_of_ble_eq_true rfl) dX1_look_10 ⟨Nat.le_of_ble_eq_true rfl, Nat.le_of_ble_eq_true rfl⟩ ?_
      refine lv_aload_n hx hb dX1_look_13 rfl (lv_at hl 0 rfl) ?_
      refine lv_iload_n hx hb dX1_look_14 rfl (lv_at hl 1 rfl) ?_
      by_cases c_3 : (yPl a q) = true
      · refine rv_V (b := hT) (As := [.int q]) (rest := []) ⟨hx, hb, hml, hown, hts⟩ (c_X1_requirePlayer l D cI cZ cJ hT hB hV a q c_3) (cwV 1 hts gX1_look_X1_requirePlayer rfl rfl rfl (by decide +kernel) ⟨Nat.le_of_ble_eq_true rfl, Nat.le_of_ble_eq_true rfl⟩) (hP.sub (ws' := [cT hT hB hV a]) [0] rfl) hK hN (va_recv hK hP (ci := 1) (q0 := 0) rfl rfl) rfl hl.1 rfl (Nat.le_of_ble_eq_true rfl) dX1_look_15 ⟨Nat.le_of_ble_eq_true rfl, Nat.le_of_ble_eq_true rfl⟩ ?_
        refine lv_aload_n hx hb dX1_look_18 rfl (lv_at hl 0 rfl) ?_
        refine lv_iload_n hx hb dX1_look_19 rfl (lv_at hl 1 rfl) ?_
        refine rd_V (b := hT) (As := [.int q]) (rest := []) ⟨hx, hb, hml, hown, hts⟩ (c_X1_isAlive l D cI cZ cJ hT hB hV a q) (cwV 1 hts gX1_look_X1_isAlive rfl rfl rfl (by decide +kernel) ⟨Nat.le_of_ble_eq_true rfl, Nat.le_of_ble_eq_true rfl⟩) (hP.sub (ws' := [cT hT hB hV a]) [0] rfl) hK hN (va_recv hK hP (ci := 1) (q0 := 0) rfl rfl) rfl hl.1 rfl (Nat.le_of_ble_eq_true rfl) dX1_look_20 ⟨Nat.le_of_ble_eq_true rfl, Nat.le_of_ble_eq_true rfl⟩ ?_
        refine lv_if_eq (tgt := 34) hx hb dX1_look_23 (by decide) (fun c_4 => ?_) (fun c_4 => ?_)
        · have c_4 : (yIn (a 6) q) = false := bI_0 c_4
          have ek9 : kYl a q = 3 := by (first | rfl | (simp only [kYl, c_1, c_2, c_3, c_4, eq_self, ↓reduceIte]; done) | (simp only [kYl, c_1, c_2, c_3, c_4, eq_self, ↓reduceIte]; rfl) | (simp only [kYl, eq_true c_1, c_2, c_3, c_4, eq_self, ↓reduceIte]; done) | (simp only [kYl, eq_true c_1, c_2, c_3, c_4, eq_self, ↓reduceIte]; rfl) | (simp [kYl, eq_true c_1, c_2, c_3, c_4]; done) | simp [kYl, c_1, c_2, c_3, c_4])
          rw [ek9]
          exact ty_throw (E := "java/lang/IllegalArgumentException") hx hb hst hown rfl (by decide +kernel) (hts (.classLink RX1 40 "java/lang/IllegalArgumentException") (List.mem_of_getElem? (i := 1) rfl)) (hts (.initialized "java/lang/IllegalArgumentException") (List.mem_of_getElem? (i := 2) rfl)) hN hY 6 rfl 2 rfl (fun w h => hts w (List.mem_cons_of_mem _ (List.mem_append_left _ (List.mem_append_left _ (List.mem_append_right _ h))))) (by decide +kernel) (by decide +kernel) hZ hS hP (hl.1.trans hml.symm) dX1_look_34 dX1_look_37 dX1_look_38 dX1_look_40 dX1_look_43 hout (Nat.le_of_ble_eq_true rfl) (Nat.le_of_ble_eq_true rfl) (Nat.le_of_ble_eq_true rfl) (Nat.le_of_ble_eq_true rfl) hlocks
        · have c_4 : (yIn (a 6) q) = true := bI_1 c_4
          refine lv_iload_n hx hb dX1_look_26 rfl (lv_at hl 1 rfl) ?_
          refine lv_aload_n hx hb dX1_look_27 rfl (lv_at hl 0 rfl) ?_
          refine va_get (D := D) (cl := vwCl) (ci := 1) (v := .int (a 4)) (C := RX1) (T := TX1) (N := 14) hx hb hts in_X1_look_X1 hown hK hP 0 rfl rfl 6 (by decide) (hts (.fieldLink RX1 53 "WitchTrial" "seerPlayer" "I") (List.mem_of_getElem? (i := 3) rfl)) (fun _ h9 => h9) rfl dX1_look_28 ?_
          refine lv_icmp_ne (tgt := 44) hx hb dX1_look_31 (by decide) (fun c_5 => ?_) (fun c_5 => ?_)
          · exact absurd (by (first | rfl | (simp only [kYl, c_1, c_2, c_3, c_4, c_5, eq_self, ↓reduceIte]; done) | (simp only [kYl, c_1, c_2, c_3, c_4, c_5, eq_self, ↓reduceIte]; rfl) | (simp only [kYl, eq_true c_1, c_2, c_3, c_4, c_5, eq_self, ↓reduceIte]; done) | (simp only [kYl, eq_true c_1, c_2, c_3, c_4, c_5, eq_self, ↓reduceIte]; rfl) | (simp [kYl, eq_true c_1, c_2, c_3, c_4, c_5]; done) | simp [kYl, c_1, c_2, c_3, c_4, c_5])) hk
          · have ek9 : kYl a q = 3 := by (first | rfl | (simp only [kYl, c_1, c_2, c_3, c_4, eq_true c_5, eq_self, ↓reduceIte]; done) | (simp only [kYl, c_1, c_2, c_3, c_4, eq_true c_5, eq_self, ↓reduceIte]; rfl) | (simp only [kYl, eq_true c_1, c_2, c_3, c_4, eq_true c_5, eq_self, ↓reduceIte]; done) | (simp only [kYl, eq_true c_1, c_2, c_3, c_4, eq_true c_5, eq_self, ↓reduceIte]; rfl) | (simp [kYl, eq_true c_1, c_2, c_3, c_4, eq_true c_5]; done) | simp [kYl, c_1, c_2, c_3, c_4, eq_true c_5])
            rw [ek9]
            exact ty_throw (E := "java/lang/IllegalArgumentException") hx hb hst hown rfl (by decide +kernel) (hts (.classLink RX1 40 "java/lang/IllegalArgumentException") (List.mem_of_getElem? (i := 1) rfl)) (hts (.initialized "java/lang/IllegalArgumentException") (List.mem_of_getElem? (i := 2) rfl)) hN hY 6 rfl 2 rfl (fun w h => hts w (List.mem_cons_of_mem _ (List.mem_append_left _ (List.mem_append_left _ (List.mem_append_right _ h))))) (by decide +kernel) (by decide +kernel) hZ hS hP (hl.1.trans hml.symm) dX1_look_34 dX1_look_37 dX1_look_38 dX1_look_40 dX1_look_43 hout (Nat.le_of_ble_eq_true rfl) (Nat.le_of_ble_eq_true rfl) (Nat.le_of_ble_eq_true rfl) (Nat.le_of_ble_eq_true rfl) hlocks
      · have c_3 : (yPl a q) = false := eq_false_of_ne_true c_3
        have ek9 : kYl a q = 2 := by (first | rfl | (simp only [kYl, c_1, c_2, c_3, eq_self, ↓reduceIte]; done) | (simp only [kYl, c_1, c_2, c_3, eq_self, ↓reduceIte]; rfl) | (simp only [kYl, eq_true c_1, c_2, c_3, eq_self, ↓reduceIte]; done) | (simp only [kYl, eq_true c_1, c_2, c_3, eq_self, ↓reduceIte]; rfl) | (simp [kYl, eq_true c_1, c_2, c_3]; done) | simp [kYl, c_1, c_2, c_3])
        rw [ek9]
        exact ty_V (b := hT) (As := [.int q]) (rest := []) ⟨hx, hb, hml, hown, hts⟩ (t_X1_requirePlayer l D cI cZ cJ _ hst hT hB hV a q c_3) (cwV 1 hts gX1_look_X1_requirePlayer rfl rfl rfl (by decide +kernel) ⟨Nat.le_of_ble_eq_true rfl, Nat.le_of_ble_eq_true rfl⟩) hP hD hK hN hY hS hA hZ (va_recv hK hP (ci := 1) (q0 := 0) rfl rfl) rfl hl.1 rfl (Nat.le_of_ble_eq_true rfl) dX1_look_15 ⟨Nat.le_of_ble_eq_true rfl, Nat.le_of_ble_eq_true rfl⟩ [0] [] rfl rfl 1 rfl (by decide) (by decide) hout hlocks
    · have c_2 : (yIn (a 6) (a 4)) = false := eq_false_of_ne_true c_2
      have ek9 : kYl a q = 1 := by (first | rfl | (simp only [kYl, c_1, c_2, eq_self, ↓reduceIte]; done) | (simp only [kYl, c_1, c_2, eq_self, ↓reduceIte]; rfl) | (simp only [kYl, eq_true c_1, c_2, eq_self, ↓reduceIte]; done) | (simp only [kYl, eq_true c_1, c_2, eq_self, ↓reduceIte]; rfl) | (simp [kYl, eq_true c_1, c_2]; done) | simp [kYl, c_1, c_2])
      rw [ek9]
      exact ty_V (b := hT) (As := [.int (a 4)]) (rest := []) ⟨hx, hb, hml, hown, hts⟩ (t_X1_requireToLive l D cI cZ cJ _ hst hT hB hV a (a 4) c_2) (cwV 1 hts gX1_look_X1_requireToLive rfl rfl rfl (by decide +kernel) ⟨Nat.le_of_ble_eq_true rfl, Nat.le_of_ble_eq_true rfl⟩) hP hD hK hN hY hS hA hZ (va_recv hK hP (ci := 1) (q0 := 0) rfl rfl) rfl hl.1 rfl (Nat.le_of_ble_eq_true rfl) dX1_look_10 ⟨Nat.le_of_ble_eq_true rfl, Nat.le_of_ble_eq_true rfl⟩ [0] [] rfl rfl 1 rfl (by decide) (by decide) hout hlocks
  · have ek9 : kYl a q = 1 := by (first | rfl | (simp only [kYl, c_1, eq_self, ↓reduceIte]; done) | (simp only [kYl, c_1, eq_self, ↓reduceIte]; rfl) | simp [kYl, c_1])
    rw [ek9]
    exact ty_V (b := hT) (As := [.int 2]) (rest := []) ⟨hx, hb, hml, hown, hts⟩ (t_X1_requirePhase l D cI cZ cJ _ hst hT hB hV a 2 c_1) (cwV 1 hts gX1_look_X1_requirePhase rfl rfl rfl (by decide +kernel) ⟨Nat.le_of_ble_eq_true rfl, Nat.le_of_ble_eq_true rfl⟩) hP hD hK hN hY hS hA hZ (va_recv hK hP (ci := 1) (q0 := 0) rfl rfl) rfl hl.1 rfl (Nat.le_of_ble_eq_true rfl) dX1_look_2 ⟨Nat.le_of_ble_eq_true rfl, Nat.le_of_ble_eq_true rfl⟩ [0] [] rfl rfl 1 rfl (by decide) (by decide) hout hlocks

set_option maxHeartbeats 2000000 in
set_option maxRecDepth 100000 in
theorem t_X1_endNight (l : Launch) (D : va_G) (cI cZ cJ : ClassId) (sz : Nat) (hst : l.stackTraces = false) (hT : Nat) (hB : Nat) (hV : Nat) (a : Nat → Int32) (hk : ¬ kYh a 2 = 0) : Ty l D cI cZ cJ yX1_endNight wsX1_endNight 7 111 sz [.ref hT] [cT hT hB hV a] (kYh a 2) := by
  refine ty_of (by decide) rfl (Nat.le_of_ble_eq_true rfl) (fun p e s m below meth c ls A hx hb hr hml hts hown hlocks hout hP hK hN hD hA hS hZ hY hl => ?_)
  have hl : lv_has ls 2 [(0, .ref hT)] := hl
  refine lv_aload_n hx hb dX1_endNight_0 rfl (lv_at hl 0 rfl) ?_
  refine lv_iconst (v := 2) hx hb dX1_endNight_1 (by decide) ?_
  by_cases c_1 : (a 0) = 2
  · refine rv_V (b := hT) (As := [.int 2]) (rest := []) ⟨hx, hb, hml, hown, hts⟩ (c_X1_requirePhase l D cI cZ cJ hT hB hV a 2 c_1) (cwV 1 hts gX1_endNight_X1_requirePhase rfl rfl rfl (by decide +kernel) ⟨Nat.le_of_ble_eq_true rfl, Nat.le_of_ble_eq_true rfl⟩) (hP.sub (ws' := [cT hT hB hV a]) [0] rfl) hK hN (va_recv hK hP (ci := 1) (q0 := 0) rfl rfl) rfl hl.1 rfl (Nat.le_of_ble_eq_true rfl) dX1_endNight_2 ⟨Nat.le_of_ble_eq_true rfl, Nat.le_of_ble_eq_true rfl⟩ ?_
    exact absurd (by (first | rfl | (simp only [kYh, c_1, eq_self, ↓reduceIte]; done) | (simp only [kYh, c_1, eq_self, ↓reduceIte]; rfl) | (simp only [kYh, eq_true c_1, eq_self, ↓reduceIte]; done) | (simp only [kYh, eq_true c_1, eq_self, ↓reduceIte]; rfl) | (simp [kYh, eq_true c_1]; done) | simp [kYh, c_1])) hk
  · have ek9 : kYh a 2 = 1 := by (first | rfl | (simp only [kYh, c_1, eq_self, ↓reduceIte]; done) | (simp only [kYh, c_1, eq_self, ↓reduceIte]; rfl) | simp [kYh, c_1])
    rw [ek9]
    exact ty_V (b := hT) (As := [.int 2]) (rest := []) ⟨hx, hb, hml, hown, hts⟩ (t_X1_requirePhase l D cI cZ cJ _ hst hT hB hV a 2 c_1) (cwV 1 hts gX1_endNight_X1_requirePhase rfl rfl rfl (by decide +kernel) ⟨Nat.le_of_ble_eq_true rfl, Nat.le_of_ble_eq_true rfl⟩) hP hD hK hN hY hS hA hZ (va_recv hK hP (ci := 1) (q0 := 0) rfl rfl) rfl hl.1 rfl (Nat.le_of_ble_eq_true rfl) dX1_endNight_2 ⟨Nat.le_of_ble_eq_true rfl, Nat.le_of_ble_eq_true rfl⟩ [0] [] rfl rfl 1 rfl (by decide) (by decide) hout hlocks

set_option maxHeartbeats 2000000 in
set_option maxRecDepth 100000 in
theorem t_X1_day (l : Launch) (D : va_G) (cI cZ cJ : ClassId) (sz : Nat) (hst : l.stackTraces = false) (hT : Nat) (hB : Nat) (hV : Nat) (a : Nat → Int32) (hk : ¬ kYg a = 0) : Ty l D cI cZ cJ yX1_day wsX1_day 7 110 sz [.ref hT] [cT hT hB hV a] (kYg a) := by
  refine ty_of (by decide) rfl (Nat.le_of_ble_eq_true rfl) (fun p e s m below meth c ls A hx hb hr hml hts hown hlocks hout hP hK hN hD hA hS hZ hY hl => ?_)
  have hl : lv_has ls 1 [(0, .ref hT)] := hl
  refine lv_aload_n hx hb dX1_day_0 rfl (lv_at hl 0 rfl) ?_
  by_cases c_1 : (a 0) = 0
  · have ek9 : kYg a = 1 := by (first | rfl | (simp only [kYg, c_1, eq_self, ↓reduceIte]; done) | (simp only [kYg, c_1, eq_self, ↓reduceIte]; rfl) | (simp only [kYg, eq_true c_1, eq_self, ↓reduceIte]; done) | (simp only [kYg, eq_true c_1, eq_self, ↓reduceIte]; rfl) | (simp [kYg, eq_true c_1]; done) | simp [kYg, c_1])
    rw [ek9]
    exact ty_V (b := hT) (As := []) (rest := []) ⟨hx, hb, hml, hown, hts⟩ (t_X1_requireGame l D cI cZ cJ _ hst hT hB hV a c_1) (cwV 0 hts gX1_day_X1_requireGame rfl rfl rfl (by decide +kernel) ⟨Nat.le_of_ble_eq_true rfl, Nat.le_of_ble_eq_true rfl⟩) hP hD hK hN hY hS hA hZ (va_recv hK hP (ci := 1) (q0 := 0) rfl rfl) rfl hl.1 rfl (Nat.le_of_ble_eq_true rfl) dX1_day_1 ⟨Nat.le_of_ble_eq_true rfl, Nat.le_of_ble_eq_true rfl⟩ [0] [] rfl rfl 1 rfl (by decide) (by decide) hout hlocks
  · refine rv_V (b := hT) (As := []) (rest := []) ⟨hx, hb, hml, hown, hts⟩ (c_X1_requireGame l D cI cZ cJ hT hB hV a c_1) (cwV 0 hts gX1_day_X1_requireGame rfl rfl rfl (by decide +kernel) ⟨Nat.le_of_ble_eq_true rfl, Nat.le_of_ble_eq_true rfl⟩) (hP.sub (ws' := [cT hT hB hV a]) [0] rfl) hK hN (va_recv hK hP (ci := 1) (q0 := 0) rfl rfl) rfl hl.1 rfl (Nat.le_of_ble_eq_true rfl) dX1_day_1 ⟨Nat.le_of_ble_eq_true rfl, Nat.le_of_ble_eq_true rfl⟩ ?_
    exact absurd (by (first | rfl | (simp only [kYg, c_1, eq_self, ↓reduceIte]; done) | (simp only [kYg, c_1, eq_self, ↓reduceIte]; rfl) | simp [kYg, c_1])) hk

set_option maxHeartbeats 2000000 in
set_option maxRecDepth 100000 in
theorem t_X1_alive (l : Launch) (D : va_G) (cI cZ cJ : ClassId) (sz : Nat) (hst : l.stackTraces = false) (hT : Nat) (hB : Nat) (hV : Nat) (a : Nat → Int32) (hk : ¬ kYg a = 0) : Ty l D cI cZ cJ yX1_alive wsX1_alive 7 110 sz [.ref hT] [cT hT hB hV a] (kYg a) := by
  refine ty_of (by decide) rfl (Nat.le_of_ble_eq_true rfl) (fun p e s m below meth c ls A hx hb hr hml hts hown hlocks hout hP hK hN hD hA hS hZ hY hl => ?_)
  have hl : lv_has ls 1 [(0, .ref hT)] := hl
  refine lv_aload_n hx hb dX1_alive_0 rfl (lv_at hl 0 rfl) ?_
  by_cases c_1 : (a 0) = 0
  · have ek9 : kYg a = 1 := by (first | rfl | (simp only [kYg, c_1, eq_self, ↓reduceIte]; done) | (simp only [kYg, c_1, eq_self, ↓reduceIte]; rfl) | (simp only [kYg, eq_true c_1, eq_self, ↓reduceIte]; done) | (simp only [kYg, eq_true c_1, eq_self, ↓reduceIte]; rfl) | (simp [kYg, eq_true c_1]; done) | simp [kYg, c_1])
    rw [ek9]
    exact ty_V (b := hT) (As := []) (rest := []) ⟨hx, hb, hml, hown, hts⟩ (t_X1_requireGame l D cI cZ cJ _ hst hT hB hV a c_1) (cwV 0 hts gX1_alive_X1_requireGame rfl rfl rfl (by decide +kernel) ⟨Nat.le_of_ble_eq_true rfl, Nat.le_of_ble_eq_true rfl⟩) hP hD hK hN hY hS hA hZ (va_recv hK hP (ci := 1) (q0 := 0) rfl rfl) rfl hl.1 rfl (Nat.le_of_ble_eq_true rfl) dX1_alive_1 ⟨Nat.le_of_ble_eq_true rfl, Nat.le_of_ble_eq_true rfl⟩ [0] [] rfl rfl 1 rfl (by decide) (by decide) hout hlocks
  · refine rv_V (b := hT) (As := []) (rest := []) ⟨hx, hb, hml, hown, hts⟩ (c_X1_requireGame l D cI cZ cJ hT hB hV a c_1) (cwV 0 hts gX1_alive_X1_requireGame rfl rfl rfl (by decide +kernel) ⟨Nat.le_of_ble_eq_true rfl, Nat.le_of_ble_eq_true rfl⟩) (hP.sub (ws' := [cT hT hB hV a]) [0] rfl) hK hN (va_recv hK hP (ci := 1) (q0 := 0) rfl rfl) rfl hl.1 rfl (Nat.le_of_ble_eq_true rfl) dX1_alive_1 ⟨Nat.le_of_ble_eq_true rfl, Nat.le_of_ble_eq_true rfl⟩ ?_
    exact absurd (by (first | rfl | (simp only [kYg, c_1, eq_self, ↓reduceIte]; done) | (simp only [kYg, c_1, eq_self, ↓reduceIte]; rfl) | simp [kYg, c_1])) hk

set_option maxHeartbeats 2000000 in
set_option maxRecDepth 100000 in
theorem t_X1_lookedAt (l : Launch) (D : va_G) (cI cZ cJ : ClassId) (sz : Nat) (hst : l.stackTraces = false) (hT : Nat) (hB : Nat) (hV : Nat) (a : Nat → Int32) (hk : ¬ kYg a = 0) : Ty l D cI cZ cJ yX1_lookedAt wsX1_lookedAt 7 110 sz [.ref hT] [cT hT hB hV a] (kYg a) := by
  refine ty_of (by decide) rfl (Nat.le_of_ble_eq_true rfl) (fun p e s m below meth c ls A hx hb hr hml hts hown hlocks hout hP hK hN hD hA hS hZ hY hl => ?_)
  have hl : lv_has ls 1 [(0, .ref hT)] := hl
  refine lv_aload_n hx hb dX1_lookedAt_0 rfl (lv_at hl 0 rfl) ?_
  by_cases c_1 : (a 0) = 0
  · have ek9 : kYg a = 1 := by (first | rfl | (simp only [kYg, c_1, eq_self, ↓reduceIte]; done) | (simp only [kYg, c_1, eq_self, ↓reduceIte]; rfl) | (simp only [kYg, eq_true c_1, eq_self, ↓reduceIte]; done) | (simp only [kYg, eq_true c_1, eq_self, ↓reduceIte]; rfl) | (simp [kYg, eq_true c_1]; done) | simp [kYg, c_1])
    rw [ek9]
    exact ty_V (b := hT) (As := []) (rest := []) ⟨hx, hb, hml, hown, hts⟩ (t_X1_requireGame l D cI cZ cJ _ hst hT hB hV a c_1) (cwV 0 hts gX1_lookedAt_X1_requireGame rfl rfl rfl (by decide +kernel) ⟨Nat.le_of_ble_eq_true rfl, Nat.le_of_ble_eq_true rfl⟩) hP hD hK hN hY hS hA hZ (va_recv hK hP (ci := 1) (q0 := 0) rfl rfl) rfl hl.1 rfl (Nat.le_of_ble_eq_true rfl) dX1_lookedAt_1 ⟨Nat.le_of_ble_eq_true rfl, Nat.le_of_ble_eq_true rfl⟩ [0] [] rfl rfl 1 rfl (by decide) (by decide) hout hlocks
  · refine rv_V (b := hT) (As := []) (rest := []) ⟨hx, hb, hml, hown, hts⟩ (c_X1_requireGame l D cI cZ cJ hT hB hV a c_1) (cwV 0 hts gX1_lookedAt_X1_requireGame rfl rfl rfl (by decide +kernel) ⟨Nat.le_of_ble_eq_true rfl, Nat.le_of_ble_eq_true rfl⟩) (hP.sub (ws' := [cT hT hB hV a]) [0] rfl) hK hN (va_recv hK hP (ci := 1) (q0 := 0) rfl rfl) rfl hl.1 rfl (Nat.le_of_ble_eq_true rfl) dX1_lookedAt_1 ⟨Nat.le_of_ble_eq_true rfl, Nat.le_of_ble_eq_true rfl⟩ ?_
    exact absurd (by (first | rfl | (simp only [kYg, c_1, eq_self, ↓reduceIte]; done) | (simp only [kYg, c_1, eq_self, ↓reduceIte]; rfl) | simp [kYg, c_1])) hk

set_option maxHeartbeats 2000000 in
set_option maxRecDepth 100000 in
theorem t_X1_votesFor (l : Launch) (D : va_G) (cI cZ cJ : ClassId) (sz : Nat) (hst : l.stackTraces = false) (hT : Nat) (hB : Nat) (hV : Nat) (a : Nat → Int32) (q : Int32) (hk : ¬ kYo a q = 0) : Ty l D cI cZ cJ yX1_votesFor wsX1_votesFor 7 111 sz [.ref hT, .int q] [cT hT hB hV a] (kYo a q) := by
  refine ty_of (by decide) rfl (Nat.le_of_ble_eq_true rfl) (fun p e s m below meth c ls A hx hb hr hml hts hown hlocks hout hP hK hN hD hA hS hZ hY hl => ?_)
  have hl : lv_has ls 2 [(0, .ref hT), (1, .int q)] := hl
  refine lv_aload_n hx hb dX1_votesFor_0 rfl (lv_at hl 0 rfl) ?_
  by_cases c_1 : (a 0) = 0
  · have ek9 : kYo a q = 1 := by (first | rfl | (simp only [kYo, c_1, eq_self, ↓reduceIte]; done) | (simp only [kYo, c_1, eq_self, ↓reduceIte]; rfl) | (simp only [kYo, eq_true c_1, eq_self, ↓reduceIte]; done) | (simp only [kYo, eq_true c_1, eq_self, ↓reduceIte]; rfl) | (simp [kYo, eq_true c_1]; done) | simp [kYo, c_1])
    rw [ek9]
    exact ty_V (b := hT) (As := []) (rest := []) ⟨hx, hb, hml, hown, hts⟩ (t_X1_requireGame l D cI cZ cJ _ hst hT hB hV a c_1) (cwV 0 hts gX1_votesFor_X1_requireGame rfl rfl rfl (by decide +kernel) ⟨Nat.le_of_ble_eq_true rfl, Nat.le_of_ble_eq_true rfl⟩) hP hD hK hN hY hS hA hZ (va_recv hK hP (ci := 1) (q0 := 0) rfl rfl) rfl hl.1 rfl (Nat.le_of_ble_eq_true rfl) dX1_votesFor_1 ⟨Nat.le_of_ble_eq_true rfl, Nat.le_of_ble_eq_true rfl⟩ [0] [] rfl rfl 1 rfl (by decide) (by decide) hout hlocks
  · refine rv_V (b := hT) (As := []) (rest := []) ⟨hx, hb, hml, hown, hts⟩ (c_X1_requireGame l D cI cZ cJ hT hB hV a c_1) (cwV 0 hts gX1_votesFor_X1_requireGame rfl rfl rfl (by decide +kernel) ⟨Nat.le_of_ble_eq_true rfl, Nat.le_of_ble_eq_true rfl⟩) (hP.sub (ws' := [cT hT hB hV a]) [0] rfl) hK hN (va_recv hK hP (ci := 1) (q0 := 0) rfl rfl) rfl hl.1 rfl (Nat.le_of_ble_eq_true rfl) dX1_votesFor_1 ⟨Nat.le_of_ble_eq_true rfl, Nat.le_of_ble_eq_true rfl⟩ ?_
    refine lv_aload_n hx hb dX1_votesFor_4 rfl (lv_at hl 0 rfl) ?_
    refine lv_iload_n hx hb dX1_votesFor_5 rfl (lv_at hl 1 rfl) ?_
    by_cases c_2 : (yPl a q) = true
    · refine rv_V (b := hT) (As := [.int q]) (rest := []) ⟨hx, hb, hml, hown, hts⟩ (c_X1_requirePlayer l D cI cZ cJ hT hB hV a q c_2) (cwV 1 hts gX1_votesFor_X1_requirePlayer rfl rfl rfl (by decide +kernel) ⟨Nat.le_of_ble_eq_true rfl, Nat.le_of_ble_eq_true rfl⟩) (hP.sub (ws' := [cT hT hB hV a]) [0] rfl) hK hN (va_recv hK hP (ci := 1) (q0 := 0) rfl rfl) rfl hl.1 rfl (Nat.le_of_ble_eq_true rfl) dX1_votesFor_6 ⟨Nat.le_of_ble_eq_true rfl, Nat.le_of_ble_eq_true rfl⟩ ?_
      exact absurd (by (first | rfl | (simp only [kYo, c_1, c_2, eq_self, ↓reduceIte]; done) | (simp only [kYo, c_1, c_2, eq_self, ↓reduceIte]; rfl) | simp [kYo, c_1, c_2])) hk
    · have c_2 : (yPl a q) = false := eq_false_of_ne_true c_2
      have ek9 : kYo a q = 2 := by (first | rfl | (simp only [kYo, c_1, c_2, eq_self, ↓reduceIte]; done) | (simp only [kYo, c_1, c_2, eq_self, ↓reduceIte]; rfl) | simp [kYo, c_1, c_2])
      rw [ek9]
      exact ty_V (b := hT) (As := [.int q]) (rest := []) ⟨hx, hb, hml, hown, hts⟩ (t_X1_requirePlayer l D cI cZ cJ _ hst hT hB hV a q c_2) (cwV 1 hts gX1_votesFor_X1_requirePlayer rfl rfl rfl (by decide +kernel) ⟨Nat.le_of_ble_eq_true rfl, Nat.le_of_ble_eq_true rfl⟩) hP hD hK hN hY hS hA hZ (va_recv hK hP (ci := 1) (q0 := 0) rfl rfl) rfl hl.1 rfl (Nat.le_of_ble_eq_true rfl) dX1_votesFor_6 ⟨Nat.le_of_ble_eq_true rfl, Nat.le_of_ble_eq_true rfl⟩ [0] [] rfl rfl 1 rfl (by decide) (by decide) hout hlocks

set_option maxHeartbeats 2000000 in
set_option maxRecDepth 100000 in
theorem t_X1_worlds (l : Launch) (D : va_G) (cI cZ cJ : ClassId) (sz : Nat) (hst : l.stackTraces = false) (hT : Nat) (hB : Nat) (hV : Nat) (a : Nat → Int32) (q : Int32) (hk : ¬ kYw a q = 0) : Ty l D cI cZ cJ yX1_worlds wsX1_worlds 8 132 sz [.ref hT, .int q] [cT hT hB hV a] (kYw a q) := by
  refine ty_of (by decide) rfl (Nat.le_of_ble_eq_true rfl) (fun p e s m below meth c ls A hx hb hr hml hts hown hlocks hout hP hK hN hD hA hS hZ hY hl => ?_)
  have hl : lv_has ls 2 [(0, .ref hT), (1, .int q)] := hl
  refine lv_aload_n hx hb dX1_worlds_0 rfl (lv_at hl 0 rfl) ?_
  by_cases c_1 : (a 0) = 0
  · have ek9 : kYw a q = 1 := by (first | rfl | (simp only [kYw, c_1, eq_self, ↓reduceIte]; done) | (simp only [kYw, c_1, eq_self, ↓reduceIte]; rfl) | (simp only [kYw, eq_true c_1, eq_self, ↓reduceIte]; done) | (simp only [kYw, eq_true c_1, eq_self, ↓reduceIte]; rfl) | (simp [kYw, eq_true c_1]; done) | simp [kYw, c_1])
    rw [ek9]
    exact ty_V (b := hT) (As := []) (rest := []) ⟨hx, hb, hml, hown, hts⟩ (t_X1_requireGame l D cI cZ cJ _ hst hT hB hV a c_1) (cwV 0 hts gX1_worlds_X1_requireGame rfl rfl rfl (by decide +kernel) ⟨Nat.le_of_ble_eq_true rfl, Nat.le_of_ble_eq_true rfl⟩) hP hD hK hN hY hS hA hZ (va_recv hK hP (ci := 1) (q0 := 0) rfl rfl) rfl hl.1 rfl (Nat.le_of_ble_eq_true rfl) dX1_worlds_1 ⟨Nat.le_of_ble_eq_true rfl, Nat.le_of_ble_eq_true rfl⟩ [0] [] rfl rfl 1 rfl (by decide) (by decide) hout hlocks
  · refine rv_V (b := hT) (As := []) (rest := []) ⟨hx, hb, hml, hown, hts⟩ (c_X1_requireGame l D cI cZ cJ hT hB hV a c_1) (cwV 0 hts gX1_worlds_X1_requireGame rfl rfl rfl (by decide +kernel) ⟨Nat.le_of_ble_eq_true rfl, Nat.le_of_ble_eq_true rfl⟩) (hP.sub (ws' := [cT hT hB hV a]) [0] rfl) hK hN (va_recv hK hP (ci := 1) (q0 := 0) rfl rfl) rfl hl.1 rfl (Nat.le_of_ble_eq_true rfl) dX1_worlds_1 ⟨Nat.le_of_ble_eq_true rfl, Nat.le_of_ble_eq_true rfl⟩ ?_
    refine lv_aload_n hx hb dX1_worlds_4 rfl (lv_at hl 0 rfl) ?_
    refine lv_iload_n hx hb dX1_worlds_5 rfl (lv_at hl 1 rfl) ?_
    by_cases c_2 : (yVw a q) = true
    · refine rv_V (b := hT) (As := [.int q]) (rest := []) ⟨hx, hb, hml, hown, hts⟩ (c_X1_requireViewer l D cI cZ cJ hT hB hV a q c_2) (cwV 1 hts gX1_worlds_X1_requireViewer rfl rfl rfl (by decide +kernel) ⟨Nat.le_of_ble_eq_true rfl, Nat.le_of_ble_eq_true rfl⟩) (hP.sub (ws' := [cT hT hB hV a]) [0] rfl) hK hN (va_recv hK hP (ci := 1) (q0 := 0) rfl rfl) rfl hl.1 rfl (Nat.le_of_ble_eq_true rfl) dX1_worlds_6 ⟨Nat.le_of_ble_eq_true rfl, Nat.le_of_ble_eq_true rfl⟩ ?_
      exact absurd (by (first | rfl | (simp only [kYw, c_1, c_2, eq_self, ↓reduceIte]; done) | (simp only [kYw, c_1, c_2, eq_self, ↓reduceIte]; rfl) | simp [kYw, c_1, c_2])) hk
    · have c_2 : (yVw a q) = false := eq_false_of_ne_true c_2
      have ek9 : kYw a q = 2 := by (first | rfl | (simp only [kYw, c_1, c_2, eq_self, ↓reduceIte]; done) | (simp only [kYw, c_1, c_2, eq_self, ↓reduceIte]; rfl) | simp [kYw, c_1, c_2])
      rw [ek9]
      exact ty_V (b := hT) (As := [.int q]) (rest := []) ⟨hx, hb, hml, hown, hts⟩ (t_X1_requireViewer l D cI cZ cJ _ hst hT hB hV a q c_2) (cwV 1 hts gX1_worlds_X1_requireViewer rfl rfl rfl (by decide +kernel) ⟨Nat.le_of_ble_eq_true rfl, Nat.le_of_ble_eq_true rfl⟩) hP hD hK hN hY hS hA hZ (va_recv hK hP (ci := 1) (q0 := 0) rfl rfl) rfl hl.1 rfl (Nat.le_of_ble_eq_true rfl) dX1_worlds_6 ⟨Nat.le_of_ble_eq_true rfl, Nat.le_of_ble_eq_true rfl⟩ [0] [] rfl rfl 1 rfl (by decide) (by decide) hout hlocks

set_option maxHeartbeats 2000000 in
set_option maxRecDepth 100000 in
theorem t_X1_sureWitches (l : Launch) (D : va_G) (cI cZ cJ : ClassId) (sz : Nat) (hst : l.stackTraces = false) (hT : Nat) (hB : Nat) (hV : Nat) (a : Nat → Int32) (q : Int32) (hk : ¬ kYw a q = 0) : Ty l D cI cZ cJ yX1_sureWitches wsX1_sureWitches 8 132 sz [.ref hT, .int q] [cT hT hB hV a] (kYw a q) := by
  refine ty_of (by decide) rfl (Nat.le_of_ble_eq_true rfl) (fun p e s m below meth c ls A hx hb hr hml hts hown hlocks hout hP hK hN hD hA hS hZ hY hl => ?_)
  have hl : lv_has ls 2 [(0, .ref hT), (1, .int q)] := hl
  refine lv_aload_n hx hb dX1_sureWitches_0 rfl (lv_at hl 0 rfl) ?_
  by_cases c_1 : (a 0) = 0
  · have ek9 : kYw a q = 1 := by (first | rfl | (simp only [kYw, c_1, eq_self, ↓reduceIte]; done) | (simp only [kYw, c_1, eq_self, ↓reduceIte]; rfl) | (simp only [kYw, eq_true c_1, eq_self, ↓reduceIte]; done) | (simp only [kYw, eq_true c_1, eq_self, ↓reduceIte]; rfl) | (simp [kYw, eq_true c_1]; done) | simp [kYw, c_1])
    rw [ek9]
    exact ty_V (b := hT) (As := []) (rest := []) ⟨hx, hb, hml, hown, hts⟩ (t_X1_requireGame l D cI cZ cJ _ hst hT hB hV a c_1) (cwV 0 hts gX1_sureWitches_X1_requireGame rfl rfl rfl (by decide +kernel) ⟨Nat.le_of_ble_eq_true rfl, Nat.le_of_ble_eq_true rfl⟩) hP hD hK hN hY hS hA hZ (va_recv hK hP (ci := 1) (q0 := 0) rfl rfl) rfl hl.1 rfl (Nat.le_of_ble_eq_true rfl) dX1_sureWitches_1 ⟨Nat.le_of_ble_eq_true rfl, Nat.le_of_ble_eq_true rfl⟩ [0] [] rfl rfl 1 rfl (by decide) (by decide) hout hlocks
  · refine rv_V (b := hT) (As := []) (rest := []) ⟨hx, hb, hml, hown, hts⟩ (c_X1_requireGame l D cI cZ cJ hT hB hV a c_1) (cwV 0 hts gX1_sureWitches_X1_requireGame rfl rfl rfl (by decide +kernel) ⟨Nat.le_of_ble_eq_true rfl, Nat.le_of_ble_eq_true rfl⟩) (hP.sub (ws' := [cT hT hB hV a]) [0] rfl) hK hN (va_recv hK hP (ci := 1) (q0 := 0) rfl rfl) rfl hl.1 rfl (Nat.le_of_ble_eq_true rfl) dX1_sureWitches_1 ⟨Nat.le_of_ble_eq_true rfl, Nat.le_of_ble_eq_true rfl⟩ ?_
    refine lv_aload_n hx hb dX1_sureWitches_4 rfl (lv_at hl 0 rfl) ?_
    refine lv_iload_n hx hb dX1_sureWitches_5 rfl (lv_at hl 1 rfl) ?_
    by_cases c_2 : (yVw a q) = true
    · refine rv_V (b := hT) (As := [.int q]) (rest := []) ⟨hx, hb, hml, hown, hts⟩ (c_X1_requireViewer l D cI cZ cJ hT hB hV a q c_2) (cwV 1 hts gX1_sureWitches_X1_requireViewer rfl rfl rfl (by decide +kernel) ⟨Nat.le_of_ble_eq_true rfl, Nat.le_of_ble_eq_true rfl⟩) (hP.sub (ws' := [cT hT hB hV a]) [0] rfl) hK hN (va_recv hK hP (ci := 1) (q0 := 0) rfl rfl) rfl hl.1 rfl (Nat.le_of_ble_eq_true rfl) dX1_sureWitches_6 ⟨Nat.le_of_ble_eq_true rfl, Nat.le_of_ble_eq_true rfl⟩ ?_
      exact absurd (by (first | rfl | (simp only [kYw, c_1, c_2, eq_self, ↓reduceIte]; done) | (simp only [kYw, c_1, c_2, eq_self, ↓reduceIte]; rfl) | simp [kYw, c_1, c_2])) hk
    · have c_2 : (yVw a q) = false := eq_false_of_ne_true c_2
      have ek9 : kYw a q = 2 := by (first | rfl | (simp only [kYw, c_1, c_2, eq_self, ↓reduceIte]; done) | (simp only [kYw, c_1, c_2, eq_self, ↓reduceIte]; rfl) | simp [kYw, c_1, c_2])
      rw [ek9]
      exact ty_V (b := hT) (As := [.int q]) (rest := []) ⟨hx, hb, hml, hown, hts⟩ (t_X1_requireViewer l D cI cZ cJ _ hst hT hB hV a q c_2) (cwV 1 hts gX1_sureWitches_X1_requireViewer rfl rfl rfl (by decide +kernel) ⟨Nat.le_of_ble_eq_true rfl, Nat.le_of_ble_eq_true rfl⟩) hP hD hK hN hY hS hA hZ (va_recv hK hP (ci := 1) (q0 := 0) rfl rfl) rfl hl.1 rfl (Nat.le_of_ble_eq_true rfl) dX1_sureWitches_6 ⟨Nat.le_of_ble_eq_true rfl, Nat.le_of_ble_eq_true rfl⟩ [0] [] rfl rfl 1 rfl (by decide) (by decide) hout hlocks

set_option maxHeartbeats 2000000 in
set_option maxRecDepth 100000 in
theorem t_X1_sureHonest (l : Launch) (D : va_G) (cI cZ cJ : ClassId) (sz : Nat) (hst : l.stackTraces = false) (hT : Nat) (hB : Nat) (hV : Nat) (a : Nat → Int32) (q : Int32) (hk : ¬ kYw a q = 0) : Ty l D cI cZ cJ yX1_sureHonest wsX1_sureHonest 8 132 sz [.ref hT, .int q] [cT hT hB hV a] (kYw a q) := by
  refine ty_of (by decide) rfl (Nat.le_of_ble_eq_true rfl) (fun p e s m below meth c ls A hx hb hr hml hts hown hlocks hout hP hK hN hD hA hS hZ hY hl => ?_)
  have hl : lv_has ls 2 [(0, .ref hT), (1, .int q)] := hl
  refine lv_aload_n hx hb dX1_sureHonest_0 rfl (lv_at hl 0 rfl) ?_
  by_cases c_1 : (a 0) = 0
  · have ek9 : kYw a q = 1 := by (first | rfl | (simp only [kYw, c_1, eq_self, ↓reduceIte]; done) | (simp only [kYw, c_1, eq_self, ↓reduceIte]; rfl) | (simp only [kYw, eq_true c_1, eq_self, ↓reduceIte]; done) | (simp only [kYw, eq_true c_1, eq_self, ↓reduceIte]; rfl) | (simp [kYw, eq_true c_1]; done) | simp [kYw, c_1])
    rw [ek9]
    exact ty_V (b := hT) (As := []) (rest := []) ⟨hx, hb, hml, hown, hts⟩ (t_X1_requireGame l D cI cZ cJ _ hst hT hB hV a c_1) (cwV 0 hts gX1_sureHonest_X1_requireGame rfl rfl rfl (by decide +kernel) ⟨Nat.le_of_ble_eq_true rfl, Nat.le_of_ble_eq_true rfl⟩) hP hD hK hN hY hS hA hZ (va_recv hK hP (ci := 1) (q0 := 0) rfl rfl) rfl hl.1 rfl (Nat.le_of_ble_eq_true rfl) dX1_sureHonest_1 ⟨Nat.le_of_ble_eq_true rfl, Nat.le_of_ble_eq_true rfl⟩ [0] [] rfl rfl 1 rfl (by decide) (by decide) hout hlocks
  · refine rv_V (b := hT) (As := []) (rest := []) ⟨hx, hb, hml, hown, hts⟩ (c_X1_requireGame l D cI cZ cJ hT hB hV a c_1) (cwV 0 hts gX1_sureHonest_X1_requireGame rfl rfl rfl (by decide +kernel) ⟨Nat.le_of_ble_eq_true rfl, Nat.le_of_ble_eq_true rfl⟩) (hP.sub (ws' := [cT hT hB hV a]) [0] rfl) hK hN (va_recv hK hP (ci := 1) (q0 := 0) rfl rfl) rfl hl.1 rfl (Nat.le_of_ble_eq_true rfl) dX1_sureHonest_1 ⟨Nat.le_of_ble_eq_true rfl, Nat.le_of_ble_eq_true rfl⟩ ?_
    refine lv_aload_n hx hb dX1_sureHonest_4 rfl (lv_at hl 0 rfl) ?_
    refine lv_iload_n hx hb dX1_sureHonest_5 rfl (lv_at hl 1 rfl) ?_
    by_cases c_2 : (yVw a q) = true
    · refine rv_V (b := hT) (As := [.int q]) (rest := []) ⟨hx, hb, hml, hown, hts⟩ (c_X1_requireViewer l D cI cZ cJ hT hB hV a q c_2) (cwV 1 hts gX1_sureHonest_X1_requireViewer rfl rfl rfl (by decide +kernel) ⟨Nat.le_of_ble_eq_true rfl, Nat.le_of_ble_eq_true rfl⟩) (hP.sub (ws' := [cT hT hB hV a]) [0] rfl) hK hN (va_recv hK hP (ci := 1) (q0 := 0) rfl rfl) rfl hl.1 rfl (Nat.le_of_ble_eq_true rfl) dX1_sureHonest_6 ⟨Nat.le_of_ble_eq_true rfl, Nat.le_of_ble_eq_true rfl⟩ ?_
      exact absurd (by (first | rfl | (simp only [kYw, c_1, c_2, eq_self, ↓reduceIte]; done) | (simp only [kYw, c_1, c_2, eq_self, ↓reduceIte]; rfl) | simp [kYw, c_1, c_2])) hk
    · have c_2 : (yVw a q) = false := eq_false_of_ne_true c_2
      have ek9 : kYw a q = 2 := by (first | rfl | (simp only [kYw, c_1, c_2, eq_self, ↓reduceIte]; done) | (simp only [kYw, c_1, c_2, eq_self, ↓reduceIte]; rfl) | simp [kYw, c_1, c_2])
      rw [ek9]
      exact ty_V (b := hT) (As := [.int q]) (rest := []) ⟨hx, hb, hml, hown, hts⟩ (t_X1_requireViewer l D cI cZ cJ _ hst hT hB hV a q c_2) (cwV 1 hts gX1_sureHonest_X1_requireViewer rfl rfl rfl (by decide +kernel) ⟨Nat.le_of_ble_eq_true rfl, Nat.le_of_ble_eq_true rfl⟩) hP hD hK hN hY hS hA hZ (va_recv hK hP (ci := 1) (q0 := 0) rfl rfl) rfl hl.1 rfl (Nat.le_of_ble_eq_true rfl) dX1_sureHonest_6 ⟨Nat.le_of_ble_eq_true rfl, Nat.le_of_ble_eq_true rfl⟩ [0] [] rfl rfl 1 rfl (by decide) (by decide) hout hlocks

set_option maxHeartbeats 2000000 in
set_option maxRecDepth 100000 in
theorem t_X1_witchSets (l : Launch) (D : va_G) (cI cZ cJ : ClassId) (sz : Nat) (hst : l.stackTraces = false) (hT : Nat) (hB : Nat) (hV : Nat) (a : Nat → Int32) (q : Int32) (hk : ¬ kYw a q = 0) : Ty l D cI cZ cJ yX1_witchSets wsX1_witchSets 8 132 sz [.ref hT, .int q] [cT hT hB hV a] (kYw a q) := by
  refine ty_of (by decide) rfl (Nat.le_of_ble_eq_true rfl) (fun p e s m below meth c ls A hx hb hr hml hts hown hlocks hout hP hK hN hD hA hS hZ hY hl => ?_)
  have hl : lv_has ls 2 [(0, .ref hT), (1, .int q)] := hl
  refine lv_aload_n hx hb dX1_witchSets_0 rfl (lv_at hl 0 rfl) ?_
  by_cases c_1 : (a 0) = 0
  · have ek9 : kYw a q = 1 := by (first | rfl | (simp only [kYw, c_1, eq_self, ↓reduceIte]; done) | (simp only [kYw, c_1, eq_self, ↓reduceIte]; rfl) | (simp only [kYw, eq_true c_1, eq_self, ↓reduceIte]; done) | (simp only [kYw, eq_true c_1, eq_self, ↓reduceIte]; rfl) | (simp [kYw, eq_true c_1]; done) | simp [kYw, c_1])
    rw [ek9]
    exact ty_V (b := hT) (As := []) (rest := []) ⟨hx, hb, hml, hown, hts⟩ (t_X1_requireGame l D cI cZ cJ _ hst hT hB hV a c_1) (cwV 0 hts gX1_witchSets_X1_requireGame rfl rfl rfl (by decide +kernel) ⟨Nat.le_of_ble_eq_true rfl, Nat.le_of_ble_eq_true rfl⟩) hP hD hK hN hY hS hA hZ (va_recv hK hP (ci := 1) (q0 := 0) rfl rfl) rfl hl.1 rfl (Nat.le_of_ble_eq_true rfl) dX1_witchSets_1 ⟨Nat.le_of_ble_eq_true rfl, Nat.le_of_ble_eq_true rfl⟩ [0] [] rfl rfl 1 rfl (by decide) (by decide) hout hlocks
  · refine rv_V (b := hT) (As := []) (rest := []) ⟨hx, hb, hml, hown, hts⟩ (c_X1_requireGame l D cI cZ cJ hT hB hV a c_1) (cwV 0 hts gX1_witchSets_X1_requireGame rfl rfl rfl (by decide +kernel) ⟨Nat.le_of_ble_eq_true rfl, Nat.le_of_ble_eq_true rfl⟩) (hP.sub (ws' := [cT hT hB hV a]) [0] rfl) hK hN (va_recv hK hP (ci := 1) (q0 := 0) rfl rfl) rfl hl.1 rfl (Nat.le_of_ble_eq_true rfl) dX1_witchSets_1 ⟨Nat.le_of_ble_eq_true rfl, Nat.le_of_ble_eq_true rfl⟩ ?_
    refine lv_aload_n hx hb dX1_witchSets_4 rfl (lv_at hl 0 rfl) ?_
    refine lv_iload_n hx hb dX1_witchSets_5 rfl (lv_at hl 1 rfl) ?_
    by_cases c_2 : (yVw a q) = true
    · refine rv_V (b := hT) (As := [.int q]) (rest := []) ⟨hx, hb, hml, hown, hts⟩ (c_X1_requireViewer l D cI cZ cJ hT hB hV a q c_2) (cwV 1 hts gX1_witchSets_X1_requireViewer rfl rfl rfl (by decide +kernel) ⟨Nat.le_of_ble_eq_true rfl, Nat.le_of_ble_eq_true rfl⟩) (hP.sub (ws' := [cT hT hB hV a]) [0] rfl) hK hN (va_recv hK hP (ci := 1) (q0 := 0) rfl rfl) rfl hl.1 rfl (Nat.le_of_ble_eq_true rfl) dX1_witchSets_6 ⟨Nat.le_of_ble_eq_true rfl, Nat.le_of_ble_eq_true rfl⟩ ?_
      exact absurd (by (first | rfl | (simp only [kYw, c_1, c_2, eq_self, ↓reduceIte]; done) | (simp only [kYw, c_1, c_2, eq_self, ↓reduceIte]; rfl) | simp [kYw, c_1, c_2])) hk
    · have c_2 : (yVw a q) = false := eq_false_of_ne_true c_2
      have ek9 : kYw a q = 2 := by (first | rfl | (simp only [kYw, c_1, c_2, eq_self, ↓reduceIte]; done) | (simp only [kYw, c_1, c_2, eq_self, ↓reduceIte]; rfl) | simp [kYw, c_1, c_2])
      rw [ek9]
      exact ty_V (b := hT) (As := [.int q]) (rest := []) ⟨hx, hb, hml, hown, hts⟩ (t_X1_requireViewer l D cI cZ cJ _ hst hT hB hV a q c_2) (cwV 1 hts gX1_witchSets_X1_requireViewer rfl rfl rfl (by decide +kernel) ⟨Nat.le_of_ble_eq_true rfl, Nat.le_of_ble_eq_true rfl⟩) hP hD hK hN hY hS hA hZ (va_recv hK hP (ci := 1) (q0 := 0) rfl rfl) rfl hl.1 rfl (Nat.le_of_ble_eq_true rfl) dX1_witchSets_6 ⟨Nat.le_of_ble_eq_true rfl, Nat.le_of_ble_eq_true rfl⟩ [0] [] rfl rfl 1 rfl (by decide) (by decide) hout hlocks

set_option maxHeartbeats 2000000 in
set_option maxRecDepth 100000 in
theorem t_X1_suspect (l : Launch) (D : va_G) (cI cZ cJ : ClassId) (sz : Nat) (hst : l.stackTraces = false) (hT : Nat) (hB : Nat) (hV : Nat) (a : Nat → Int32) (q : Int32) (hk : ¬ kYw a q = 0) : Ty l D cI cZ cJ yX1_suspect wsX1_suspect 8 132 sz [.ref hT, .int q] [cT hT hB hV a] (kYw a q) := by
  refine ty_of (by decide) rfl (Nat.le_of_ble_eq_true rfl) (fun p e s m below meth c ls A hx hb hr hml hts hown hlocks hout hP hK hN hD hA hS hZ hY hl => ?_)
  have hl : lv_has ls 7 [(0, .ref hT), (1, .int q)] := hl
  refine lv_aload_n hx hb dX1_suspect_0 rfl (lv_at hl 0 rfl) ?_
  by_cases c_1 : (a 0) = 0
  · have ek9 : kYw a q = 1 := by (first | rfl | (simp only [kYw, c_1, eq_self, ↓reduceIte]; done) | (simp only [kYw, c_1, eq_self, ↓reduceIte]; rfl) | (simp only [kYw, eq_true c_1, eq_self, ↓reduceIte]; done) | (simp only [kYw, eq_true c_1, eq_self, ↓reduceIte]; rfl) | (simp [kYw, eq_true c_1]; done) | simp [kYw, c_1])
    rw [ek9]
    exact ty_V (b := hT) (As := []) (rest := []) ⟨hx, hb, hml, hown, hts⟩ (t_X1_requireGame l D cI cZ cJ _ hst hT hB hV a c_1) (cwV 0 hts gX1_suspect_X1_requireGame rfl rfl rfl (by decide +kernel) ⟨Nat.le_of_ble_eq_true rfl, Nat.le_of_ble_eq_true rfl⟩) hP hD hK hN hY hS hA hZ (va_recv hK hP (ci := 1) (q0 := 0) rfl rfl) rfl hl.1 rfl (Nat.le_of_ble_eq_true rfl) dX1_suspect_1 ⟨Nat.le_of_ble_eq_true rfl, Nat.le_of_ble_eq_true rfl⟩ [0] [] rfl rfl 1 rfl (by decide) (by decide) hout hlocks
  · refine rv_V (b := hT) (As := []) (rest := []) ⟨hx, hb, hml, hown, hts⟩ (c_X1_requireGame l D cI cZ cJ hT hB hV a c_1) (cwV 0 hts gX1_suspect_X1_requireGame rfl rfl rfl (by decide +kernel) ⟨Nat.le_of_ble_eq_true rfl, Nat.le_of_ble_eq_true rfl⟩) (hP.sub (ws' := [cT hT hB hV a]) [0] rfl) hK hN (va_recv hK hP (ci := 1) (q0 := 0) rfl rfl) rfl hl.1 rfl (Nat.le_of_ble_eq_true rfl) dX1_suspect_1 ⟨Nat.le_of_ble_eq_true rfl, Nat.le_of_ble_eq_true rfl⟩ ?_
    refine lv_aload_n hx hb dX1_suspect_4 rfl (lv_at hl 0 rfl) ?_
    refine lv_iload_n hx hb dX1_suspect_5 rfl (lv_at hl 1 rfl) ?_
    by_cases c_2 : (yVw a q) = true
    · refine rv_V (b := hT) (As := [.int q]) (rest := []) ⟨hx, hb, hml, hown, hts⟩ (c_X1_requireViewer l D cI cZ cJ hT hB hV a q c_2) (cwV 1 hts gX1_suspect_X1_requireViewer rfl rfl rfl (by decide +kernel) ⟨Nat.le_of_ble_eq_true rfl, Nat.le_of_ble_eq_true rfl⟩) (hP.sub (ws' := [cT hT hB hV a]) [0] rfl) hK hN (va_recv hK hP (ci := 1) (q0 := 0) rfl rfl) rfl hl.1 rfl (Nat.le_of_ble_eq_true rfl) dX1_suspect_6 ⟨Nat.le_of_ble_eq_true rfl, Nat.le_of_ble_eq_true rfl⟩ ?_
      exact absurd (by (first | rfl | (simp only [kYw, c_1, c_2, eq_self, ↓reduceIte]; done) | (simp only [kYw, c_1, c_2, eq_self, ↓reduceIte]; rfl) | simp [kYw, c_1, c_2])) hk
    · have c_2 : (yVw a q) = false := eq_false_of_ne_true c_2
      have ek9 : kYw a q = 2 := by (first | rfl | (simp only [kYw, c_1, c_2, eq_self, ↓reduceIte]; done) | (simp only [kYw, c_1, c_2, eq_self, ↓reduceIte]; rfl) | simp [kYw, c_1, c_2])
      rw [ek9]
      exact ty_V (b := hT) (As := [.int q]) (rest := []) ⟨hx, hb, hml, hown, hts⟩ (t_X1_requireViewer l D cI cZ cJ _ hst hT hB hV a q c_2) (cwV 1 hts gX1_suspect_X1_requireViewer rfl rfl rfl (by decide +kernel) ⟨Nat.le_of_ble_eq_true rfl, Nat.le_of_ble_eq_true rfl⟩) hP hD hK hN hY hS hA hZ (va_recv hK hP (ci := 1) (q0 := 0) rfl rfl) rfl hl.1 rfl (Nat.le_of_ble_eq_true rfl) dX1_suspect_6 ⟨Nat.le_of_ble_eq_true rfl, Nat.le_of_ble_eq_true rfl⟩ [0] [] rfl rfl 1 rfl (by decide) (by decide) hout hlocks

set_option maxHeartbeats 2000000 in
set_option maxRecDepth 100000 in
theorem t_X1_worldsWith (l : Launch) (D : va_G) (cI cZ cJ : ClassId) (sz : Nat) (hst : l.stackTraces = false) (hT : Nat) (hB : Nat) (hV : Nat) (a : Nat → Int32) (q : Int32) (r : Int32) (k : Int32) (hk : ¬ kYx a q r k = 0) : Ty l D cI cZ cJ yX1_worldsWith wsX1_worldsWith 8 132 sz [.ref hT, .int q, .int r, .int k] [cT hT hB hV a] (kYx a q r k) := by
  refine ty_of (by decide) rfl (Nat.le_of_ble_eq_true rfl) (fun p e s m below meth c ls A hx hb hr hml hts hown hlocks hout hP hK hN hD hA hS hZ hY hl => ?_)
  have hl : lv_has ls 4 [(0, .ref hT), (1, .int q), (2, .int r), (3, .int k)] := hl
  refine lv_aload_n hx hb dX1_worldsWith_0 rfl (lv_at hl 0 rfl) ?_
  by_cases c_1 : (a 0) = 0
  · have ek9 : kYx a q r k = 1 := by (first | rfl | (simp only [kYx, c_1, eq_self, ↓reduceIte]; done) | (simp only [kYx, c_1, eq_self, ↓reduceIte]; rfl) | (simp only [kYx, eq_true c_1, eq_self, ↓reduceIte]; done) | (simp only [kYx, eq_true c_1, eq_self, ↓reduceIte]; rfl) | (simp [kYx, eq_true c_1]; done) | simp [kYx, c_1])
    rw [ek9]
    exact ty_V (b := hT) (As := []) (rest := []) ⟨hx, hb, hml, hown, hts⟩ (t_X1_requireGame l D cI cZ cJ _ hst hT hB hV a c_1) (cwV 0 hts gX1_worldsWith_X1_requireGame rfl rfl rfl (by decide +kernel) ⟨Nat.le_of_ble_eq_true rfl, Nat.le_of_ble_eq_true rfl⟩) hP hD hK hN hY hS hA hZ (va_recv hK hP (ci := 1) (q0 := 0) rfl rfl) rfl hl.1 rfl (Nat.le_of_ble_eq_true rfl) dX1_worldsWith_1 ⟨Nat.le_of_ble_eq_true rfl, Nat.le_of_ble_eq_true rfl⟩ [0] [] rfl rfl 1 rfl (by decide) (by decide) hout hlocks
  · refine rv_V (b := hT) (As := []) (rest := []) ⟨hx, hb, hml, hown, hts⟩ (c_X1_requireGame l D cI cZ cJ hT hB hV a c_1) (cwV 0 hts gX1_worldsWith_X1_requireGame rfl rfl rfl (by decide +kernel) ⟨Nat.le_of_ble_eq_true rfl, Nat.le_of_ble_eq_true rfl⟩) (hP.sub (ws' := [cT hT hB hV a]) [0] rfl) hK hN (va_recv hK hP (ci := 1) (q0 := 0) rfl rfl) rfl hl.1 rfl (Nat.le_of_ble_eq_true rfl) dX1_worldsWith_1 ⟨Nat.le_of_ble_eq_true rfl, Nat.le_of_ble_eq_true rfl⟩ ?_
    refine lv_aload_n hx hb dX1_worldsWith_4 rfl (lv_at hl 0 rfl) ?_
    refine lv_iload_n hx hb dX1_worldsWith_5 rfl (lv_at hl 1 rfl) ?_
    by_cases c_2 : (yVw a q) = true
    · refine rv_V (b := hT) (As := [.int q]) (rest := []) ⟨hx, hb, hml, hown, hts⟩ (c_X1_requireViewer l D cI cZ cJ hT hB hV a q c_2) (cwV 1 hts gX1_worldsWith_X1_requireViewer rfl rfl rfl (by decide +kernel) ⟨Nat.le_of_ble_eq_true rfl, Nat.le_of_ble_eq_true rfl⟩) (hP.sub (ws' := [cT hT hB hV a]) [0] rfl) hK hN (va_recv hK hP (ci := 1) (q0 := 0) rfl rfl) rfl hl.1 rfl (Nat.le_of_ble_eq_true rfl) dX1_worldsWith_6 ⟨Nat.le_of_ble_eq_true rfl, Nat.le_of_ble_eq_true rfl⟩ ?_
      refine lv_aload_n hx hb dX1_worldsWith_9 rfl (lv_at hl 0 rfl) ?_
      refine lv_iload_n hx hb dX1_worldsWith_10 rfl (lv_at hl 2 rfl) ?_
      by_cases c_3 : (yPl a r) = true
      · refine rv_V (b := hT) (As := [.int r]) (rest := []) ⟨hx, hb, hml, hown, hts⟩ (c_X1_requirePlayer l D cI cZ cJ hT hB hV a r c_3) (cwV 1 hts gX1_worldsWith_X1_requirePlayer rfl rfl rfl (by decide +kernel) ⟨Nat.le_of_ble_eq_true rfl, Nat.le_of_ble_eq_true rfl⟩) (hP.sub (ws' := [cT hT hB hV a]) [0] rfl) hK hN (va_recv hK hP (ci := 1) (q0 := 0) rfl rfl) rfl hl.1 rfl (Nat.le_of_ble_eq_true rfl) dX1_worldsWith_11 ⟨Nat.le_of_ble_eq_true rfl, Nat.le_of_ble_eq_true rfl⟩ ?_
        refine lv_iload_n hx hb dX1_worldsWith_14 rfl (lv_at hl 3 rfl) ?_
        refine lv_if_lt (tgt := 23) hx hb dX1_worldsWith_15 (by decide) (fun c_4 => ?_) (fun c_4 => ?_)
        · have ek9 : kYx a q r k = 3 := by (first | rfl | (simp only [kYx, c_1, c_2, c_3, c_4, eq_self, ↓reduceIte]; done) | (simp only [kYx, c_1, c_2, c_3, c_4, eq_self, ↓reduceIte]; rfl) | simp [kYx, c_1, c_2, c_3, c_4])
          rw [ek9]
          exact ty_throw (E := "java/lang/IllegalArgumentException") hx hb hst hown rfl (by decide +kernel) (hts (.classLink RX1 40 "java/lang/IllegalArgumentException") (List.mem_of_getElem? (i := 1) rfl)) (hts (.initialized "java/lang/IllegalArgumentException") (List.mem_of_getElem? (i := 2) rfl)) hN hY 7 rfl 2 rfl (fun w h => hts w (List.mem_cons_of_mem _ (List.mem_append_left _ (List.mem_append_left _ (List.mem_append_right _ h))))) (by decide +kernel) (by decide +kernel) hZ hS hP (hl.1.trans hml.symm) dX1_worldsWith_23 dX1_worldsWith_26 dX1_worldsWith_27 dX1_worldsWith_29 dX1_worldsWith_32 hout (Nat.le_of_ble_eq_true rfl) (Nat.le_of_ble_eq_true rfl) (Nat.le_of_ble_eq_true rfl) (Nat.le_of_ble_eq_true rfl) hlocks
        · refine lv_iload_n hx hb dX1_worldsWith_18 rfl (lv_at hl 3 rfl) ?_
          refine lv_iconst (v := 3) hx hb dX1_worldsWith_19 (by decide) ?_
          refine lv_icmp_le (tgt := 33) hx hb dX1_worldsWith_20 (by decide) (fun c_5 => ?_) (fun c_5 => ?_)
          · exact absurd (by (first | rfl | (simp only [kYx, c_1, c_2, c_3, c_4, c_5, eq_self, ↓reduceIte]; done) | (simp only [kYx, c_1, c_2, c_3, c_4, c_5, eq_self, ↓reduceIte]; rfl) | simp [kYx, c_1, c_2, c_3, c_4, c_5])) hk
          · have ek9 : kYx a q r k = 3 := by (first | rfl | (simp only [kYx, c_1, c_2, c_3, c_4, c_5, eq_self, ↓reduceIte]; done) | (simp only [kYx, c_1, c_2, c_3, c_4, c_5, eq_self, ↓reduceIte]; rfl) | simp [kYx, c_1, c_2, c_3, c_4, c_5])
            rw [ek9]
            exact ty_throw (E := "java/lang/IllegalArgumentException") hx hb hst hown rfl (by decide +kernel) (hts (.classLink RX1 40 "java/lang/IllegalArgumentException") (List.mem_of_getElem? (i := 1) rfl)) (hts (.initialized "java/lang/IllegalArgumentException") (List.mem_of_getElem? (i := 2) rfl)) hN hY 7 rfl 2 rfl (fun w h => hts w (List.mem_cons_of_mem _ (List.mem_append_left _ (List.mem_append_left _ (List.mem_append_right _ h))))) (by decide +kernel) (by decide +kernel) hZ hS hP (hl.1.trans hml.symm) dX1_worldsWith_23 dX1_worldsWith_26 dX1_worldsWith_27 dX1_worldsWith_29 dX1_worldsWith_32 hout (Nat.le_of_ble_eq_true rfl) (Nat.le_of_ble_eq_true rfl) (Nat.le_of_ble_eq_true rfl) (Nat.le_of_ble_eq_true rfl) hlocks
      · have c_3 : (yPl a r) = false := eq_false_of_ne_true c_3
        have ek9 : kYx a q r k = 2 := by (first | rfl | (simp only [kYx, c_1, c_2, c_3, eq_self, ↓reduceIte]; done) | (simp only [kYx, c_1, c_2, c_3, eq_self, ↓reduceIte]; rfl) | simp [kYx, c_1, c_2, c_3])
        rw [ek9]
        exact ty_V (b := hT) (As := [.int r]) (rest := []) ⟨hx, hb, hml, hown, hts⟩ (t_X1_requirePlayer l D cI cZ cJ _ hst hT hB hV a r c_3) (cwV 1 hts gX1_worldsWith_X1_requirePlayer rfl rfl rfl (by decide +kernel) ⟨Nat.le_of_ble_eq_true rfl, Nat.le_of_ble_eq_true rfl⟩) hP hD hK hN hY hS hA hZ (va_recv hK hP (ci := 1) (q0 := 0) rfl rfl) rfl hl.1 rfl (Nat.le_of_ble_eq_true rfl) dX1_worldsWith_11 ⟨Nat.le_of_ble_eq_true rfl, Nat.le_of_ble_eq_true rfl⟩ [0] [] rfl rfl 1 rfl (by decide) (by decide) hout hlocks
    · have c_2 : (yVw a q) = false := eq_false_of_ne_true c_2
      have ek9 : kYx a q r k = 2 := by (first | rfl | (simp only [kYx, c_1, c_2, eq_self, ↓reduceIte]; done) | (simp only [kYx, c_1, c_2, eq_self, ↓reduceIte]; rfl) | simp [kYx, c_1, c_2])
      rw [ek9]
      exact ty_V (b := hT) (As := [.int q]) (rest := []) ⟨hx, hb, hml, hown, hts⟩ (t_X1_requireViewer l D cI cZ cJ _ hst hT hB hV a q c_2) (cwV 1 hts gX1_worldsWith_X1_requireViewer rfl rfl rfl (by decide +kernel) ⟨Nat.le_of_ble_eq_true rfl, Nat.le_of_ble_eq_true rfl⟩) hP hD hK hN hY hS hA hZ (va_recv hK hP (ci := 1) (q0 := 0) rfl rfl) rfl hl.1 rfl (Nat.le_of_ble_eq_true rfl) dX1_worldsWith_6 ⟨Nat.le_of_ble_eq_true rfl, Nat.le_of_ble_eq_true rfl⟩ [0] [] rfl rfl 1 rfl (by decide) (by decide) hout hlocks

set_option maxHeartbeats 2000000 in
set_option maxRecDepth 100000 in
theorem t_X1_bestLook (l : Launch) (D : va_G) (cI cZ cJ : ClassId) (sz : Nat) (hst : l.stackTraces = false) (hT : Nat) (hB : Nat) (hV : Nat) (a : Nat → Int32) (hk : ¬ kYg a = 0) : Ty l D cI cZ cJ yX1_bestLook wsX1_bestLook 7 110 sz [.ref hT] [cT hT hB hV a] (kYg a) := by
  refine ty_of (by decide) rfl (Nat.le_of_ble_eq_true rfl) (fun p e s m below meth c ls A hx hb hr hml hts hown hlocks hout hP hK hN hD hA hS hZ hY hl => ?_)
  have hl : lv_has ls 8 [(0, .ref hT)] := hl
  refine lv_aload_n hx hb dX1_bestLook_0 rfl (lv_at hl 0 rfl) ?_
  by_cases c_1 : (a 0) = 0
  · have ek9 : kYg a = 1 := by (first | rfl | (simp only [kYg, c_1, eq_self, ↓reduceIte]; done) | (simp only [kYg, c_1, eq_self, ↓reduceIte]; rfl) | (simp only [kYg, eq_true c_1, eq_self, ↓reduceIte]; done) | (simp only [kYg, eq_true c_1, eq_self, ↓reduceIte]; rfl) | (simp [kYg, eq_true c_1]; done) | simp [kYg, c_1])
    rw [ek9]
    exact ty_V (b := hT) (As := []) (rest := []) ⟨hx, hb, hml, hown, hts⟩ (t_X1_requireGame l D cI cZ cJ _ hst hT hB hV a c_1) (cwV 0 hts gX1_bestLook_X1_requireGame rfl rfl rfl (by decide +kernel) ⟨Nat.le_of_ble_eq_true rfl, Nat.le_of_ble_eq_true rfl⟩) hP hD hK hN hY hS hA hZ (va_recv hK hP (ci := 1) (q0 := 0) rfl rfl) rfl hl.1 rfl (Nat.le_of_ble_eq_true rfl) dX1_bestLook_1 ⟨Nat.le_of_ble_eq_true rfl, Nat.le_of_ble_eq_true rfl⟩ [0] [] rfl rfl 1 rfl (by decide) (by decide) hout hlocks
  · refine rv_V (b := hT) (As := []) (rest := []) ⟨hx, hb, hml, hown, hts⟩ (c_X1_requireGame l D cI cZ cJ hT hB hV a c_1) (cwV 0 hts gX1_bestLook_X1_requireGame rfl rfl rfl (by decide +kernel) ⟨Nat.le_of_ble_eq_true rfl, Nat.le_of_ble_eq_true rfl⟩) (hP.sub (ws' := [cT hT hB hV a]) [0] rfl) hK hN (va_recv hK hP (ci := 1) (q0 := 0) rfl rfl) rfl hl.1 rfl (Nat.le_of_ble_eq_true rfl) dX1_bestLook_1 ⟨Nat.le_of_ble_eq_true rfl, Nat.le_of_ble_eq_true rfl⟩ ?_
    exact absurd (by (first | rfl | (simp only [kYg, c_1, eq_self, ↓reduceIte]; done) | (simp only [kYg, c_1, eq_self, ↓reduceIte]; rfl) | simp [kYg, c_1])) hk

set_option maxHeartbeats 2000000 in
set_option maxRecDepth 100000 in
theorem t_X1_isPossible (l : Launch) (D : va_G) (cI cZ cJ : ClassId) (sz : Nat) (hst : l.stackTraces = false) (hT : Nat) (hB : Nat) (hV : Nat) (a : Nat → Int32) (q : Int32) (t : Int32) (r : Int32) (u : Int32) (hk : ¬ kYi a q r u = 0) : Ty l D cI cZ cJ yX1_isPossible wsX1_isPossible 8 132 sz [.ref hT, .int q, .int t, .int r, .int u] [cT hT hB hV a] (kYi a q r u) := by
  refine ty_of (by decide) rfl (Nat.le_of_ble_eq_true rfl) (fun p e s m below meth c ls A hx hb hr hml hts hown hlocks hout hP hK hN hD hA hS hZ hY hl => ?_)
  have hl : lv_has ls 5 [(0, .ref hT), (1, .int q), (2, .int t), (3, .int r), (4, .int u)] := hl
  refine lv_aload_n hx hb dX1_isPossible_0 rfl (lv_at hl 0 rfl) ?_
  by_cases c_1 : (a 0) = 0
  · have ek9 : kYi a q r u = 1 := by (first | rfl | (simp only [kYi, c_1, eq_self, ↓reduceIte]; done) | (simp only [kYi, c_1, eq_self, ↓reduceIte]; rfl) | (simp only [kYi, eq_true c_1, eq_self, ↓reduceIte]; done) | (simp only [kYi, eq_true c_1, eq_self, ↓reduceIte]; rfl) | (simp [kYi, eq_true c_1]; done) | simp [kYi, c_1])
    rw [ek9]
    exact ty_V (b := hT) (As := []) (rest := []) ⟨hx, hb, hml, hown, hts⟩ (t_X1_requireGame l D cI cZ cJ _ hst hT hB hV a c_1) (cwV 0 hts gX1_isPossible_X1_requireGame rfl rfl rfl (by decide +kernel) ⟨Nat.le_of_ble_eq_true rfl, Nat.le_of_ble_eq_true rfl⟩) hP hD hK hN hY hS hA hZ (va_recv hK hP (ci := 1) (q0 := 0) rfl rfl) rfl hl.1 rfl (Nat.le_of_ble_eq_true rfl) dX1_isPossible_1 ⟨Nat.le_of_ble_eq_true rfl, Nat.le_of_ble_eq_true rfl⟩ [0] [] rfl rfl 1 rfl (by decide) (by decide) hout hlocks
  · refine rv_V (b := hT) (As := []) (rest := []) ⟨hx, hb, hml, hown, hts⟩ (c_X1_requireGame l D cI cZ cJ hT hB hV a c_1) (cwV 0 hts gX1_isPossible_X1_requireGame rfl rfl rfl (by decide +kernel) ⟨Nat.le_of_ble_eq_true rfl, Nat.le_of_ble_eq_true rfl⟩) (hP.sub (ws' := [cT hT hB hV a]) [0] rfl) hK hN (va_recv hK hP (ci := 1) (q0 := 0) rfl rfl) rfl hl.1 rfl (Nat.le_of_ble_eq_true rfl) dX1_isPossible_1 ⟨Nat.le_of_ble_eq_true rfl, Nat.le_of_ble_eq_true rfl⟩ ?_
    refine lv_aload_n hx hb dX1_isPossible_4 rfl (lv_at hl 0 rfl) ?_
    refine lv_iload_n hx hb dX1_isPossible_5 rfl (lv_at hl 1 rfl) ?_
    by_cases c_2 : (yVw a q) = true
    · refine rv_V (b := hT) (As := [.int q]) (rest := []) ⟨hx, hb, hml, hown, hts⟩ (c_X1_requireViewer l D cI cZ cJ hT hB hV a q c_2) (cwV 1 hts gX1_isPossible_X1_requireViewer rfl rfl rfl (by decide +kernel) ⟨Nat.le_of_ble_eq_true rfl, Nat.le_of_ble_eq_true rfl⟩) (hP.sub (ws' := [cT hT hB hV a]) [0] rfl) hK hN (va_recv hK hP (ci := 1) (q0 := 0) rfl rfl) rfl hl.1 rfl (Nat.le_of_ble_eq_true rfl) dX1_isPossible_6 ⟨Nat.le_of_ble_eq_true rfl, Nat.le_of_ble_eq_true rfl⟩ ?_
      refine lv_aload_n hx hb dX1_isPossible_9 rfl (lv_at hl 0 rfl) ?_
      refine lv_iload_n hx hb dX1_isPossible_10 rfl (lv_at hl 3 rfl) ?_
      by_cases c_3 : (yPl a r) = true
      · refine rv_V (b := hT) (As := [.int r]) (rest := []) ⟨hx, hb, hml, hown, hts⟩ (c_X1_requirePlayer l D cI cZ cJ hT hB hV a r c_3) (cwV 1 hts gX1_isPossible_X1_requirePlayer rfl rfl rfl (by decide +kernel) ⟨Nat.le_of_ble_eq_true rfl, Nat.le_of_ble_eq_true rfl⟩) (hP.sub (ws' := [cT hT hB hV a]) [0] rfl) hK hN (va_recv hK hP (ci := 1) (q0 := 0) rfl rfl) rfl hl.1 rfl (Nat.le_of_ble_eq_true rfl) dX1_isPossible_11 ⟨Nat.le_of_ble_eq_true rfl, Nat.le_of_ble_eq_true rfl⟩ ?_
        refine lv_aload_n hx hb dX1_isPossible_14 rfl (lv_at hl 0 rfl) ?_
        refine lv_iload hx hb dX1_isPossible_15 (lv_at hl 4 rfl) ?_
        by_cases c_4 : (yPl a u) = true
        · refine rv_V (b := hT) (As := [.int u]) (rest := []) ⟨hx, hb, hml, hown, hts⟩ (c_X1_requirePlayer l D cI cZ cJ hT hB hV a u c_4) (cwV 1 hts gX1_isPossible_X1_requirePlayer rfl rfl rfl (by decide +kernel) ⟨Nat.le_of_ble_eq_true rfl, Nat.le_of_ble_eq_true rfl⟩) (hP.sub (ws' := [cT hT hB hV a]) [0] rfl) hK hN (va_recv hK hP (ci := 1) (q0 := 0) rfl rfl) rfl hl.1 rfl (Nat.le_of_ble_eq_true rfl) dX1_isPossible_17 ⟨Nat.le_of_ble_eq_true rfl, Nat.le_of_ble_eq_true rfl⟩ ?_
          exact absurd (by (first | rfl | (simp only [kYi, c_1, c_2, c_3, c_4, eq_self, ↓reduceIte]; done) | (simp only [kYi, c_1, c_2, c_3, c_4, eq_self, ↓reduceIte]; rfl) | simp [kYi, c_1, c_2, c_3, c_4])) hk
        · have c_4 : (yPl a u) = false := eq_false_of_ne_true c_4
          have ek9 : kYi a q r u = 2 := by (first | rfl | (simp only [kYi, c_1, c_2, c_3, c_4, eq_self, ↓reduceIte]; done) | (simp only [kYi, c_1, c_2, c_3, c_4, eq_self, ↓reduceIte]; rfl) | simp [kYi, c_1, c_2, c_3, c_4])
          rw [ek9]
          exact ty_V (b := hT) (As := [.int u]) (rest := []) ⟨hx, hb, hml, hown, hts⟩ (t_X1_requirePlayer l D cI cZ cJ _ hst hT hB hV a u c_4) (cwV 1 hts gX1_isPossible_X1_requirePlayer rfl rfl rfl (by decide +kernel) ⟨Nat.le_of_ble_eq_true rfl, Nat.le_of_ble_eq_true rfl⟩) hP hD hK hN hY hS hA hZ (va_recv hK hP (ci := 1) (q0 := 0) rfl rfl) rfl hl.1 rfl (Nat.le_of_ble_eq_true rfl) dX1_isPossible_17 ⟨Nat.le_of_ble_eq_true rfl, Nat.le_of_ble_eq_true rfl⟩ [0] [] rfl rfl 1 rfl (by decide) (by decide) hout hlocks
      · have c_3 : (yPl a r) = false := eq_false_of_ne_true c_3
        have ek9 : kYi a q r u = 2 := by (first | rfl | (simp only [kYi, c_1, c_2, c_3, eq_self, ↓reduceIte]; done) | (simp only [kYi, c_1, c_2, c_3, eq_self, ↓reduceIte]; rfl) | simp [kYi, c_1, c_2, c_3])
        rw [ek9]
        exact ty_V (b := hT) (As := [.int r]) (rest := []) ⟨hx, hb, hml, hown, hts⟩ (t_X1_requirePlayer l D cI cZ cJ _ hst hT hB hV a r c_3) (cwV 1 hts gX1_isPossible_X1_requirePlayer rfl rfl rfl (by decide +kernel) ⟨Nat.le_of_ble_eq_true rfl, Nat.le_of_ble_eq_true rfl⟩) hP hD hK hN hY hS hA hZ (va_recv hK hP (ci := 1) (q0 := 0) rfl rfl) rfl hl.1 rfl (Nat.le_of_ble_eq_true rfl) dX1_isPossible_11 ⟨Nat.le_of_ble_eq_true rfl, Nat.le_of_ble_eq_true rfl⟩ [0] [] rfl rfl 1 rfl (by decide) (by decide) hout hlocks
    · have c_2 : (yVw a q) = false := eq_false_of_ne_true c_2
      have ek9 : kYi a q r u = 2 := by (first | rfl | (simp only [kYi, c_1, c_2, eq_self, ↓reduceIte]; done) | (simp only [kYi, c_1, c_2, eq_self, ↓reduceIte]; rfl) | simp [kYi, c_1, c_2])
      rw [ek9]
      exact ty_V (b := hT) (As := [.int q]) (rest := []) ⟨hx, hb, hml, hown, hts⟩ (t_X1_requireViewer l D cI cZ cJ _ hst hT hB hV a q c_2) (cwV 1 hts gX1_isPossible_X1_requireViewer rfl rfl rfl (by decide +kernel) ⟨Nat.le_of_ble_eq_true rfl, Nat.le_of_ble_eq_true rfl⟩) hP hD hK hN hY hS hA hZ (va_recv hK hP (ci := 1) (q0 := 0) rfl rfl) rfl hl.1 rfl (Nat.le_of_ble_eq_true rfl) dX1_isPossible_6 ⟨Nat.le_of_ble_eq_true rfl, Nat.le_of_ble_eq_true rfl⟩ [0] [] rfl rfl 1 rfl (by decide) (by decide) hout hlocks

theorem in_L_start_X0 : ∀ w ∈ wsX00, w ∈ wsL_start := by decide +kernel
theorem in_L_start_X1 : ∀ w ∈ wsX10, w ∈ wsL_start := by decide +kernel
set_option maxHeartbeats 2000000 in
set_option maxRecDepth 100000 in
theorem c_L_start (l : Launch) (D : va_G) (cI cZ cJ : ClassId) (sz : Nat) (hT : Nat) (hB : Nat) (hV : Nat) (a : Nat → Int32) (hG : Nat) (tr : Int32) (g : Nat → Int32) (v : Nat → Int32) (hX : Nat) (ot : Nat → Int64) (n : Nat) (W : Nat) (x : Nat) (y : Nat) (P : Nat → Bool) (hn8 : n ≤ 8) (hP9 : ∀ W9 x9 y9, W9 < 2 ^ n → x9 < n → y9 < n → yPop (nI W9) = yPop ((yWo (nI W) (nI x) (nI y)) &&& 255) → P (64 * W9 + (8 * x9 + y9)) = (!decide (nI x9 = nI y9) && yHo (nI n) (nI W9) (nI x9) && yHo (nI n) (nI W9) (nI y9))) (hF9 : ∀ W9 x9 y9, W9 < 256 → x9 < 8 → y9 < 8 → (W9 = 0 ∨ 2 ^ n ≤ W9 ∨ ¬ yPop (nI W9) = yPop ((yWo (nI W) (nI x) (nI y)) &&& 255) ∨ n ≤ x9 ∨ n ≤ y9) → P (64 * W9 + (8 * x9 + y9)) = false) (hB9 : nCt P 16384 ≤ 1120) (hg0 : ∀ j, 1120 ≤ j → g j = 0) (hE9 : ∀ b, P b = true → ¬ yEnc b = 0) (h1 : yGood (nI n) (nI W) (nI x) (nI y) = true) : Mi l D cI cZ cJ yL_start wsL_start 5 118 sz [.ref hT, .int (nI n), .int (nI W), .int (nI x), .int (nI y), .ref hX] [cT hT hB hV a, cB hB hG tr, cA cI hG 1120 g, cA cI hV 8 v, cL cJ hX 1 ot] [cT hT hB hV (aYs a (nI n) (nI W) (nI x) (nI y)), cB hB hG (yWo (nI W) (nI x) (nI y)), cA cI hG 1120 (pgF P 16384), cA cI hV 8 (iUp vM v 8), cL cJ hX 1 (vp_updL ot 0 (xCnt (pAg (pgF P 16384) (yWo (nI W) (nI x) (nI y)) (yKn (aYs a (nI n) (nI W) (nI x) (nI y)) (-1))) (nCt P 16384)).toInt64)] (0) := by
  refine mi_ofH (by decide) rfl (Nat.le_of_ble_eq_true rfl) (fun p e s m below meth c ls A hx hb hr hml hts hown hlocks hP hK hN hD hA hS hl => ?_)
  have hl : lv_has ls 7 [(0, .ref hT), (1, .int (nI n)), (2, .int (nI W)), (3, .int (nI x)), (4, .int (nI y)), (5, .ref hX)] := hl
  refine lv_aload hx hb dL_start_0 (lv_at hl 5 rfl) ?_
  refine lv_iconst (v := 0) hx hb dL_start_2 (by decide) ?_
  refine lv_aload_n hx hb dL_start_3 rfl (lv_at hl 0 rfl) ?_
  refine lv_iload_n hx hb dL_start_4 rfl (lv_at hl 1 rfl) ?_
  refine lv_iload_n hx hb dL_start_5 rfl (lv_at hl 2 rfl) ?_
  refine lv_iload_n hx hb dL_start_6 rfl (lv_at hl 3 rfl) ?_
  refine lv_iload hx hb dL_start_7 (lv_at hl 4 rfl) ?_
  refine mi_V (b := hT) (As := [.int (nI n), .int (nI W), .int (nI x), .int (nI y)]) (rest := [.int 0, .ref hX]) (W2 := [cT hT hB hV (aYs a (nI n) (nI W) (nI x) (nI y)), cB hB hG (yWo (nI W) (nI x) (nI y)), cA cI hG 1120 (pgF P 16384), cA cI hV 8 (iUp vM v 8), cL cJ hX 1 ot]) ⟨hx, hb, hml, hown, hts⟩ (c_X1_start l D cI cZ cJ _ hT hB hV a hG tr g v n W x y P hn8 hP9 hF9 hB9 hg0 hE9 h1) (cwV 4 hts gL_start_X1_start rfl rfl rfl (by decide +kernel) ⟨Nat.le_of_ble_eq_true rfl, Nat.le_of_ble_eq_true rfl⟩) hP hD hK hN hS hA (va_recv hK hP (ci := 1) (q0 := 0) rfl rfl) rfl hl.1 rfl (Nat.le_of_ble_eq_true rfl) dL_start_9 ⟨Nat.le_of_ble_eq_true rfl, Nat.le_of_ble_eq_true rfl⟩ [0, 1, 2, 3] [4] rfl rfl rfl (by intro i hi; simp only [List.mem_cons, List.not_mem_nil, or_false] at hi; rcases hi with rfl <;> rfl) rfl 5 rfl (by decide) (by decide) (fun H locs hP hD hS => ?_)
  refine lv_i2l (v := ((xCnt (pAg (pgF P 16384) (yWo (nI W) (nI x) (nI y)) (yKn (aYs a (nI n) (nI W) (nI x) (nI y)) (-1))) (nCt P 16384))).toInt64) hx hb dL_start_12 rfl ?_
  refine q_last (D := D) hx hb hK hP hD hS 4 2 rfl rfl dL_start_13 (fun H locs hP hD hS => ?_)
  have hP : va_P D vwCl [cT hT hB hV (aYs a (nI n) (nI W) (nI x) (nI y)), cB hB hG (yWo (nI W) (nI x) (nI y)), cA cI hG 1120 (pgF P 16384), cA cI hV 8 (iUp vM v 8), cL cJ hX 1 (vp_updL ot 0 (((xCnt (pAg (pgF P 16384) (yWo (nI W) (nI x) (nI y)) (yKn (aYs a (nI n) (nI W) (nI x) (nI y)) (-1))) (nCt P 16384))).toInt64))] H := hP
  have hD : va_D A [cT hT hB hV (aYs a (nI n) (nI W) (nI x) (nI y)), cB hB hG (yWo (nI W) (nI x) (nI y)), cA cI hG 1120 (pgF P 16384), cA cI hV 8 (iUp vM v 8), cL cJ hX 1 (vp_updL ot 0 (((xCnt (pAg (pgF P 16384) (yWo (nI W) (nI x) (nI y)) (yKn (aYs a (nI n) (nI W) (nI x) (nI y)) (-1))) (nCt P 16384))).toInt64))] := hD
  refine lv_goto (tgt := 21) hx hb dL_start_14 (by decide) ?_
  refine lv_iconst (v := 0) hx hb dL_start_21 (by decide) ?_
  have hP9 : va_P D vwCl [cT hT hB hV (aYs a (nI n) (nI W) (nI x) (nI y)), cB hB hG (yWo (nI W) (nI x) (nI y)), cA cI hG 1120 (pgF P 16384), cA cI hV 8 (iUp vM v 8), cL cJ hX 1 (vp_updL ot 0 (xCnt (pAg (pgF P 16384) (yWo (nI W) (nI x) (nI y)) (yKn (aYs a (nI n) (nI W) (nI x) (nI y)) (-1))) (nCt P 16384)).toInt64)] H := by
    have e9_0 : (vp_updL ot 0 (xCnt (pAg (pgF P 16384) (yWo (nI W) (nI x) (nI y)) (yKn (aYs a (nI n) (nI W) (nI x) (nI y)) (-1))) (nCt P 16384)).toInt64) = (vp_updL ot 0 (((xCnt (pAg (pgF P 16384) (yWo (nI W) (nI x) (nI y)) (yKn (aYs a (nI n) (nI W) (nI x) (nI y)) (-1))) (nCt P 16384))).toInt64)) := by (first | rfl | (simp only [bI]; rfl))
    rw [e9_0]
    exact hP
  exact mi_iret hx hb hr hlocks hS (by rfl) hP9 dL_start_22

set_option maxHeartbeats 2000000 in
set_option maxRecDepth 100000 in
theorem f_L_start (l : Launch) (D : va_G) (cI cZ cJ : ClassId) (sz : Nat) (hst : l.stackTraces = false) (hT : Nat) (hB : Nat) (hV : Nat) (a : Nat → Int32) (hX : Nat) (ot : Nat → Int64) (n : Nat) (W : Nat) (x : Nat) (y : Nat) (hk : ¬ kYs pl wi se gu = 0) : Mx l D cI cZ cJ yL_start wsL_start 7 114 sz [.ref hT, .int (nI n), .int (nI W), .int (nI x), .int (nI y), .ref hX] [cT hT hB hV a, cL cJ hX 1 ot] (1) := by
  refine mx_ofH (by decide) rfl (Nat.le_of_ble_eq_true rfl) (fun p e s m below meth c ls A hx hb hr hml hts hown hlocks htab hP hK hN hD hA hS hZ hY hX hl => ?_)
  have hl : lv_has ls 7 [(0, .ref hT), (1, .int (nI n)), (2, .int (nI W)), (3, .int (nI x)), (4, .int (nI y)), (5, .ref hX)] := hl
  refine lv_aload hx hb dL_start_0 (lv_at hl 5 rfl) ?_
  refine lv_iconst (v := 0) hx hb dL_start_2 (by decide) ?_
  refine lv_aload_n hx hb dL_start_3 rfl (lv_at hl 0 rfl) ?_
  refine lv_iload_n hx hb dL_start_4 rfl (lv_at hl 1 rfl) ?_
  refine lv_iload_n hx hb dL_start_5 rfl (lv_at hl 2 rfl) ?_
  refine lv_iload_n hx hb dL_start_6 rfl (lv_at hl 3 rfl) ?_
  refine lv_iload hx hb dL_start_7 (lv_at hl 4 rfl) ?_
  refine xc_V (b := hT) (As := [.int (nI n), .int (nI W), .int (nI x), .int (nI y)]) (rest := [.int 0, .ref hX]) ⟨hx, hb, hml, hown, hts⟩ (t_X1_start l D cI cZ cJ _ hst hT hB hV a (nI n) (nI W) (nI x) (nI y) hk) (cwV 4 hts gL_start_X1_start rfl rfl rfl (by decide +kernel) ⟨Nat.le_of_ble_eq_true rfl, Nat.le_of_ble_eq_true rfl⟩) hP hD hK hN hY hS hA hZ (va_recv hK hP (ci := 1) (q0 := 0) rfl rfl) rfl hl.1 rfl (Nat.le_of_ble_eq_true rfl) dL_start_9 ⟨Nat.le_of_ble_eq_true rfl, Nat.le_of_ble_eq_true rfl⟩ [0] [1] rfl rfl 2 rfl (by decide) (by decide) (fun H locs qe ce hP hD hS hq1 hq2 hq3 => ?_)
  have hv9 : kYs (nI n) (nI W) (nI x) (nI y) = 0 ∨ kYs (nI n) (nI W) (nI x) (nI y) = 3 := kYs_in _ _ _ _
  rcases hv9 with h9 | h9
  · exact absurd h9 hk
  · rw [h9] at hq3
    refine vx_catch (E := "java/lang/IllegalArgumentException") (name := "java/lang/IllegalArgumentException") hown [] ⟨0, 14, 17, 13⟩ [] htab (fun _ h => nomatch h) (by decide) (by decide) (hts (.classLink RL 13 "java/lang/IllegalArgumentException") (List.mem_of_getElem? (i := 1) rfl)) (va_Nw.use rfl (hN.2.2 _ (List.mem_of_getElem? (i := 2) rfl))) hq1 hq2 hq3 ?_
    refine lv_astore (lv' := [(6, .ref qe), (0, .ref hT), (1, .int (nI n)), (2, .int (nI W)), (3, .int (nI x)), (4, .int (nI y)), (5, .ref hX)]) hx hb dL_start_17 hl (by decide) rfl (fun ls hl => ?_)
    refine lv_iconst (v := 1) hx hb dL_start_19 (by decide) ?_
    exact mx_iret hx hb hr hlocks hS rfl hP dL_start_20

theorem in_L_claim_X0 : ∀ w ∈ wsX00, w ∈ wsL_claim := by decide +kernel
theorem in_L_claim_X1 : ∀ w ∈ wsX10, w ∈ wsL_claim := by decide +kernel
set_option maxHeartbeats 2000000 in
set_option maxRecDepth 100000 in
theorem c_L_claim (l : Launch) (D : va_G) (cI cZ cJ : ClassId) (sz : Nat) (hT : Nat) (hB : Nat) (hV : Nat) (a : Nat → Int32) (hG : Nat) (tr : Int32) (g : Nat → Int32) (hX : Nat) (ot : Nat → Int64) (q : Int32) (k : Int32) (r : Int32) (K : Nat) (hK9 : K ≤ 1120) (hg : ∀ j, j < K → ¬ g j = 0) (hz : K < 1120 → g K = 0) (h1 : ¬ a 0 = 0) (h2 : yPl a q = true) (h3 : yPl a r = true) (h4 : ¬ k < 0) (h5 : k ≤ 3) (m1 : a 0 = 1) (m2 : yIn (a 6) q = true) (m3 : yAg tr q (yCb k r) (!decide (k = 1)) = true) : Mi l D cI cZ cJ yL_claim wsL_claim 5 115 sz [.ref hT, .int q, .int k, .int r, .ref hX] [cT hT hB hV a, cB hB hG tr, cA cI hG 1120 g, cL cJ hX 1 ot] [cT hT hB hV a, cB hB hG tr, cA cI hG 1120 (kcF (pAc q (yCb k r) (!decide (k = 1))) g K), cL cJ hX 1 (vp_updL ot 0 (xCnt (pAg (kcF (pAc q (yCb k r) (!decide (k = 1))) g K) tr (yKn a (-1))) (nCt (kcP (pAc q (yCb k r) (!decide (k = 1))) g) K)).toInt64)] (0) := by
  refine mi_ofH (by decide) rfl (Nat.le_of_ble_eq_true rfl) (fun p e s m below meth c ls A hx hb hr hml hts hown hlocks hP hK hN hD hA hS hl => ?_)
  have hl : lv_has ls 6 [(0, .ref hT), (1, .int q), (2, .int k), (3, .int r), (4, .ref hX)] := hl
  refine lv_aload hx hb dL_claim_0 (lv_at hl 4 rfl) ?_
  refine lv_iconst (v := 0) hx hb dL_claim_2 (by decide) ?_
  refine lv_aload_n hx hb dL_claim_3 rfl (lv_at hl 0 rfl) ?_
  refine lv_iload_n hx hb dL_claim_4 rfl (lv_at hl 1 rfl) ?_
  refine lv_iload_n hx hb dL_claim_5 rfl (lv_at hl 2 rfl) ?_
  refine lv_iload_n hx hb dL_claim_6 rfl (lv_at hl 3 rfl) ?_
  refine mi_V (b := hT) (As := [.int q, .int k, .int r]) (rest := [.int 0, .ref hX]) (W2 := [cT hT hB hV a, cB hB hG tr, cA cI hG 1120 (kcF (pAc q (yCb k r) (!decide (k = 1))) g K), cL cJ hX 1 ot]) ⟨hx, hb, hml, hown, hts⟩ (c_X1_claim l D cI cZ cJ _ hT hB hV a hG tr g q k r K hK9 hg hz h1 h2 h3 h4 h5 m1 m2 m3) (cwV 3 hts gL_claim_X1_claim rfl rfl rfl (by decide +kernel) ⟨Nat.le_of_ble_eq_true rfl, Nat.le_of_ble_eq_true rfl⟩) hP hD hK hN hS hA (va_recv hK hP (ci := 1) (q0 := 0) rfl rfl) rfl hl.1 rfl (Nat.le_of_ble_eq_true rfl) dL_claim_7 ⟨Nat.le_of_ble_eq_true rfl, Nat.le_of_ble_eq_true rfl⟩ [0, 1, 2] [3] rfl rfl rfl (by intro i hi; simp only [List.mem_cons, List.not_mem_nil, or_false] at hi; rcases hi with rfl <;> rfl) rfl 4 rfl (by decide) (by decide) (fun H locs hP hD hS => ?_)
  refine lv_i2l (v := ((xCnt (pAg (kcF (pAc q (yCb k r) (!decide (k = 1))) g K) tr (yKn a (-1))) (nCt (kcP (pAc q (yCb k r) (!decide (k = 1))) g) K))).toInt64) hx hb dL_claim_10 rfl ?_
  refine q_last (D := D) hx hb hK hP hD hS 3 2 rfl rfl dL_claim_11 (fun H locs hP hD hS => ?_)
  have hP : va_P D vwCl [cT hT hB hV a, cB hB hG tr, cA cI hG 1120 (kcF (pAc q (yCb k r) (!decide (k = 1))) g K), cL cJ hX 1 (vp_updL ot 0 (((xCnt (pAg (kcF (pAc q (yCb k r) (!decide (k = 1))) g K) tr (yKn a (-1))) (nCt (kcP (pAc q (yCb k r) (!decide (k = 1))) g) K))).toInt64))] H := hP
  have hD : va_D A [cT hT hB hV a, cB hB hG tr, cA cI hG 1120 (kcF (pAc q (yCb k r) (!decide (k = 1))) g K), cL cJ hX 1 (vp_updL ot 0 (((xCnt (pAg (kcF (pAc q (yCb k r) (!decide (k = 1))) g K) tr (yKn a (-1))) (nCt (kcP (pAc q (yCb k r) (!decide (k = 1))) g) K))).toInt64))] := hD
  refine lv_goto (tgt := 31) hx hb dL_claim_12 (by decide) ?_
  refine lv_iconst (v := 0) hx hb dL_claim_31 (by decide) ?_
  have hP9 : va_P D vwCl [cT hT hB hV a, cB hB hG tr, cA cI hG 1120 (kcF (pAc q (yCb k r) (!decide (k = 1))) g K), cL cJ hX 1 (vp_updL ot 0 (xCnt (pAg (kcF (pAc q (yCb k r) (!decide (k = 1))) g K) tr (yKn a (-1))) (nCt (kcP (pAc q (yCb k r) (!decide (k = 1))) g) K)).toInt64)] H := by
    have e9_0 : (vp_updL ot 0 (xCnt (pAg (kcF (pAc q (yCb k r) (!decide (k = 1))) g K) tr (yKn a (-1))) (nCt (kcP (pAc q (yCb k r) (!decide (k = 1))) g) K)).toInt64) = (vp_updL ot 0 (((xCnt (pAg (kcF (pAc q (yCb k r) (!decide (k = 1))) g K) tr (yKn a (-1))) (nCt (kcP (pAc q (yCb k r) (!decide (k = 1))) g) K))).toInt64)) := by (first | rfl | (simp only [bI]; rfl))
    rw [e9_0]
    exact hP
  exact mi_iret hx hb hr hlocks hS (by rfl) hP9 dL_claim_32

set_option maxHeartbeats 2000000 in
set_option maxRecDepth 100000 in
theorem f_L_claim (l : Launch) (D : va_G) (cI cZ cJ : ClassId) (sz : Nat) (hst : l.stackTraces = false) (hT : Nat) (hB : Nat) (hV : Nat) (a : Nat → Int32) (hG : Nat) (tr : Int32) (hX : Nat) (ot : Nat → Int64) (q : Int32) (k : Int32) (r : Int32) (hk : ¬ kYc a tr q k r = 0) : Mx l D cI cZ cJ yL_claim wsL_claim 8 136 sz [.ref hT, .int q, .int k, .int r, .ref hX] [cT hT hB hV a, cB hB hG tr, cL cJ hX 1 ot] (kYc a tr q k r) := by
  refine mx_ofH (by decide) rfl (Nat.le_of_ble_eq_true rfl) (fun p e s m below meth c ls A hx hb hr hml hts hown hlocks htab hP hK hN hD hA hS hZ hY hX hl => ?_)
  have hl : lv_has ls 6 [(0, .ref hT), (1, .int q), (2, .int k), (3, .int r), (4, .ref hX)] := hl
  refine lv_aload hx hb dL_claim_0 (lv_at hl 4 rfl) ?_
  refine lv_iconst (v := 0) hx hb dL_claim_2 (by decide) ?_
  refine lv_aload_n hx hb dL_claim_3 rfl (lv_at hl 0 rfl) ?_
  refine lv_iload_n hx hb dL_claim_4 rfl (lv_at hl 1 rfl) ?_
  refine lv_iload_n hx hb dL_claim_5 rfl (lv_at hl 2 rfl) ?_
  refine lv_iload_n hx hb dL_claim_6 rfl (lv_at hl 3 rfl) ?_
  refine xc_V (b := hT) (As := [.int q, .int k, .int r]) (rest := [.int 0, .ref hX]) ⟨hx, hb, hml, hown, hts⟩ (t_X1_claim l D cI cZ cJ _ hst hT hB hV a hG tr q k r hk) (cwV 3 hts gL_claim_X1_claim rfl rfl rfl (by decide +kernel) ⟨Nat.le_of_ble_eq_true rfl, Nat.le_of_ble_eq_true rfl⟩) hP hD hK hN hY hS hA hZ (va_recv hK hP (ci := 1) (q0 := 0) rfl rfl) rfl hl.1 rfl (Nat.le_of_ble_eq_true rfl) dL_claim_7 ⟨Nat.le_of_ble_eq_true rfl, Nat.le_of_ble_eq_true rfl⟩ [0, 1] [2] rfl rfl 3 rfl (by decide) (by decide) (fun H locs qe ce hP hD hS hq1 hq2 hq3 => ?_)
  have hv9 : kYc a tr q k r = 0 ∨ kYc a tr q k r = 1 ∨ kYc a tr q k r = 2 ∨ kYc a tr q k r = 3 ∨ kYc a tr q k r = 4 := kYc_in _ _ _ _ _
  rcases hv9 with h9 | h9 | h9 | h9 | h9
  · exact absurd h9 hk
  · rw [h9] at hq3
    refine vx_catch (E := "java/lang/IllegalStateException") (name := "java/lang/IllegalStateException") hown [] ⟨0, 12, 15, 19⟩ [⟨0, 12, 19, 21⟩, ⟨0, 12, 23, 13⟩, ⟨0, 12, 27, 23⟩] htab (fun _ h => nomatch h) (by decide) (by decide) (hts (.classLink RL 19 "java/lang/IllegalStateException") (List.mem_of_getElem? (i := 1) rfl)) (va_Nw.use rfl (hN.2.2 _ (List.mem_of_getElem? (i := 0) rfl))) hq1 hq2 hq3 ?_
    refine lv_astore (lv' := [(5, .ref qe), (0, .ref hT), (1, .int q), (2, .int k), (3, .int r), (4, .ref hX)]) hx hb dL_claim_15 hl (by decide) rfl (fun ls hl => ?_)
    refine lv_iconst (v := 1) hx hb dL_claim_17 (by decide) ?_
    exact mx_iret hx hb hr hlocks hS h9.symm hP dL_claim_18
  · rw [h9] at hq3
    refine vx_catch (E := "java/lang/IndexOutOfBoundsException") (name := "java/lang/IndexOutOfBoundsException") hown [⟨0, 12, 15, 19⟩] ⟨0, 12, 19, 21⟩ [⟨0, 12, 23, 13⟩, ⟨0, 12, 27, 23⟩] htab (List.forall_mem_cons.mpr ⟨Or.inr ⟨by decide, "java/lang/IllegalStateException", (hts (.classLink RL 19 "java/lang/IllegalStateException") (List.mem_of_getElem? (i := 1) rfl)), hX.at 3 rfl⟩, (fun _ h => nomatch h)⟩) (by decide) (by decide) (hts (.classLink RL 21 "java/lang/IndexOutOfBoundsException") (List.mem_of_getElem? (i := 2) rfl)) (va_Nw.use rfl (hN.2.2 _ (List.mem_of_getElem? (i := 1) rfl))) hq1 hq2 hq3 ?_
    refine lv_astore (lv' := [(5, .ref qe), (0, .ref hT), (1, .int q), (2, .int k), (3, .int r), (4, .ref hX)]) hx hb dL_claim_19 hl (by decide) rfl (fun ls hl => ?_)
    refine lv_iconst (v := 2) hx hb dL_claim_21 (by decide) ?_
    exact mx_iret hx hb hr hlocks hS h9.symm hP dL_claim_22
  · rw [h9] at hq3
    refine vx_catch (E := "java/lang/IllegalArgumentException") (name := "java/lang/IllegalArgumentException") hown [⟨0, 12, 15, 19⟩, ⟨0, 12, 19, 21⟩] ⟨0, 12, 23, 13⟩ [⟨0, 12, 27, 23⟩] htab (List.forall_mem_cons.mpr ⟨Or.inr ⟨by decide, "java/lang/IllegalStateException", (hts (.classLink RL 19 "java/lang/IllegalStateException") (List.mem_of_getElem? (i := 1) rfl)), hX.at 6 rfl⟩, (List.forall_mem_cons.mpr ⟨Or.inr ⟨by decide, "java/lang/IndexOutOfBoundsException", (hts (.classLink RL 21 "java/lang/IndexOutOfBoundsException") (List.mem_of_getElem? (i := 2) rfl)), hX.at 7 rfl⟩, (fun _ h => nomatch h)⟩)⟩) (by decide) (by decide) (hts (.classLink RL 13 "java/lang/IllegalArgumentException") (List.mem_of_getElem? (i := 3) rfl)) (va_Nw.use rfl (hN.2.2 _ (List.mem_of_getElem? (i := 2) rfl))) hq1 hq2 hq3 ?_
    refine lv_astore (lv' := [(5, .ref qe), (0, .ref hT), (1, .int q), (2, .int k), (3, .int r), (4, .ref hX)]) hx hb dL_claim_23 hl (by decide) rfl (fun ls hl => ?_)
    refine lv_iconst (v := 3) hx hb dL_claim_25 (by decide) ?_
    exact mx_iret hx hb hr hlocks hS h9.symm hP dL_claim_26
  · rw [h9] at hq3
    refine vx_catch (E := "java/util/NoSuchElementException") (name := "java/util/NoSuchElementException") hown [⟨0, 12, 15, 19⟩, ⟨0, 12, 19, 21⟩, ⟨0, 12, 23, 13⟩] ⟨0, 12, 27, 23⟩ [] htab (List.forall_mem_cons.mpr ⟨Or.inr ⟨by decide, "java/lang/IllegalStateException", (hts (.classLink RL 19 "java/lang/IllegalStateException") (List.mem_of_getElem? (i := 1) rfl)), hX.at 9 rfl⟩, (List.forall_mem_cons.mpr ⟨Or.inr ⟨by decide, "java/lang/IndexOutOfBoundsException", (hts (.classLink RL 21 "java/lang/IndexOutOfBoundsException") (List.mem_of_getElem? (i := 2) rfl)), hX.at 10 rfl⟩, (List.forall_mem_cons.mpr ⟨Or.inr ⟨by decide, "java/lang/IllegalArgumentException", (hts (.classLink RL 13 "java/lang/IllegalArgumentException") (List.mem_of_getElem? (i := 3) rfl)), hX.at 11 rfl⟩, (fun _ h => nomatch h)⟩)⟩)⟩) (by decide) (by decide) (hts (.classLink RL 23 "java/util/NoSuchElementException") (List.mem_of_getElem? (i := 4) rfl)) (va_Nw.use rfl (hN.2.2 _ (List.mem_of_getElem? (i := 3) rfl))) hq1 hq2 hq3 ?_
    refine lv_astore (lv' := [(5, .ref qe), (0, .ref hT), (1, .int q), (2, .int k), (3, .int r), (4, .ref hX)]) hx hb dL_claim_27 hl (by decide) rfl (fun ls hl => ?_)
    refine lv_iconst (v := 4) hx hb dL_claim_29 (by decide) ?_
    exact mx_iret hx hb hr hlocks hS h9.symm hP dL_claim_30

theorem in_L_claimAmong_X0 : ∀ w ∈ wsX00, w ∈ wsL_claimAmong := by decide +kernel
theorem in_L_claimAmong_X1 : ∀ w ∈ wsX10, w ∈ wsL_claimAmong := by decide +kernel
set_option maxHeartbeats 2000000 in
set_option maxRecDepth 100000 in
theorem c_L_claimAmong (l : Launch) (D : va_G) (cI cZ cJ : ClassId) (sz : Nat) (hT : Nat) (hB : Nat) (hV : Nat) (a : Nat → Int32) (hG : Nat) (tr : Int32) (g : Nat → Int32) (hX : Nat) (ot : Nat → Int64) (q : Int32) (st : Int32) (K : Nat) (hK9 : K ≤ 1120) (hg : ∀ j, j < K → ¬ g j = 0) (hz : K < 1120 → g K = 0) (h1 : ¬ a 0 = 0) (h2 : yPl a q = true) (h4 : st &&& (xAll (a 2) ^^^ (-1)) = 0) (m1 : a 0 = 1) (m2 : yIn (a 6) q = true) (m3 : yAg tr q st true = true) : Mi l D cI cZ cJ yL_claimAmong wsL_claimAmong 5 114 sz [.ref hT, .int q, .int st, .ref hX] [cT hT hB hV a, cB hB hG tr, cA cI hG 1120 g, cL cJ hX 1 ot] [cT hT hB hV a, cB hB hG tr, cA cI hG 1120 (kcF (pAc q st true) g K), cL cJ hX 1 (vp_updL ot 0 (xCnt (pAg (kcF (pAc q st true) g K) tr (yKn a (-1))) (nCt (kcP (pAc q st true) g) K)).toInt64)] (0) := by
  refine mi_ofH (by decide) rfl (Nat.le_of_ble_eq_true rfl) (fun p e s m below meth c ls A hx hb hr hml hts hown hlocks hP hK hN hD hA hS hl => ?_)
  have hl : lv_has ls 5 [(0, .ref hT), (1, .int q), (2, .int st), (3, .ref hX)] := hl
  refine lv_aload_n hx hb dL_claimAmong_0 rfl (lv_at hl 3 rfl) ?_
  refine lv_iconst (v := 0) hx hb dL_claimAmong_1 (by decide) ?_
  refine lv_aload_n hx hb dL_claimAmong_2 rfl (lv_at hl 0 rfl) ?_
  refine lv_iload_n hx hb dL_claimAmong_3 rfl (lv_at hl 1 rfl) ?_
  refine lv_iload_n hx hb dL_claimAmong_4 rfl (lv_at hl 2 rfl) ?_
  refine mi_V (b := hT) (As := [.int q, .int st]) (rest := [.int 0, .ref hX]) (W2 := [cT hT hB hV a, cB hB hG tr, cA cI hG 1120 (kcF (pAc q st true) g K), cL cJ hX 1 ot]) ⟨hx, hb, hml, hown, hts⟩ (c_X1_claimAmong l D cI cZ cJ _ hT hB hV a hG tr g q st K hK9 hg hz h1 h2 h4 m1 m2 m3) (cwV 2 hts gL_claimAmong_X1_claimAmong rfl rfl rfl (by decide +kernel) ⟨Nat.le_of_ble_eq_true rfl, Nat.le_of_ble_eq_true rfl⟩) hP hD hK hN hS hA (va_recv hK hP (ci := 1) (q0 := 0) rfl rfl) rfl hl.1 rfl (Nat.le_of_ble_eq_true rfl) dL_claimAmong_5 ⟨Nat.le_of_ble_eq_true rfl, Nat.le_of_ble_eq_true rfl⟩ [0, 1, 2] [3] rfl rfl rfl (by intro i hi; simp only [List.mem_cons, List.not_mem_nil, or_false] at hi; rcases hi with rfl <;> rfl) rfl 4 rfl (by decide) (by decide) (fun H locs hP hD hS => ?_)
  refine lv_i2l (v := ((xCnt (pAg (kcF (pAc q st true) g K) tr (yKn a (-1))) (nCt (kcP (pAc q st true) g) K))).toInt64) hx hb dL_claimAmong_8 rfl ?_
  refine q_last (D := D) hx hb hK hP hD hS 3 2 rfl rfl dL_claimAmong_9 (fun H locs hP hD hS => ?_)
  have hP : va_P D vwCl [cT hT hB hV a, cB hB hG tr, cA cI hG 1120 (kcF (pAc q st true) g K), cL cJ hX 1 (vp_updL ot 0 (((xCnt (pAg (kcF (pAc q st true) g K) tr (yKn a (-1))) (nCt (kcP (pAc q st true) g) K))).toInt64))] H := hP
  have hD : va_D A [cT hT hB hV a, cB hB hG tr, cA cI hG 1120 (kcF (pAc q st true) g K), cL cJ hX 1 (vp_updL ot 0 (((xCnt (pAg (kcF (pAc q st true) g K) tr (yKn a (-1))) (nCt (kcP (pAc q st true) g) K))).toInt64))] := hD
  refine lv_goto (tgt := 29) hx hb dL_claimAmong_10 (by decide) ?_
  refine lv_iconst (v := 0) hx hb dL_claimAmong_29 (by decide) ?_
  have hP9 : va_P D vwCl [cT hT hB hV a, cB hB hG tr, cA cI hG 1120 (kcF (pAc q st true) g K), cL cJ hX 1 (vp_updL ot 0 (xCnt (pAg (kcF (pAc q st true) g K) tr (yKn a (-1))) (nCt (kcP (pAc q st true) g) K)).toInt64)] H := by
    have e9_0 : (vp_updL ot 0 (xCnt (pAg (kcF (pAc q st true) g K) tr (yKn a (-1))) (nCt (kcP (pAc q st true) g) K)).toInt64) = (vp_updL ot 0 (((xCnt (pAg (kcF (pAc q st true) g K) tr (yKn a (-1))) (nCt (kcP (pAc q st true) g) K))).toInt64)) := by (first | rfl | (simp only [bI]; rfl))
    rw [e9_0]
    exact hP
  exact mi_iret hx hb hr hlocks hS (by rfl) hP9 dL_claimAmong_30

set_option maxHeartbeats 2000000 in
set_option maxRecDepth 100000 in
theorem f_L_claimAmong (l : Launch) (D : va_G) (cI cZ cJ : ClassId) (sz : Nat) (hst : l.stackTraces = false) (hT : Nat) (hB : Nat) (hV : Nat) (a : Nat → Int32) (hG : Nat) (tr : Int32) (hX : Nat) (ot : Nat → Int64) (q : Int32) (st : Int32) (hk : ¬ kYa a tr q st = 0) : Mx l D cI cZ cJ yL_claimAmong wsL_claimAmong 8 135 sz [.ref hT, .int q, .int st, .ref hX] [cT hT hB hV a, cB hB hG tr, cL cJ hX 1 ot] (kYa a tr q st) := by
  refine mx_ofH (by decide) rfl (Nat.le_of_ble_eq_true rfl) (fun p e s m below meth c ls A hx hb hr hml hts hown hlocks htab hP hK hN hD hA hS hZ hY hX hl => ?_)
  have hl : lv_has ls 5 [(0, .ref hT), (1, .int q), (2, .int st), (3, .ref hX)] := hl
  refine lv_aload_n hx hb dL_claimAmong_0 rfl (lv_at hl 3 rfl) ?_
  refine lv_iconst (v := 0) hx hb dL_claimAmong_1 (by decide) ?_
  refine lv_aload_n hx hb dL_claimAmong_2 rfl (lv_at hl 0 rfl) ?_
  refine lv_iload_n hx hb dL_claimAmong_3 rfl (lv_at hl 1 rfl) ?_
  refine lv_iload_n hx hb dL_claimAmong_4 rfl (lv_at hl 2 rfl) ?_
  refine xc_V (b := hT) (As := [.int q, .int st]) (rest := [.int 0, .ref hX]) ⟨hx, hb, hml, hown, hts⟩ (t_X1_claimAmong l D cI cZ cJ _ hst hT hB hV a hG tr q st hk) (cwV 2 hts gL_claimAmong_X1_claimAmong rfl rfl rfl (by decide +kernel) ⟨Nat.le_of_ble_eq_true rfl, Nat.le_of_ble_eq_true rfl⟩) hP hD hK hN hY hS hA hZ (va_recv hK hP (ci := 1) (q0 := 0) rfl rfl) rfl hl.1 rfl (Nat.le_of_ble_eq_true rfl) dL_claimAmong_5 ⟨Nat.le_of_ble_eq_true rfl, Nat.le_of_ble_eq_true rfl⟩ [0, 1] [2] rfl rfl 3 rfl (by decide) (by decide) (fun H locs qe ce hP hD hS hq1 hq2 hq3 => ?_)
  have hv9 : kYa a tr q st = 0 ∨ kYa a tr q st = 1 ∨ kYa a tr q st = 2 ∨ kYa a tr q st = 3 ∨ kYa a tr q st = 4 := kYa_in _ _ _ _
  rcases hv9 with h9 | h9 | h9 | h9 | h9
  · exact absurd h9 hk
  · rw [h9] at hq3
    refine vx_catch (E := "java/lang/IllegalStateException") (name := "java/lang/IllegalStateException") hown [] ⟨0, 10, 13, 19⟩ [⟨0, 10, 17, 21⟩, ⟨0, 10, 21, 13⟩, ⟨0, 10, 25, 23⟩] htab (fun _ h => nomatch h) (by decide) (by decide) (hts (.classLink RL 19 "java/lang/IllegalStateException") (List.mem_of_getElem? (i := 1) rfl)) (va_Nw.use rfl (hN.2.2 _ (List.mem_of_getElem? (i := 0) rfl))) hq1 hq2 hq3 ?_
    refine lv_astore (lv' := [(4, .ref qe), (0, .ref hT), (1, .int q), (2, .int st), (3, .ref hX)]) hx hb dL_claimAmong_13 hl (by decide) rfl (fun ls hl => ?_)
    refine lv_iconst (v := 1) hx hb dL_claimAmong_15 (by decide) ?_
    exact mx_iret hx hb hr hlocks hS h9.symm hP dL_claimAmong_16
  · rw [h9] at hq3
    refine vx_catch (E := "java/lang/IndexOutOfBoundsException") (name := "java/lang/IndexOutOfBoundsException") hown [⟨0, 10, 13, 19⟩] ⟨0, 10, 17, 21⟩ [⟨0, 10, 21, 13⟩, ⟨0, 10, 25, 23⟩] htab (List.forall_mem_cons.mpr ⟨Or.inr ⟨by decide, "java/lang/IllegalStateException", (hts (.classLink RL 19 "java/lang/IllegalStateException") (List.mem_of_getElem? (i := 1) rfl)), hX.at 3 rfl⟩, (fun _ h => nomatch h)⟩) (by decide) (by decide) (hts (.classLink RL 21 "java/lang/IndexOutOfBoundsException") (List.mem_of_getElem? (i := 2) rfl)) (va_Nw.use rfl (hN.2.2 _ (List.mem_of_getElem? (i := 1) rfl))) hq1 hq2 hq3 ?_
    refine lv_astore (lv' := [(4, .ref qe), (0, .ref hT), (1, .int q), (2, .int st), (3, .ref hX)]) hx hb dL_claimAmong_17 hl (by decide) rfl (fun ls hl => ?_)
    refine lv_iconst (v := 2) hx hb dL_claimAmong_19 (by decide) ?_
    exact mx_iret hx hb hr hlocks hS h9.symm hP dL_claimAmong_20
  · rw [h9] at hq3
    refine vx_catch (E := "java/lang/IllegalArgumentException") (name := "java/lang/IllegalArgumentException") hown [⟨0, 10, 13, 19⟩, ⟨0, 10, 17, 21⟩] ⟨0, 10, 21, 13⟩ [⟨0, 10, 25, 23⟩] htab (List.forall_mem_cons.mpr ⟨Or.inr ⟨by decide, "java/lang/IllegalStateException", (hts (.classLink RL 19 "java/lang/IllegalStateException") (List.mem_of_getElem? (i := 1) rfl)), hX.at 6 rfl⟩, (List.forall_mem_cons.mpr ⟨Or.inr ⟨by decide, "java/lang/IndexOutOfBoundsException", (hts (.classLink RL 21 "java/lang/IndexOutOfBoundsException") (List.mem_of_getElem? (i := 2) rfl)), hX.at 7 rfl⟩, (fun _ h => nomatch h)⟩)⟩) (by decide) (by decide) (hts (.classLink RL 13 "java/lang/IllegalArgumentException") (List.mem_of_getElem? (i := 3) rfl)) (va_Nw.use rfl (hN.2.2 _ (List.mem_of_getElem? (i := 2) rfl))) hq1 hq2 hq3 ?_
    refine lv_astore (lv' := [(4, .ref qe), (0, .ref hT), (1, .int q), (2, .int st), (3, .ref hX)]) hx hb dL_claimAmong_21 hl (by decide) rfl (fun ls hl => ?_)
    refine lv_iconst (v := 3) hx hb dL_claimAmong_23 (by decide) ?_
    exact mx_iret hx hb hr hlocks hS h9.symm hP dL_claimAmong_24
  · rw [h9] at hq3
    refine vx_catch (E := "java/util/NoSuchElementException") (name := "java/util/NoSuchElementException") hown [⟨0, 10, 13, 19⟩, ⟨0, 10, 17, 21⟩, ⟨0, 10, 21, 13⟩] ⟨0, 10, 25, 23⟩ [] htab (List.forall_mem_cons.mpr ⟨Or.inr ⟨by decide, "java/lang/IllegalStateException", (hts (.classLink RL 19 "java/lang/IllegalStateException") (List.mem_of_getElem? (i := 1) rfl)), hX.at 9 rfl⟩, (List.forall_mem_cons.mpr ⟨Or.inr ⟨by decide, "java/lang/IndexOutOfBoundsException", (hts (.classLink RL 21 "java/lang/IndexOutOfBoundsException") (List.mem_of_getElem? (i := 2) rfl)), hX.at 10 rfl⟩, (List.forall_mem_cons.mpr ⟨Or.inr ⟨by decide, "java/lang/IllegalArgumentException", (hts (.classLink RL 13 "java/lang/IllegalArgumentException") (List.mem_of_getElem? (i := 3) rfl)), hX.at 11 rfl⟩, (fun _ h => nomatch h)⟩)⟩)⟩) (by decide) (by decide) (hts (.classLink RL 23 "java/util/NoSuchElementException") (List.mem_of_getElem? (i := 4) rfl)) (va_Nw.use rfl (hN.2.2 _ (List.mem_of_getElem? (i := 3) rfl))) hq1 hq2 hq3 ?_
    refine lv_astore (lv' := [(4, .ref qe), (0, .ref hT), (1, .int q), (2, .int st), (3, .ref hX)]) hx hb dL_claimAmong_25 hl (by decide) rfl (fun ls hl => ?_)
    refine lv_iconst (v := 4) hx hb dL_claimAmong_27 (by decide) ?_
    exact mx_iret hx hb hr hlocks hS h9.symm hP dL_claimAmong_28

theorem in_L_vote_X1 : ∀ w ∈ wsX10, w ∈ wsL_vote := by decide +kernel
set_option maxHeartbeats 2000000 in
set_option maxRecDepth 100000 in
theorem c_L_vote (l : Launch) (D : va_G) (cI cZ cJ : ClassId) (sz : Nat) (hT : Nat) (hB : Nat) (hV : Nat) (a : Nat → Int32) (v : Nat → Int32) (hX : Nat) (ot : Nat → Int64) (q : Nat) (r : Int32) (hq : q < 8) (h1 : a 0 = 1) (h2 : yPl a (nI q) = true) (h3 : yPl a r = true) (h4 : yIn (a 6) (nI q) = true) (h5 : yIn (a 6) r = true) : Mi l D cI cZ cJ yL_vote wsL_vote 3 63 sz [.ref hT, .int (nI q), .int r, .ref hX] [cT hT hB hV a, cA cI hV 8 v, cL cJ hX 1 ot] [cT hT hB hV a, cA cI hV 8 (upd v q r), cL cJ hX 1 (vp_updL ot 0 (xMv (upd v q r) r 8).toInt64)] (0) := by
  refine mi_ofH (by decide) rfl (Nat.le_of_ble_eq_true rfl) (fun p e s m below meth c ls A hx hb hr hml hts hown hlocks hP hK hN hD hA hS hl => ?_)
  have hl : lv_has ls 5 [(0, .ref hT), (1, .int (nI q)), (2, .int r), (3, .ref hX)] := hl
  refine lv_aload_n hx hb dL_vote_0 rfl (lv_at hl 3 rfl) ?_
  refine lv_iconst (v := 0) hx hb dL_vote_1 (by decide) ?_
  refine lv_aload_n hx hb dL_vote_2 rfl (lv_at hl 0 rfl) ?_
  refine lv_iload_n hx hb dL_vote_3 rfl (lv_at hl 1 rfl) ?_
  refine lv_iload_n hx hb dL_vote_4 rfl (lv_at hl 2 rfl) ?_
  refine mi_V (b := hT) (As := [.int (nI q), .int r]) (rest := [.int 0, .ref hX]) (W2 := [cT hT hB hV a, cA cI hV 8 (upd v q r), cL cJ hX 1 ot]) ⟨hx, hb, hml, hown, hts⟩ (c_X1_vote l D cI cZ cJ _ hT hB hV a v q r hq h1 h2 h3 h4 h5) (cwV 2 hts gL_vote_X1_vote rfl rfl rfl (by decide +kernel) ⟨Nat.le_of_ble_eq_true rfl, Nat.le_of_ble_eq_true rfl⟩) hP hD hK hN hS hA (va_recv hK hP (ci := 1) (q0 := 0) rfl rfl) rfl hl.1 rfl (Nat.le_of_ble_eq_true rfl) dL_vote_5 ⟨Nat.le_of_ble_eq_true rfl, Nat.le_of_ble_eq_true rfl⟩ [0, 1] [2] rfl rfl rfl (by intro i hi; simp only [List.mem_cons, List.not_mem_nil, or_false] at hi; rcases hi with rfl <;> rfl) rfl 3 rfl (by decide) (by decide) (fun H locs hP hD hS => ?_)
  refine lv_i2l (v := ((xMv (upd v q r) r 8)).toInt64) hx hb dL_vote_8 rfl ?_
  refine q_last (D := D) hx hb hK hP hD hS 2 2 rfl rfl dL_vote_9 (fun H locs hP hD hS => ?_)
  have hP : va_P D vwCl [cT hT hB hV a, cA cI hV 8 (upd v q r), cL cJ hX 1 (vp_updL ot 0 (((xMv (upd v q r) r 8)).toInt64))] H := hP
  have hD : va_D A [cT hT hB hV a, cA cI hV 8 (upd v q r), cL cJ hX 1 (vp_updL ot 0 (((xMv (upd v q r) r 8)).toInt64))] := hD
  refine lv_goto (tgt := 25) hx hb dL_vote_10 (by decide) ?_
  refine lv_iconst (v := 0) hx hb dL_vote_25 (by decide) ?_
  have hP9 : va_P D vwCl [cT hT hB hV a, cA cI hV 8 (upd v q r), cL cJ hX 1 (vp_updL ot 0 (xMv (upd v q r) r 8).toInt64)] H := by
    have e9_0 : (vp_updL ot 0 (xMv (upd v q r) r 8).toInt64) = (vp_updL ot 0 (((xMv (upd v q r) r 8)).toInt64)) := by (first | rfl | (simp only [bI]; rfl))
    rw [e9_0]
    exact hP
  exact mi_iret hx hb hr hlocks hS (by rfl) hP9 dL_vote_26

set_option maxHeartbeats 2000000 in
set_option maxRecDepth 100000 in
theorem f_L_vote (l : Launch) (D : va_G) (cI cZ cJ : ClassId) (sz : Nat) (hst : l.stackTraces = false) (hT : Nat) (hB : Nat) (hV : Nat) (a : Nat → Int32) (hX : Nat) (ot : Nat → Int64) (q : Nat) (r : Int32) (hk : ¬ kYv a q r = 0) : Mx l D cI cZ cJ yL_vote wsL_vote 8 133 sz [.ref hT, .int (nI q), .int r, .ref hX] [cT hT hB hV a, cL cJ hX 1 ot] (kYv a q r) := by
  refine mx_ofH (by decide) rfl (Nat.le_of_ble_eq_true rfl) (fun p e s m below meth c ls A hx hb hr hml hts hown hlocks htab hP hK hN hD hA hS hZ hY hX hl => ?_)
  have hl : lv_has ls 5 [(0, .ref hT), (1, .int (nI q)), (2, .int r), (3, .ref hX)] := hl
  refine lv_aload_n hx hb dL_vote_0 rfl (lv_at hl 3 rfl) ?_
  refine lv_iconst (v := 0) hx hb dL_vote_1 (by decide) ?_
  refine lv_aload_n hx hb dL_vote_2 rfl (lv_at hl 0 rfl) ?_
  refine lv_iload_n hx hb dL_vote_3 rfl (lv_at hl 1 rfl) ?_
  refine lv_iload_n hx hb dL_vote_4 rfl (lv_at hl 2 rfl) ?_
  refine xc_V (b := hT) (As := [.int (nI q), .int r]) (rest := [.int 0, .ref hX]) ⟨hx, hb, hml, hown, hts⟩ (t_X1_vote l D cI cZ cJ _ hst hT hB hV a (nI q) r hk) (cwV 2 hts gL_vote_X1_vote rfl rfl rfl (by decide +kernel) ⟨Nat.le_of_ble_eq_true rfl, Nat.le_of_ble_eq_true rfl⟩) hP hD hK hN hY hS hA hZ (va_recv hK hP (ci := 1) (q0 := 0) rfl rfl) rfl hl.1 rfl (Nat.le_of_ble_eq_true rfl) dL_vote_5 ⟨Nat.le_of_ble_eq_true rfl, Nat.le_of_ble_eq_true rfl⟩ [0] [1] rfl rfl 2 rfl (by decide) (by decide) (fun H locs qe ce hP hD hS hq1 hq2 hq3 => ?_)
  have hv9 : kYv a (nI q) r = 0 ∨ kYv a (nI q) r = 1 ∨ kYv a (nI q) r = 2 ∨ kYv a (nI q) r = 3 := kYv_in _ _ _
  rcases hv9 with h9 | h9 | h9 | h9
  · exact absurd h9 hk
  · rw [h9] at hq3
    refine vx_catch (E := "java/lang/IllegalStateException") (name := "java/lang/IllegalStateException") hown [] ⟨0, 10, 13, 19⟩ [⟨0, 10, 17, 21⟩, ⟨0, 10, 21, 13⟩] htab (fun _ h => nomatch h) (by decide) (by decide) (hts (.classLink RL 19 "java/lang/IllegalStateException") (List.mem_of_getElem? (i := 1) rfl)) (va_Nw.use rfl (hN.2.2 _ (List.mem_of_getElem? (i := 0) rfl))) hq1 hq2 hq3 ?_
    refine lv_astore (lv' := [(4, .ref qe), (0, .ref hT), (1, .int (nI q)), (2, .int r), (3, .ref hX)]) hx hb dL_vote_13 hl (by decide) rfl (fun ls hl => ?_)
    refine lv_iconst (v := 1) hx hb dL_vote_15 (by decide) ?_
    exact mx_iret hx hb hr hlocks hS h9.symm hP dL_vote_16
  · rw [h9] at hq3
    refine vx_catch (E := "java/lang/IndexOutOfBoundsException") (name := "java/lang/IndexOutOfBoundsException") hown [⟨0, 10, 13, 19⟩] ⟨0, 10, 17, 21⟩ [⟨0, 10, 21, 13⟩] htab (List.forall_mem_cons.mpr ⟨Or.inr ⟨by decide, "java/lang/IllegalStateException", (hts (.classLink RL 19 "java/lang/IllegalStateException") (List.mem_of_getElem? (i := 1) rfl)), hX.at 3 rfl⟩, (fun _ h => nomatch h)⟩) (by decide) (by decide) (hts (.classLink RL 21 "java/lang/IndexOutOfBoundsException") (List.mem_of_getElem? (i := 2) rfl)) (va_Nw.use rfl (hN.2.2 _ (List.mem_of_getElem? (i := 1) rfl))) hq1 hq2 hq3 ?_
    refine lv_astore (lv' := [(4, .ref qe), (0, .ref hT), (1, .int (nI q)), (2, .int r), (3, .ref hX)]) hx hb dL_vote_17 hl (by decide) rfl (fun ls hl => ?_)
    refine lv_iconst (v := 2) hx hb dL_vote_19 (by decide) ?_
    exact mx_iret hx hb hr hlocks hS h9.symm hP dL_vote_20
  · rw [h9] at hq3
    refine vx_catch (E := "java/lang/IllegalArgumentException") (name := "java/lang/IllegalArgumentException") hown [⟨0, 10, 13, 19⟩, ⟨0, 10, 17, 21⟩] ⟨0, 10, 21, 13⟩ [] htab (List.forall_mem_cons.mpr ⟨Or.inr ⟨by decide, "java/lang/IllegalStateException", (hts (.classLink RL 19 "java/lang/IllegalStateException") (List.mem_of_getElem? (i := 1) rfl)), hX.at 6 rfl⟩, (List.forall_mem_cons.mpr ⟨Or.inr ⟨by decide, "java/lang/IndexOutOfBoundsException", (hts (.classLink RL 21 "java/lang/IndexOutOfBoundsException") (List.mem_of_getElem? (i := 2) rfl)), hX.at 7 rfl⟩, (fun _ h => nomatch h)⟩)⟩) (by decide) (by decide) (hts (.classLink RL 13 "java/lang/IllegalArgumentException") (List.mem_of_getElem? (i := 3) rfl)) (va_Nw.use rfl (hN.2.2 _ (List.mem_of_getElem? (i := 2) rfl))) hq1 hq2 hq3 ?_
    refine lv_astore (lv' := [(4, .ref qe), (0, .ref hT), (1, .int (nI q)), (2, .int r), (3, .ref hX)]) hx hb dL_vote_21 hl (by decide) rfl (fun ls hl => ?_)
    refine lv_iconst (v := 3) hx hb dL_vote_23 (by decide) ?_
    exact mx_iret hx hb hr hlocks hS h9.symm hP dL_vote_24

theorem in_L_closeVote_X1 : ∀ w ∈ wsX10, w ∈ wsL_closeVote := by decide +kernel
set_option maxHeartbeats 2000000 in
set_option maxRecDepth 100000 in
theorem c_L_closeVote (l : Launch) (D : va_G) (cI cZ cJ : ClassId) (sz : Nat) (hT : Nat) (hB : Nat) (hV : Nat) (a : Nat → Int32) (v : Nat → Int32) (hX : Nat) (ot : Nat → Int64) (n : Nat) (hn : a 2 = nI n) (hn8 : n ≤ 8) (h1 : a 0 = 1) : Mi l D cI cZ cJ yL_closeVote wsL_closeVote 3 71 sz [.ref hT, .ref hX] [cT hT hB hV a, cA cI hV 8 v, cL cJ hX 1 ot] [cT hT hB hV (aYv a (xBM v n).1), cA cI hV 8 (iUp vM v 8), cL cJ hX 1 (vp_updL ot 0 ((xBM v n).1).toInt64)] (0) := by
  refine mi_ofH (by decide) rfl (Nat.le_of_ble_eq_true rfl) (fun p e s m below meth c ls A hx hb hr hml hts hown hlocks hP hK hN hD hA hS hl => ?_)
  have hl : lv_has ls 3 [(0, .ref hT), (1, .ref hX)] := hl
  refine lv_aload_n hx hb dL_closeVote_0 rfl (lv_at hl 1 rfl) ?_
  refine lv_iconst (v := 0) hx hb dL_closeVote_1 (by decide) ?_
  refine lv_aload_n hx hb dL_closeVote_2 rfl (lv_at hl 0 rfl) ?_
  refine mi_V (b := hT) (As := []) (rest := [.int 0, .ref hX]) (W2 := [cT hT hB hV (aYv a (xBM v n).1), cA cI hV 8 (iUp vM v 8), cL cJ hX 1 ot]) ⟨hx, hb, hml, hown, hts⟩ (c_X1_closeVote l D cI cZ cJ _ hT hB hV a v n hn hn8 h1) (cwV 0 hts gL_closeVote_X1_closeVote rfl rfl rfl (by decide +kernel) ⟨Nat.le_of_ble_eq_true rfl, Nat.le_of_ble_eq_true rfl⟩) hP hD hK hN hS hA (va_recv hK hP (ci := 1) (q0 := 0) rfl rfl) rfl hl.1 rfl (Nat.le_of_ble_eq_true rfl) dL_closeVote_3 ⟨Nat.le_of_ble_eq_true rfl, Nat.le_of_ble_eq_true rfl⟩ [0, 1] [2] rfl rfl rfl (by intro i hi; simp only [List.mem_cons, List.not_mem_nil, or_false] at hi; rcases hi with rfl <;> rfl) rfl 3 rfl (by decide) (by decide) (fun H locs hP hD hS => ?_)
  refine lv_i2l (v := (((xBM v n).1)).toInt64) hx hb dL_closeVote_6 rfl ?_
  refine q_last (D := D) hx hb hK hP hD hS 2 2 rfl rfl dL_closeVote_7 (fun H locs hP hD hS => ?_)
  have hP : va_P D vwCl [cT hT hB hV (aYv a (xBM v n).1), cA cI hV 8 (iUp vM v 8), cL cJ hX 1 (vp_updL ot 0 ((((xBM v n).1)).toInt64))] H := hP
  have hD : va_D A [cT hT hB hV (aYv a (xBM v n).1), cA cI hV 8 (iUp vM v 8), cL cJ hX 1 (vp_updL ot 0 ((((xBM v n).1)).toInt64))] := hD
  refine lv_goto (tgt := 14) hx hb dL_closeVote_8 (by decide) ?_
  refine lv_iconst (v := 0) hx hb dL_closeVote_14 (by decide) ?_
  have hP9 : va_P D vwCl [cT hT hB hV (aYv a (xBM v n).1), cA cI hV 8 (iUp vM v 8), cL cJ hX 1 (vp_updL ot 0 ((xBM v n).1).toInt64)] H := by
    have e9_0 : (vp_updL ot 0 ((xBM v n).1).toInt64) = (vp_updL ot 0 ((((xBM v n).1)).toInt64)) := by (first | rfl | (simp only [bI]; rfl))
    rw [e9_0]
    exact hP
  exact mi_iret hx hb hr hlocks hS (by rfl) hP9 dL_closeVote_15

set_option maxHeartbeats 2000000 in
set_option maxRecDepth 100000 in
theorem f_L_closeVote (l : Launch) (D : va_G) (cI cZ cJ : ClassId) (sz : Nat) (hst : l.stackTraces = false) (hT : Nat) (hB : Nat) (hV : Nat) (a : Nat → Int32) (hX : Nat) (ot : Nat → Int64) (hk : ¬ kYh a 1 = 0) : Mx l D cI cZ cJ yL_closeVote wsL_closeVote 8 132 sz [.ref hT, .ref hX] [cT hT hB hV a, cL cJ hX 1 ot] (kYh a 1) := by
  refine mx_ofH (by decide) rfl (Nat.le_of_ble_eq_true rfl) (fun p e s m below meth c ls A hx hb hr hml hts hown hlocks htab hP hK hN hD hA hS hZ hY hX hl => ?_)
  have hl : lv_has ls 3 [(0, .ref hT), (1, .ref hX)] := hl
  refine lv_aload_n hx hb dL_closeVote_0 rfl (lv_at hl 1 rfl) ?_
  refine lv_iconst (v := 0) hx hb dL_closeVote_1 (by decide) ?_
  refine lv_aload_n hx hb dL_closeVote_2 rfl (lv_at hl 0 rfl) ?_
  refine xc_V (b := hT) (As := []) (rest := [.int 0, .ref hX]) ⟨hx, hb, hml, hown, hts⟩ (t_X1_closeVote l D cI cZ cJ _ hst hT hB hV a hk) (cwV 0 hts gL_closeVote_X1_closeVote rfl rfl rfl (by decide +kernel) ⟨Nat.le_of_ble_eq_true rfl, Nat.le_of_ble_eq_true rfl⟩) hP hD hK hN hY hS hA hZ (va_recv hK hP (ci := 1) (q0 := 0) rfl rfl) rfl hl.1 rfl (Nat.le_of_ble_eq_true rfl) dL_closeVote_3 ⟨Nat.le_of_ble_eq_true rfl, Nat.le_of_ble_eq_true rfl⟩ [0] [1] rfl rfl 2 rfl (by decide) (by decide) (fun H locs qe ce hP hD hS hq1 hq2 hq3 => ?_)
  have hv9 : kYh a 1 = 0 ∨ kYh a 1 = 1 := kYh_in _ _
  rcases hv9 with h9 | h9
  · exact absurd h9 hk
  · rw [h9] at hq3
    refine vx_catch (E := "java/lang/IllegalStateException") (name := "java/lang/IllegalStateException") hown [] ⟨0, 8, 11, 19⟩ [] htab (fun _ h => nomatch h) (by decide) (by decide) (hts (.classLink RL 19 "java/lang/IllegalStateException") (List.mem_of_getElem? (i := 1) rfl)) (va_Nw.use rfl (hN.2.2 _ (List.mem_of_getElem? (i := 0) rfl))) hq1 hq2 hq3 ?_
    refine lv_astore_n (lv' := [(2, .ref qe), (0, .ref hT), (1, .ref hX)]) hx hb dL_closeVote_11 rfl hl (by decide) rfl (fun ls hl => ?_)
    refine lv_iconst (v := 1) hx hb dL_closeVote_12 (by decide) ?_
    exact mx_iret hx hb hr hlocks hS h9.symm hP dL_closeVote_13

theorem in_L_protect_X1 : ∀ w ∈ wsX10, w ∈ wsL_protect := by decide +kernel
set_option maxHeartbeats 2000000 in
set_option maxRecDepth 100000 in
theorem c_L_protect (l : Launch) (D : va_G) (cI cZ cJ : ClassId) (sz : Nat) (hT : Nat) (hB : Nat) (hV : Nat) (a : Nat → Int32) (hX : Nat) (ot : Nat → Int64) (q : Int32) (h1 : a 0 = 2) (h2 : yIn (a 6) (a 5) = true) (h3 : yPl a q = true) (h4 : yIn (a 6) q = true) (h5 : ¬ q = a 11) : Mi l D cI cZ cJ yL_protect wsL_protect 4 84 sz [.ref hT, .int q, .ref hX] [cT hT hB hV a, cL cJ hX 1 ot] [cT hT hB hV (upd a 8 q), cL cJ hX 1 (vp_updL ot 0 (a 8).toInt64)] (0) := by
  refine mi_ofH (by decide) rfl (Nat.le_of_ble_eq_true rfl) (fun p e s m below meth c ls A hx hb hr hml hts hown hlocks hP hK hN hD hA hS hl => ?_)
  have hl : lv_has ls 4 [(0, .ref hT), (1, .int q), (2, .ref hX)] := hl
  refine lv_aload_n hx hb dL_protect_0 rfl (lv_at hl 2 rfl) ?_
  refine lv_iconst (v := 0) hx hb dL_protect_1 (by decide) ?_
  refine lv_aload_n hx hb dL_protect_2 rfl (lv_at hl 0 rfl) ?_
  refine lv_iload_n hx hb dL_protect_3 rfl (lv_at hl 1 rfl) ?_
  refine mi_V (b := hT) (As := [.int q]) (rest := [.int 0, .ref hX]) (W2 := [cT hT hB hV (upd a 8 q), cL cJ hX 1 ot]) ⟨hx, hb, hml, hown, hts⟩ (c_X1_protect l D cI cZ cJ _ hT hB hV a q h1 h2 h3 h4 h5) (cwV 1 hts gL_protect_X1_protect rfl rfl rfl (by decide +kernel) ⟨Nat.le_of_ble_eq_true rfl, Nat.le_of_ble_eq_true rfl⟩) hP hD hK hN hS hA (va_recv hK hP (ci := 1) (q0 := 0) rfl rfl) rfl hl.1 rfl (Nat.le_of_ble_eq_true rfl) dL_protect_4 ⟨Nat.le_of_ble_eq_true rfl, Nat.le_of_ble_eq_true rfl⟩ [0] [1] rfl rfl rfl (by intro i hi; simp only [List.mem_cons, List.not_mem_nil, or_false] at hi; rcases hi with rfl <;> rfl) rfl 2 rfl (by decide) (by decide) (fun H locs hP hD hS => ?_)
  refine lv_i2l (v := ((a 8)).toInt64) hx hb dL_protect_7 rfl ?_
  refine q_last (D := D) hx hb hK hP hD hS 1 2 rfl rfl dL_protect_8 (fun H locs hP hD hS => ?_)
  have hP : va_P D vwCl [cT hT hB hV (upd a 8 q), cL cJ hX 1 (vp_updL ot 0 (((a 8)).toInt64))] H := hP
  have hD : va_D A [cT hT hB hV (upd a 8 q), cL cJ hX 1 (vp_updL ot 0 (((a 8)).toInt64))] := hD
  refine lv_goto (tgt := 21) hx hb dL_protect_9 (by decide) ?_
  refine lv_iconst (v := 0) hx hb dL_protect_21 (by decide) ?_
  have hP9 : va_P D vwCl [cT hT hB hV (upd a 8 q), cL cJ hX 1 (vp_updL ot 0 (a 8).toInt64)] H := by
    have e9_0 : (vp_updL ot 0 (a 8).toInt64) = (vp_updL ot 0 (((a 8)).toInt64)) := by (first | rfl | (simp only [bI]; rfl))
    rw [e9_0]
    exact hP
  exact mi_iret hx hb hr hlocks hS (by rfl) hP9 dL_protect_22

set_option maxHeartbeats 2000000 in
set_option maxRecDepth 100000 in
theorem f_L_protect (l : Launch) (D : va_G) (cI cZ cJ : ClassId) (sz : Nat) (hst : l.stackTraces = false) (hT : Nat) (hB : Nat) (hV : Nat) (a : Nat → Int32) (hX : Nat) (ot : Nat → Int64) (q : Int32) (hk : ¬ kYp a q = 0) : Mx l D cI cZ cJ yL_protect wsL_protect 8 133 sz [.ref hT, .int q, .ref hX] [cT hT hB hV a, cL cJ hX 1 ot] (kYp a q) := by
  refine mx_ofH (by decide) rfl (Nat.le_of_ble_eq_true rfl) (fun p e s m below meth c ls A hx hb hr hml hts hown hlocks htab hP hK hN hD hA hS hZ hY hX hl => ?_)
  have hl : lv_has ls 4 [(0, .ref hT), (1, .int q), (2, .ref hX)] := hl
  refine lv_aload_n hx hb dL_protect_0 rfl (lv_at hl 2 rfl) ?_
  refine lv_iconst (v := 0) hx hb dL_protect_1 (by decide) ?_
  refine lv_aload_n hx hb dL_protect_2 rfl (lv_at hl 0 rfl) ?_
  refine lv_iload_n hx hb dL_protect_3 rfl (lv_at hl 1 rfl) ?_
  refine xc_V (b := hT) (As := [.int q]) (rest := [.int 0, .ref hX]) ⟨hx, hb, hml, hown, hts⟩ (t_X1_protect l D cI cZ cJ _ hst hT hB hV a q hk) (cwV 1 hts gL_protect_X1_protect rfl rfl rfl (by decide +kernel) ⟨Nat.le_of_ble_eq_true rfl, Nat.le_of_ble_eq_true rfl⟩) hP hD hK hN hY hS hA hZ (va_recv hK hP (ci := 1) (q0 := 0) rfl rfl) rfl hl.1 rfl (Nat.le_of_ble_eq_true rfl) dL_protect_4 ⟨Nat.le_of_ble_eq_true rfl, Nat.le_of_ble_eq_true rfl⟩ [0] [1] rfl rfl 2 rfl (by decide) (by decide) (fun H locs qe ce hP hD hS hq1 hq2 hq3 => ?_)
  have hv9 : kYp a q = 0 ∨ kYp a q = 1 ∨ kYp a q = 2 ∨ kYp a q = 3 := kYp_in _ _
  rcases hv9 with h9 | h9 | h9 | h9
  · exact absurd h9 hk
  · rw [h9] at hq3
    refine vx_catch (E := "java/lang/IllegalStateException") (name := "java/lang/IllegalStateException") hown [] ⟨0, 9, 12, 19⟩ [⟨0, 9, 15, 21⟩, ⟨0, 9, 18, 13⟩] htab (fun _ h => nomatch h) (by decide) (by decide) (hts (.classLink RL 19 "java/lang/IllegalStateException") (List.mem_of_getElem? (i := 1) rfl)) (va_Nw.use rfl (hN.2.2 _ (List.mem_of_getElem? (i := 0) rfl))) hq1 hq2 hq3 ?_
    refine lv_astore_n (lv' := [(3, .ref qe), (0, .ref hT), (1, .int q), (2, .ref hX)]) hx hb dL_protect_12 rfl hl (by decide) rfl (fun ls hl => ?_)
    refine lv_iconst (v := 1) hx hb dL_protect_13 (by decide) ?_
    exact mx_iret hx hb hr hlocks hS h9.symm hP dL_protect_14
  · rw [h9] at hq3
    refine vx_catch (E := "java/lang/IndexOutOfBoundsException") (name := "java/lang/IndexOutOfBoundsException") hown [⟨0, 9, 12, 19⟩] ⟨0, 9, 15, 21⟩ [⟨0, 9, 18, 13⟩] htab (List.forall_mem_cons.mpr ⟨Or.inr ⟨by decide, "java/lang/IllegalStateException", (hts (.classLink RL 19 "java/lang/IllegalStateException") (List.mem_of_getElem? (i := 1) rfl)), hX.at 3 rfl⟩, (fun _ h => nomatch h)⟩) (by decide) (by decide) (hts (.classLink RL 21 "java/lang/IndexOutOfBoundsException") (List.mem_of_getElem? (i := 2) rfl)) (va_Nw.use rfl (hN.2.2 _ (List.mem_of_getElem? (i := 1) rfl))) hq1 hq2 hq3 ?_
    refine lv_astore_n (lv' := [(3, .ref qe), (0, .ref hT), (1, .int q), (2, .ref hX)]) hx hb dL_protect_15 rfl hl (by decide) rfl (fun ls hl => ?_)
    refine lv_iconst (v := 2) hx hb dL_protect_16 (by decide) ?_
    exact mx_iret hx hb hr hlocks hS h9.symm hP dL_protect_17
  · rw [h9] at hq3
    refine vx_catch (E := "java/lang/IllegalArgumentException") (name := "java/lang/IllegalArgumentException") hown [⟨0, 9, 12, 19⟩, ⟨0, 9, 15, 21⟩] ⟨0, 9, 18, 13⟩ [] htab (List.forall_mem_cons.mpr ⟨Or.inr ⟨by decide, "java/lang/IllegalStateException", (hts (.classLink RL 19 "java/lang/IllegalStateException") (List.mem_of_getElem? (i := 1) rfl)), hX.at 6 rfl⟩, (List.forall_mem_cons.mpr ⟨Or.inr ⟨by decide, "java/lang/IndexOutOfBoundsException", (hts (.classLink RL 21 "java/lang/IndexOutOfBoundsException") (List.mem_of_getElem? (i := 2) rfl)), hX.at 7 rfl⟩, (fun _ h => nomatch h)⟩)⟩) (by decide) (by decide) (hts (.classLink RL 13 "java/lang/IllegalArgumentException") (List.mem_of_getElem? (i := 3) rfl)) (va_Nw.use rfl (hN.2.2 _ (List.mem_of_getElem? (i := 2) rfl))) hq1 hq2 hq3 ?_
    refine lv_astore_n (lv' := [(3, .ref qe), (0, .ref hT), (1, .int q), (2, .ref hX)]) hx hb dL_protect_18 rfl hl (by decide) rfl (fun ls hl => ?_)
    refine lv_iconst (v := 3) hx hb dL_protect_19 (by decide) ?_
    exact mx_iret hx hb hr hlocks hS h9.symm hP dL_protect_20

theorem in_L_attack_X1 : ∀ w ∈ wsX10, w ∈ wsL_attack := by decide +kernel
set_option maxHeartbeats 2000000 in
set_option maxRecDepth 100000 in
theorem c_L_attack (l : Launch) (D : va_G) (cI cZ cJ : ClassId) (sz : Nat) (hT : Nat) (hB : Nat) (hV : Nat) (a : Nat → Int32) (hX : Nat) (ot : Nat → Int64) (q : Int32) (h1 : a 0 = 2) (h3 : yPl a q = true) (h4 : yIn (a 6) q = true) (h5 : yIn (a 3) q = false) : Mi l D cI cZ cJ yL_attack wsL_attack 3 63 sz [.ref hT, .int q, .ref hX] [cT hT hB hV a, cL cJ hX 1 ot] [cT hT hB hV (upd a 9 q), cL cJ hX 1 (vp_updL ot 0 (a 9).toInt64)] (0) := by
  refine mi_ofH (by decide) rfl (Nat.le_of_ble_eq_true rfl) (fun p e s m below meth c ls A hx hb hr hml hts hown hlocks hP hK hN hD hA hS hl => ?_)
  have hl : lv_has ls 4 [(0, .ref hT), (1, .int q), (2, .ref hX)] := hl
  refine lv_aload_n hx hb dL_attack_0 rfl (lv_at hl 2 rfl) ?_
  refine lv_iconst (v := 0) hx hb dL_attack_1 (by decide) ?_
  refine lv_aload_n hx hb dL_attack_2 rfl (lv_at hl 0 rfl) ?_
  refine lv_iload_n hx hb dL_attack_3 rfl (lv_at hl 1 rfl) ?_
  refine mi_V (b := hT) (As := [.int q]) (rest := [.int 0, .ref hX]) (W2 := [cT hT hB hV (upd a 9 q), cL cJ hX 1 ot]) ⟨hx, hb, hml, hown, hts⟩ (c_X1_attack l D cI cZ cJ _ hT hB hV a q h1 h3 h4 h5) (cwV 1 hts gL_attack_X1_attack rfl rfl rfl (by decide +kernel) ⟨Nat.le_of_ble_eq_true rfl, Nat.le_of_ble_eq_true rfl⟩) hP hD hK hN hS hA (va_recv hK hP (ci := 1) (q0 := 0) rfl rfl) rfl hl.1 rfl (Nat.le_of_ble_eq_true rfl) dL_attack_4 ⟨Nat.le_of_ble_eq_true rfl, Nat.le_of_ble_eq_true rfl⟩ [0] [1] rfl rfl rfl (by intro i hi; simp only [List.mem_cons, List.not_mem_nil, or_false] at hi; rcases hi with rfl <;> rfl) rfl 2 rfl (by decide) (by decide) (fun H locs hP hD hS => ?_)
  refine lv_i2l (v := ((a 9)).toInt64) hx hb dL_attack_7 rfl ?_
  refine q_last (D := D) hx hb hK hP hD hS 1 2 rfl rfl dL_attack_8 (fun H locs hP hD hS => ?_)
  have hP : va_P D vwCl [cT hT hB hV (upd a 9 q), cL cJ hX 1 (vp_updL ot 0 (((a 9)).toInt64))] H := hP
  have hD : va_D A [cT hT hB hV (upd a 9 q), cL cJ hX 1 (vp_updL ot 0 (((a 9)).toInt64))] := hD
  refine lv_goto (tgt := 21) hx hb dL_attack_9 (by decide) ?_
  refine lv_iconst (v := 0) hx hb dL_attack_21 (by decide) ?_
  have hP9 : va_P D vwCl [cT hT hB hV (upd a 9 q), cL cJ hX 1 (vp_updL ot 0 (a 9).toInt64)] H := by
    have e9_0 : (vp_updL ot 0 (a 9).toInt64) = (vp_updL ot 0 (((a 9)).toInt64)) := by (first | rfl | (simp only [bI]; rfl))
    rw [e9_0]
    exact hP
  exact mi_iret hx hb hr hlocks hS (by rfl) hP9 dL_attack_22

set_option maxHeartbeats 2000000 in
set_option maxRecDepth 100000 in
theorem f_L_attack (l : Launch) (D : va_G) (cI cZ cJ : ClassId) (sz : Nat) (hst : l.stackTraces = false) (hT : Nat) (hB : Nat) (hV : Nat) (a : Nat → Int32) (hX : Nat) (ot : Nat → Int64) (q : Int32) (hk : ¬ kYt a q = 0) : Mx l D cI cZ cJ yL_attack wsL_attack 8 133 sz [.ref hT, .int q, .ref hX] [cT hT hB hV a, cL cJ hX 1 ot] (kYt a q) := by
  refine mx_ofH (by decide) rfl (Nat.le_of_ble_eq_true rfl) (fun p e s m below meth c ls A hx hb hr hml hts hown hlocks htab hP hK hN hD hA hS hZ hY hX hl => ?_)
  have hl : lv_has ls 4 [(0, .ref hT), (1, .int q), (2, .ref hX)] := hl
  refine lv_aload_n hx hb dL_attack_0 rfl (lv_at hl 2 rfl) ?_
  refine lv_iconst (v := 0) hx hb dL_attack_1 (by decide) ?_
  refine lv_aload_n hx hb dL_attack_2 rfl (lv_at hl 0 rfl) ?_
  refine lv_iload_n hx hb dL_attack_3 rfl (lv_at hl 1 rfl) ?_
  refine xc_V (b := hT) (As := [.int q]) (rest := [.int 0, .ref hX]) ⟨hx, hb, hml, hown, hts⟩ (t_X1_attack l D cI cZ cJ _ hst hT hB hV a q hk) (cwV 1 hts gL_attack_X1_attack rfl rfl rfl (by decide +kernel) ⟨Nat.le_of_ble_eq_true rfl, Nat.le_of_ble_eq_true rfl⟩) hP hD hK hN hY hS hA hZ (va_recv hK hP (ci := 1) (q0 := 0) rfl rfl) rfl hl.1 rfl (Nat.le_of_ble_eq_true rfl) dL_attack_4 ⟨Nat.le_of_ble_eq_true rfl, Nat.le_of_ble_eq_true rfl⟩ [0] [1] rfl rfl 2 rfl (by decide) (by decide) (fun H locs qe ce hP hD hS hq1 hq2 hq3 => ?_)
  have hv9 : kYt a q = 0 ∨ kYt a q = 1 ∨ kYt a q = 2 ∨ kYt a q = 3 := kYt_in _ _
  rcases hv9 with h9 | h9 | h9 | h9
  · exact absurd h9 hk
  · rw [h9] at hq3
    refine vx_catch (E := "java/lang/IllegalStateException") (name := "java/lang/IllegalStateException") hown [] ⟨0, 9, 12, 19⟩ [⟨0, 9, 15, 21⟩, ⟨0, 9, 18, 13⟩] htab (fun _ h => nomatch h) (by decide) (by decide) (hts (.classLink RL 19 "java/lang/IllegalStateException") (List.mem_of_getElem? (i := 1) rfl)) (va_Nw.use rfl (hN.2.2 _ (List.mem_of_getElem? (i := 0) rfl))) hq1 hq2 hq3 ?_
    refine lv_astore_n (lv' := [(3, .ref qe), (0, .ref hT), (1, .int q), (2, .ref hX)]) hx hb dL_attack_12 rfl hl (by decide) rfl (fun ls hl => ?_)
    refine lv_iconst (v := 1) hx hb dL_attack_13 (by decide) ?_
    exact mx_iret hx hb hr hlocks hS h9.symm hP dL_attack_14
  · rw [h9] at hq3
    refine vx_catch (E := "java/lang/IndexOutOfBoundsException") (name := "java/lang/IndexOutOfBoundsException") hown [⟨0, 9, 12, 19⟩] ⟨0, 9, 15, 21⟩ [⟨0, 9, 18, 13⟩] htab (List.forall_mem_cons.mpr ⟨Or.inr ⟨by decide, "java/lang/IllegalStateException", (hts (.classLink RL 19 "java/lang/IllegalStateException") (List.mem_of_getElem? (i := 1) rfl)), hX.at 3 rfl⟩, (fun _ h => nomatch h)⟩) (by decide) (by decide) (hts (.classLink RL 21 "java/lang/IndexOutOfBoundsException") (List.mem_of_getElem? (i := 2) rfl)) (va_Nw.use rfl (hN.2.2 _ (List.mem_of_getElem? (i := 1) rfl))) hq1 hq2 hq3 ?_
    refine lv_astore_n (lv' := [(3, .ref qe), (0, .ref hT), (1, .int q), (2, .ref hX)]) hx hb dL_attack_15 rfl hl (by decide) rfl (fun ls hl => ?_)
    refine lv_iconst (v := 2) hx hb dL_attack_16 (by decide) ?_
    exact mx_iret hx hb hr hlocks hS h9.symm hP dL_attack_17
  · rw [h9] at hq3
    refine vx_catch (E := "java/lang/IllegalArgumentException") (name := "java/lang/IllegalArgumentException") hown [⟨0, 9, 12, 19⟩, ⟨0, 9, 15, 21⟩] ⟨0, 9, 18, 13⟩ [] htab (List.forall_mem_cons.mpr ⟨Or.inr ⟨by decide, "java/lang/IllegalStateException", (hts (.classLink RL 19 "java/lang/IllegalStateException") (List.mem_of_getElem? (i := 1) rfl)), hX.at 6 rfl⟩, (List.forall_mem_cons.mpr ⟨Or.inr ⟨by decide, "java/lang/IndexOutOfBoundsException", (hts (.classLink RL 21 "java/lang/IndexOutOfBoundsException") (List.mem_of_getElem? (i := 2) rfl)), hX.at 7 rfl⟩, (fun _ h => nomatch h)⟩)⟩) (by decide) (by decide) (hts (.classLink RL 13 "java/lang/IllegalArgumentException") (List.mem_of_getElem? (i := 3) rfl)) (va_Nw.use rfl (hN.2.2 _ (List.mem_of_getElem? (i := 2) rfl))) hq1 hq2 hq3 ?_
    refine lv_astore_n (lv' := [(3, .ref qe), (0, .ref hT), (1, .int q), (2, .ref hX)]) hx hb dL_attack_18 rfl hl (by decide) rfl (fun ls hl => ?_)
    refine lv_iconst (v := 3) hx hb dL_attack_19 (by decide) ?_
    exact mx_iret hx hb hr hlocks hS h9.symm hP dL_attack_20

theorem in_L_look_X1 : ∀ w ∈ wsX10, w ∈ wsL_look := by decide +kernel
set_option maxHeartbeats 2000000 in
set_option maxRecDepth 100000 in
theorem c_L_look (l : Launch) (D : va_G) (cI cZ cJ : ClassId) (sz : Nat) (hT : Nat) (hB : Nat) (hV : Nat) (a : Nat → Int32) (hX : Nat) (ot : Nat → Int64) (q : Int32) (h1 : a 0 = 2) (h2 : yIn (a 6) (a 4) = true) (h3 : yPl a q = true) (h4 : yIn (a 6) q = true) (h5 : ¬ q = a 4) : Mi l D cI cZ cJ yL_look wsL_look 4 84 sz [.ref hT, .int q, .ref hX] [cT hT hB hV a, cL cJ hX 1 ot] [cT hT hB hV (upd a 10 q), cL cJ hX 1 (vp_updL ot 0 (a 10).toInt64)] (0) := by
  refine mi_ofH (by decide) rfl (Nat.le_of_ble_eq_true rfl) (fun p e s m below meth c ls A hx hb hr hml hts hown hlocks hP hK hN hD hA hS hl => ?_)
  have hl : lv_has ls 4 [(0, .ref hT), (1, .int q), (2, .ref hX)] := hl
  refine lv_aload_n hx hb dL_look_0 rfl (lv_at hl 2 rfl) ?_
  refine lv_iconst (v := 0) hx hb dL_look_1 (by decide) ?_
  refine lv_aload_n hx hb dL_look_2 rfl (lv_at hl 0 rfl) ?_
  refine lv_iload_n hx hb dL_look_3 rfl (lv_at hl 1 rfl) ?_
  refine mi_V (b := hT) (As := [.int q]) (rest := [.int 0, .ref hX]) (W2 := [cT hT hB hV (upd a 10 q), cL cJ hX 1 ot]) ⟨hx, hb, hml, hown, hts⟩ (c_X1_look l D cI cZ cJ _ hT hB hV a q h1 h2 h3 h4 h5) (cwV 1 hts gL_look_X1_look rfl rfl rfl (by decide +kernel) ⟨Nat.le_of_ble_eq_true rfl, Nat.le_of_ble_eq_true rfl⟩) hP hD hK hN hS hA (va_recv hK hP (ci := 1) (q0 := 0) rfl rfl) rfl hl.1 rfl (Nat.le_of_ble_eq_true rfl) dL_look_4 ⟨Nat.le_of_ble_eq_true rfl, Nat.le_of_ble_eq_true rfl⟩ [0] [1] rfl rfl rfl (by intro i hi; simp only [List.mem_cons, List.not_mem_nil, or_false] at hi; rcases hi with rfl <;> rfl) rfl 2 rfl (by decide) (by decide) (fun H locs hP hD hS => ?_)
  refine lv_i2l (v := ((a 10)).toInt64) hx hb dL_look_7 rfl ?_
  refine q_last (D := D) hx hb hK hP hD hS 1 2 rfl rfl dL_look_8 (fun H locs hP hD hS => ?_)
  have hP : va_P D vwCl [cT hT hB hV (upd a 10 q), cL cJ hX 1 (vp_updL ot 0 (((a 10)).toInt64))] H := hP
  have hD : va_D A [cT hT hB hV (upd a 10 q), cL cJ hX 1 (vp_updL ot 0 (((a 10)).toInt64))] := hD
  refine lv_goto (tgt := 21) hx hb dL_look_9 (by decide) ?_
  refine lv_iconst (v := 0) hx hb dL_look_21 (by decide) ?_
  have hP9 : va_P D vwCl [cT hT hB hV (upd a 10 q), cL cJ hX 1 (vp_updL ot 0 (a 10).toInt64)] H := by
    have e9_0 : (vp_updL ot 0 (a 10).toInt64) = (vp_updL ot 0 (((a 10)).toInt64)) := by (first | rfl | (simp only [bI]; rfl))
    rw [e9_0]
    exact hP
  exact mi_iret hx hb hr hlocks hS (by rfl) hP9 dL_look_22

set_option maxHeartbeats 2000000 in
set_option maxRecDepth 100000 in
theorem f_L_look (l : Launch) (D : va_G) (cI cZ cJ : ClassId) (sz : Nat) (hst : l.stackTraces = false) (hT : Nat) (hB : Nat) (hV : Nat) (a : Nat → Int32) (hX : Nat) (ot : Nat → Int64) (q : Int32) (hk : ¬ kYl a q = 0) : Mx l D cI cZ cJ yL_look wsL_look 8 133 sz [.ref hT, .int q, .ref hX] [cT hT hB hV a, cL cJ hX 1 ot] (kYl a q) := by
  refine mx_ofH (by decide) rfl (Nat.le_of_ble_eq_true rfl) (fun p e s m below meth c ls A hx hb hr hml hts hown hlocks htab hP hK hN hD hA hS hZ hY hX hl => ?_)
  have hl : lv_has ls 4 [(0, .ref hT), (1, .int q), (2, .ref hX)] := hl
  refine lv_aload_n hx hb dL_look_0 rfl (lv_at hl 2 rfl) ?_
  refine lv_iconst (v := 0) hx hb dL_look_1 (by decide) ?_
  refine lv_aload_n hx hb dL_look_2 rfl (lv_at hl 0 rfl) ?_
  refine lv_iload_n hx hb dL_look_3 rfl (lv_at hl 1 rfl) ?_
  refine xc_V (b := hT) (As := [.int q]) (rest := [.int 0, .ref hX]) ⟨hx, hb, hml, hown, hts⟩ (t_X1_look l D cI cZ cJ _ hst hT hB hV a q hk) (cwV 1 hts gL_look_X1_look rfl rfl rfl (by decide +kernel) ⟨Nat.le_of_ble_eq_true rfl, Nat.le_of_ble_eq_true rfl⟩) hP hD hK hN hY hS hA hZ (va_recv hK hP (ci := 1) (q0 := 0) rfl rfl) rfl hl.1 rfl (Nat.le_of_ble_eq_true rfl) dL_look_4 ⟨Nat.le_of_ble_eq_true rfl, Nat.le_of_ble_eq_true rfl⟩ [0] [1] rfl rfl 2 rfl (by decide) (by decide) (fun H locs qe ce hP hD hS hq1 hq2 hq3 => ?_)
  have hv9 : kYl a q = 0 ∨ kYl a q = 1 ∨ kYl a q = 2 ∨ kYl a q = 3 := kYl_in _ _
  rcases hv9 with h9 | h9 | h9 | h9
  · exact absurd h9 hk
  · rw [h9] at hq3
    refine vx_catch (E := "java/lang/IllegalStateException") (name := "java/lang/IllegalStateException") hown [] ⟨0, 9, 12, 19⟩ [⟨0, 9, 15, 21⟩, ⟨0, 9, 18, 13⟩] htab (fun _ h => nomatch h) (by decide) (by decide) (hts (.classLink RL 19 "java/lang/IllegalStateException") (List.mem_of_getElem? (i := 1) rfl)) (va_Nw.use rfl (hN.2.2 _ (List.mem_of_getElem? (i := 0) rfl))) hq1 hq2 hq3 ?_
    refine lv_astore_n (lv' := [(3, .ref qe), (0, .ref hT), (1, .int q), (2, .ref hX)]) hx hb dL_look_12 rfl hl (by decide) rfl (fun ls hl => ?_)
    refine lv_iconst (v := 1) hx hb dL_look_13 (by decide) ?_
    exact mx_iret hx hb hr hlocks hS h9.symm hP dL_look_14
  · rw [h9] at hq3
    refine vx_catch (E := "java/lang/IndexOutOfBoundsException") (name := "java/lang/IndexOutOfBoundsException") hown [⟨0, 9, 12, 19⟩] ⟨0, 9, 15, 21⟩ [⟨0, 9, 18, 13⟩] htab (List.forall_mem_cons.mpr ⟨Or.inr ⟨by decide, "java/lang/IllegalStateException", (hts (.classLink RL 19 "java/lang/IllegalStateException") (List.mem_of_getElem? (i := 1) rfl)), hX.at 3 rfl⟩, (fun _ h => nomatch h)⟩) (by decide) (by decide) (hts (.classLink RL 21 "java/lang/IndexOutOfBoundsException") (List.mem_of_getElem? (i := 2) rfl)) (va_Nw.use rfl (hN.2.2 _ (List.mem_of_getElem? (i := 1) rfl))) hq1 hq2 hq3 ?_
    refine lv_astore_n (lv' := [(3, .ref qe), (0, .ref hT), (1, .int q), (2, .ref hX)]) hx hb dL_look_15 rfl hl (by decide) rfl (fun ls hl => ?_)
    refine lv_iconst (v := 2) hx hb dL_look_16 (by decide) ?_
    exact mx_iret hx hb hr hlocks hS h9.symm hP dL_look_17
  · rw [h9] at hq3
    refine vx_catch (E := "java/lang/IllegalArgumentException") (name := "java/lang/IllegalArgumentException") hown [⟨0, 9, 12, 19⟩, ⟨0, 9, 15, 21⟩] ⟨0, 9, 18, 13⟩ [] htab (List.forall_mem_cons.mpr ⟨Or.inr ⟨by decide, "java/lang/IllegalStateException", (hts (.classLink RL 19 "java/lang/IllegalStateException") (List.mem_of_getElem? (i := 1) rfl)), hX.at 6 rfl⟩, (List.forall_mem_cons.mpr ⟨Or.inr ⟨by decide, "java/lang/IndexOutOfBoundsException", (hts (.classLink RL 21 "java/lang/IndexOutOfBoundsException") (List.mem_of_getElem? (i := 2) rfl)), hX.at 7 rfl⟩, (fun _ h => nomatch h)⟩)⟩) (by decide) (by decide) (hts (.classLink RL 13 "java/lang/IllegalArgumentException") (List.mem_of_getElem? (i := 3) rfl)) (va_Nw.use rfl (hN.2.2 _ (List.mem_of_getElem? (i := 2) rfl))) hq1 hq2 hq3 ?_
    refine lv_astore_n (lv' := [(3, .ref qe), (0, .ref hT), (1, .int q), (2, .ref hX)]) hx hb dL_look_18 rfl hl (by decide) rfl (fun ls hl => ?_)
    refine lv_iconst (v := 3) hx hb dL_look_19 (by decide) ?_
    exact mx_iret hx hb hr hlocks hS h9.symm hP dL_look_20

theorem in_L_endNight_X1 : ∀ w ∈ wsX10, w ∈ wsL_endNight := by decide +kernel
set_option maxHeartbeats 2000000 in
set_option maxRecDepth 100000 in
theorem c_L_endNight (l : Launch) (D : va_G) (cI cZ cJ : ClassId) (sz : Nat) (hT : Nat) (hB : Nat) (hV : Nat) (a : Nat → Int32) (hX : Nat) (ot : Nat → Int64) (h1 : a 0 = 2) : Mi l D cI cZ cJ yL_endNight wsL_endNight 4 82 sz [.ref hT, .ref hX] [cT hT hB hV a, cL cJ hX 1 ot] [cT hT hB hV (aYe a), cL cJ hX 1 (vp_updL ot 0 (xDead a).toInt64)] (0) := by
  refine mi_ofH (by decide) rfl (Nat.le_of_ble_eq_true rfl) (fun p e s m below meth c ls A hx hb hr hml hts hown hlocks hP hK hN hD hA hS hl => ?_)
  have hl : lv_has ls 3 [(0, .ref hT), (1, .ref hX)] := hl
  refine lv_aload_n hx hb dL_endNight_0 rfl (lv_at hl 1 rfl) ?_
  refine lv_iconst (v := 0) hx hb dL_endNight_1 (by decide) ?_
  refine lv_aload_n hx hb dL_endNight_2 rfl (lv_at hl 0 rfl) ?_
  refine mi_V (b := hT) (As := []) (rest := [.int 0, .ref hX]) (W2 := [cT hT hB hV (aYe a), cL cJ hX 1 ot]) ⟨hx, hb, hml, hown, hts⟩ (c_X1_endNight l D cI cZ cJ _ hT hB hV a h1) (cwV 0 hts gL_endNight_X1_endNight rfl rfl rfl (by decide +kernel) ⟨Nat.le_of_ble_eq_true rfl, Nat.le_of_ble_eq_true rfl⟩) hP hD hK hN hS hA (va_recv hK hP (ci := 1) (q0 := 0) rfl rfl) rfl hl.1 rfl (Nat.le_of_ble_eq_true rfl) dL_endNight_3 ⟨Nat.le_of_ble_eq_true rfl, Nat.le_of_ble_eq_true rfl⟩ [0] [1] rfl rfl rfl (by intro i hi; simp only [List.mem_cons, List.not_mem_nil, or_false] at hi; rcases hi with rfl <;> rfl) rfl 2 rfl (by decide) (by decide) (fun H locs hP hD hS => ?_)
  refine lv_i2l (v := ((xDead a)).toInt64) hx hb dL_endNight_6 rfl ?_
  refine q_last (D := D) hx hb hK hP hD hS 1 2 rfl rfl dL_endNight_7 (fun H locs hP hD hS => ?_)
  have hP : va_P D vwCl [cT hT hB hV (aYe a), cL cJ hX 1 (vp_updL ot 0 (((xDead a)).toInt64))] H := hP
  have hD : va_D A [cT hT hB hV (aYe a), cL cJ hX 1 (vp_updL ot 0 (((xDead a)).toInt64))] := hD
  refine lv_goto (tgt := 14) hx hb dL_endNight_8 (by decide) ?_
  refine lv_iconst (v := 0) hx hb dL_endNight_14 (by decide) ?_
  have hP9 : va_P D vwCl [cT hT hB hV (aYe a), cL cJ hX 1 (vp_updL ot 0 (xDead a).toInt64)] H := by
    have e9_0 : (vp_updL ot 0 (xDead a).toInt64) = (vp_updL ot 0 (((xDead a)).toInt64)) := by (first | rfl | (simp only [bI]; rfl))
    rw [e9_0]
    exact hP
  exact mi_iret hx hb hr hlocks hS (by rfl) hP9 dL_endNight_15

set_option maxHeartbeats 2000000 in
set_option maxRecDepth 100000 in
theorem f_L_endNight (l : Launch) (D : va_G) (cI cZ cJ : ClassId) (sz : Nat) (hst : l.stackTraces = false) (hT : Nat) (hB : Nat) (hV : Nat) (a : Nat → Int32) (hX : Nat) (ot : Nat → Int64) (hk : ¬ kYh a 2 = 0) : Mx l D cI cZ cJ yL_endNight wsL_endNight 8 132 sz [.ref hT, .ref hX] [cT hT hB hV a, cL cJ hX 1 ot] (kYh a 2) := by
  refine mx_ofH (by decide) rfl (Nat.le_of_ble_eq_true rfl) (fun p e s m below meth c ls A hx hb hr hml hts hown hlocks htab hP hK hN hD hA hS hZ hY hX hl => ?_)
  have hl : lv_has ls 3 [(0, .ref hT), (1, .ref hX)] := hl
  refine lv_aload_n hx hb dL_endNight_0 rfl (lv_at hl 1 rfl) ?_
  refine lv_iconst (v := 0) hx hb dL_endNight_1 (by decide) ?_
  refine lv_aload_n hx hb dL_endNight_2 rfl (lv_at hl 0 rfl) ?_
  refine xc_V (b := hT) (As := []) (rest := [.int 0, .ref hX]) ⟨hx, hb, hml, hown, hts⟩ (t_X1_endNight l D cI cZ cJ _ hst hT hB hV a hk) (cwV 0 hts gL_endNight_X1_endNight rfl rfl rfl (by decide +kernel) ⟨Nat.le_of_ble_eq_true rfl, Nat.le_of_ble_eq_true rfl⟩) hP hD hK hN hY hS hA hZ (va_recv hK hP (ci := 1) (q0 := 0) rfl rfl) rfl hl.1 rfl (Nat.le_of_ble_eq_true rfl) dL_endNight_3 ⟨Nat.le_of_ble_eq_true rfl, Nat.le_of_ble_eq_true rfl⟩ [0] [1] rfl rfl 2 rfl (by decide) (by decide) (fun H locs qe ce hP hD hS hq1 hq2 hq3 => ?_)
  have hv9 : kYh a 2 = 0 ∨ kYh a 2 = 1 := kYh_in _ _
  rcases hv9 with h9 | h9
  · exact absurd h9 hk
  · rw [h9] at hq3
    refine vx_catch (E := "java/lang/IllegalStateException") (name := "java/lang/IllegalStateException") hown [] ⟨0, 8, 11, 19⟩ [] htab (fun _ h => nomatch h) (by decide) (by decide) (hts (.classLink RL 19 "java/lang/IllegalStateException") (List.mem_of_getElem? (i := 1) rfl)) (va_Nw.use rfl (hN.2.2 _ (List.mem_of_getElem? (i := 0) rfl))) hq1 hq2 hq3 ?_
    refine lv_astore_n (lv' := [(2, .ref qe), (0, .ref hT), (1, .ref hX)]) hx hb dL_endNight_11 rfl hl (by decide) rfl (fun ls hl => ?_)
    refine lv_iconst (v := 1) hx hb dL_endNight_12 (by decide) ?_
    exact mx_iret hx hb hr hlocks hS h9.symm hP dL_endNight_13

theorem in_L_day_X1 : ∀ w ∈ wsX10, w ∈ wsL_day := by decide +kernel
set_option maxHeartbeats 2000000 in
set_option maxRecDepth 100000 in
theorem c_L_day (l : Launch) (D : va_G) (cI cZ cJ : ClassId) (sz : Nat) (hT : Nat) (hB : Nat) (hV : Nat) (a : Nat → Int32) (hX : Nat) (ot : Nat → Int64) (h1 : ¬ a 0 = 0) : Mi l D cI cZ cJ yL_day wsL_day 2 40 sz [.ref hT, .ref hX] [cT hT hB hV a, cL cJ hX 1 ot] [cT hT hB hV a, cL cJ hX 1 (vp_updL ot 0 (a 1).toInt64)] (0) := by
  refine mi_ofH (by decide) rfl (Nat.le_of_ble_eq_true rfl) (fun p e s m below meth c ls A hx hb hr hml hts hown hlocks hP hK hN hD hA hS hl => ?_)
  have hl : lv_has ls 3 [(0, .ref hT), (1, .ref hX)] := hl
  refine lv_aload_n hx hb dL_day_0 rfl (lv_at hl 1 rfl) ?_
  refine lv_iconst (v := 0) hx hb dL_day_1 (by decide) ?_
  refine lv_aload_n hx hb dL_day_2 rfl (lv_at hl 0 rfl) ?_
  refine rd_V (b := hT) (As := []) (rest := [.int 0, .ref hX]) ⟨hx, hb, hml, hown, hts⟩ (c_X1_day l D cI cZ cJ hT hB hV a h1) (cwV 0 hts gL_day_X1_day rfl rfl rfl (by decide +kernel) ⟨Nat.le_of_ble_eq_true rfl, Nat.le_of_ble_eq_true rfl⟩) (hP.sub (ws' := [cT hT hB hV a]) [0] rfl) hK hN (va_recv hK hP (ci := 1) (q0 := 0) rfl rfl) rfl hl.1 rfl (Nat.le_of_ble_eq_true rfl) dL_day_3 ⟨Nat.le_of_ble_eq_true rfl, Nat.le_of_ble_eq_true rfl⟩ ?_
  refine lv_i2l (v := ((a 1)).toInt64) hx hb dL_day_6 rfl ?_
  refine q_last (D := D) hx hb hK hP hD hS 1 2 rfl rfl dL_day_7 (fun H locs hP hD hS => ?_)
  have hP : va_P D vwCl [cT hT hB hV a, cL cJ hX 1 (vp_updL ot 0 (((a 1)).toInt64))] H := hP
  have hD : va_D A [cT hT hB hV a, cL cJ hX 1 (vp_updL ot 0 (((a 1)).toInt64))] := hD
  refine lv_goto (tgt := 14) hx hb dL_day_8 (by decide) ?_
  refine lv_iconst (v := 0) hx hb dL_day_14 (by decide) ?_
  have hP9 : va_P D vwCl [cT hT hB hV a, cL cJ hX 1 (vp_updL ot 0 (a 1).toInt64)] H := by
    have e9_0 : (vp_updL ot 0 (a 1).toInt64) = (vp_updL ot 0 (((a 1)).toInt64)) := by (first | rfl | (simp only [bI]; rfl))
    rw [e9_0]
    exact hP
  exact mi_iret hx hb hr hlocks hS (by rfl) hP9 dL_day_15

set_option maxHeartbeats 2000000 in
set_option maxRecDepth 100000 in
theorem f_L_day (l : Launch) (D : va_G) (cI cZ cJ : ClassId) (sz : Nat) (hst : l.stackTraces = false) (hT : Nat) (hB : Nat) (hV : Nat) (a : Nat → Int32) (hX : Nat) (ot : Nat → Int64) (hk : ¬ kYg a = 0) : Mx l D cI cZ cJ yL_day wsL_day 8 130 sz [.ref hT, .ref hX] [cT hT hB hV a, cL cJ hX 1 ot] (kYg a) := by
  refine mx_ofH (by decide) rfl (Nat.le_of_ble_eq_true rfl) (fun p e s m below meth c ls A hx hb hr hml hts hown hlocks htab hP hK hN hD hA hS hZ hY hX hl => ?_)
  have hl : lv_has ls 3 [(0, .ref hT), (1, .ref hX)] := hl
  refine lv_aload_n hx hb dL_day_0 rfl (lv_at hl 1 rfl) ?_
  refine lv_iconst (v := 0) hx hb dL_day_1 (by decide) ?_
  refine lv_aload_n hx hb dL_day_2 rfl (lv_at hl 0 rfl) ?_
  refine xc_V (b := hT) (As := []) (rest := [.int 0, .ref hX]) ⟨hx, hb, hml, hown, hts⟩ (t_X1_day l D cI cZ cJ _ hst hT hB hV a hk) (cwV 0 hts gL_day_X1_day rfl rfl rfl (by decide +kernel) ⟨Nat.le_of_ble_eq_true rfl, Nat.le_of_ble_eq_true rfl⟩) hP hD hK hN hY hS hA hZ (va_recv hK hP (ci := 1) (q0 := 0) rfl rfl) rfl hl.1 rfl (Nat.le_of_ble_eq_true rfl) dL_day_3 ⟨Nat.le_of_ble_eq_true rfl, Nat.le_of_ble_eq_true rfl⟩ [0] [1] rfl rfl 2 rfl (by decide) (by decide) (fun H locs qe ce hP hD hS hq1 hq2 hq3 => ?_)
  have hv9 : kYg a = 0 ∨ kYg a = 1 := kYg_in _
  rcases hv9 with h9 | h9
  · exact absurd h9 hk
  · rw [h9] at hq3
    refine vx_catch (E := "java/lang/IllegalStateException") (name := "java/lang/IllegalStateException") hown [] ⟨0, 8, 11, 19⟩ [] htab (fun _ h => nomatch h) (by decide) (by decide) (hts (.classLink RL 19 "java/lang/IllegalStateException") (List.mem_of_getElem? (i := 1) rfl)) (va_Nw.use rfl (hN.2.2 _ (List.mem_of_getElem? (i := 0) rfl))) hq1 hq2 hq3 ?_
    refine lv_astore_n (lv' := [(2, .ref qe), (0, .ref hT), (1, .ref hX)]) hx hb dL_day_11 rfl hl (by decide) rfl (fun ls hl => ?_)
    refine lv_iconst (v := 1) hx hb dL_day_12 (by decide) ?_
    exact mx_iret hx hb hr hlocks hS h9.symm hP dL_day_13

theorem in_L_alive_X1 : ∀ w ∈ wsX10, w ∈ wsL_alive := by decide +kernel
set_option maxHeartbeats 2000000 in
set_option maxRecDepth 100000 in
theorem c_L_alive (l : Launch) (D : va_G) (cI cZ cJ : ClassId) (sz : Nat) (hT : Nat) (hB : Nat) (hV : Nat) (a : Nat → Int32) (hX : Nat) (ot : Nat → Int64) (h1 : ¬ a 0 = 0) : Mi l D cI cZ cJ yL_alive wsL_alive 2 40 sz [.ref hT, .ref hX] [cT hT hB hV a, cL cJ hX 1 ot] [cT hT hB hV a, cL cJ hX 1 (vp_updL ot 0 (a 6).toInt64)] (0) := by
  refine mi_ofH (by decide) rfl (Nat.le_of_ble_eq_true rfl) (fun p e s m below meth c ls A hx hb hr hml hts hown hlocks hP hK hN hD hA hS hl => ?_)
  have hl : lv_has ls 3 [(0, .ref hT), (1, .ref hX)] := hl
  refine lv_aload_n hx hb dL_alive_0 rfl (lv_at hl 1 rfl) ?_
  refine lv_iconst (v := 0) hx hb dL_alive_1 (by decide) ?_
  refine lv_aload_n hx hb dL_alive_2 rfl (lv_at hl 0 rfl) ?_
  refine rd_V (b := hT) (As := []) (rest := [.int 0, .ref hX]) ⟨hx, hb, hml, hown, hts⟩ (c_X1_alive l D cI cZ cJ hT hB hV a h1) (cwV 0 hts gL_alive_X1_alive rfl rfl rfl (by decide +kernel) ⟨Nat.le_of_ble_eq_true rfl, Nat.le_of_ble_eq_true rfl⟩) (hP.sub (ws' := [cT hT hB hV a]) [0] rfl) hK hN (va_recv hK hP (ci := 1) (q0 := 0) rfl rfl) rfl hl.1 rfl (Nat.le_of_ble_eq_true rfl) dL_alive_3 ⟨Nat.le_of_ble_eq_true rfl, Nat.le_of_ble_eq_true rfl⟩ ?_
  refine lv_i2l (v := ((a 6)).toInt64) hx hb dL_alive_6 rfl ?_
  refine q_last (D := D) hx hb hK hP hD hS 1 2 rfl rfl dL_alive_7 (fun H locs hP hD hS => ?_)
  have hP : va_P D vwCl [cT hT hB hV a, cL cJ hX 1 (vp_updL ot 0 (((a 6)).toInt64))] H := hP
  have hD : va_D A [cT hT hB hV a, cL cJ hX 1 (vp_updL ot 0 (((a 6)).toInt64))] := hD
  refine lv_goto (tgt := 14) hx hb dL_alive_8 (by decide) ?_
  refine lv_iconst (v := 0) hx hb dL_alive_14 (by decide) ?_
  have hP9 : va_P D vwCl [cT hT hB hV a, cL cJ hX 1 (vp_updL ot 0 (a 6).toInt64)] H := by
    have e9_0 : (vp_updL ot 0 (a 6).toInt64) = (vp_updL ot 0 (((a 6)).toInt64)) := by (first | rfl | (simp only [bI]; rfl))
    rw [e9_0]
    exact hP
  exact mi_iret hx hb hr hlocks hS (by rfl) hP9 dL_alive_15

set_option maxHeartbeats 2000000 in
set_option maxRecDepth 100000 in
theorem f_L_alive (l : Launch) (D : va_G) (cI cZ cJ : ClassId) (sz : Nat) (hst : l.stackTraces = false) (hT : Nat) (hB : Nat) (hV : Nat) (a : Nat → Int32) (hX : Nat) (ot : Nat → Int64) (hk : ¬ kYg a = 0) : Mx l D cI cZ cJ yL_alive wsL_alive 8 130 sz [.ref hT, .ref hX] [cT hT hB hV a, cL cJ hX 1 ot] (kYg a) := by
  refine mx_ofH (by decide) rfl (Nat.le_of_ble_eq_true rfl) (fun p e s m below meth c ls A hx hb hr hml hts hown hlocks htab hP hK hN hD hA hS hZ hY hX hl => ?_)
  have hl : lv_has ls 3 [(0, .ref hT), (1, .ref hX)] := hl
  refine lv_aload_n hx hb dL_alive_0 rfl (lv_at hl 1 rfl) ?_
  refine lv_iconst (v := 0) hx hb dL_alive_1 (by decide) ?_
  refine lv_aload_n hx hb dL_alive_2 rfl (lv_at hl 0 rfl) ?_
  refine xc_V (b := hT) (As := []) (rest := [.int 0, .ref hX]) ⟨hx, hb, hml, hown, hts⟩ (t_X1_alive l D cI cZ cJ _ hst hT hB hV a hk) (cwV 0 hts gL_alive_X1_alive rfl rfl rfl (by decide +kernel) ⟨Nat.le_of_ble_eq_true rfl, Nat.le_of_ble_eq_true rfl⟩) hP hD hK hN hY hS hA hZ (va_recv hK hP (ci := 1) (q0 := 0) rfl rfl) rfl hl.1 rfl (Nat.le_of_ble_eq_true rfl) dL_alive_3 ⟨Nat.le_of_ble_eq_true rfl, Nat.le_of_ble_eq_true rfl⟩ [0] [1] rfl rfl 2 rfl (by decide) (by decide) (fun H locs qe ce hP hD hS hq1 hq2 hq3 => ?_)
  have hv9 : kYg a = 0 ∨ kYg a = 1 := kYg_in _
  rcases hv9 with h9 | h9
  · exact absurd h9 hk
  · rw [h9] at hq3
    refine vx_catch (E := "java/lang/IllegalStateException") (name := "java/lang/IllegalStateException") hown [] ⟨0, 8, 11, 19⟩ [] htab (fun _ h => nomatch h) (by decide) (by decide) (hts (.classLink RL 19 "java/lang/IllegalStateException") (List.mem_of_getElem? (i := 1) rfl)) (va_Nw.use rfl (hN.2.2 _ (List.mem_of_getElem? (i := 0) rfl))) hq1 hq2 hq3 ?_
    refine lv_astore_n (lv' := [(2, .ref qe), (0, .ref hT), (1, .ref hX)]) hx hb dL_alive_11 rfl hl (by decide) rfl (fun ls hl => ?_)
    refine lv_iconst (v := 1) hx hb dL_alive_12 (by decide) ?_
    exact mx_iret hx hb hr hlocks hS h9.symm hP dL_alive_13

theorem in_L_lookedAt_X1 : ∀ w ∈ wsX10, w ∈ wsL_lookedAt := by decide +kernel
set_option maxHeartbeats 2000000 in
set_option maxRecDepth 100000 in
theorem c_L_lookedAt (l : Launch) (D : va_G) (cI cZ cJ : ClassId) (sz : Nat) (hT : Nat) (hB : Nat) (hV : Nat) (a : Nat → Int32) (hX : Nat) (ot : Nat → Int64) (h1 : ¬ a 0 = 0) : Mi l D cI cZ cJ yL_lookedAt wsL_lookedAt 2 40 sz [.ref hT, .ref hX] [cT hT hB hV a, cL cJ hX 1 ot] [cT hT hB hV a, cL cJ hX 1 (vp_updL ot 0 (a 7).toInt64)] (0) := by
  refine mi_ofH (by decide) rfl (Nat.le_of_ble_eq_true rfl) (fun p e s m below meth c ls A hx hb hr hml hts hown hlocks hP hK hN hD hA hS hl => ?_)
  have hl : lv_has ls 3 [(0, .ref hT), (1, .ref hX)] := hl
  refine lv_aload_n hx hb dL_lookedAt_0 rfl (lv_at hl 1 rfl) ?_
  refine lv_iconst (v := 0) hx hb dL_lookedAt_1 (by decide) ?_
  refine lv_aload_n hx hb dL_lookedAt_2 rfl (lv_at hl 0 rfl) ?_
  refine rd_V (b := hT) (As := []) (rest := [.int 0, .ref hX]) ⟨hx, hb, hml, hown, hts⟩ (c_X1_lookedAt l D cI cZ cJ hT hB hV a h1) (cwV 0 hts gL_lookedAt_X1_lookedAt rfl rfl rfl (by decide +kernel) ⟨Nat.le_of_ble_eq_true rfl, Nat.le_of_ble_eq_true rfl⟩) (hP.sub (ws' := [cT hT hB hV a]) [0] rfl) hK hN (va_recv hK hP (ci := 1) (q0 := 0) rfl rfl) rfl hl.1 rfl (Nat.le_of_ble_eq_true rfl) dL_lookedAt_3 ⟨Nat.le_of_ble_eq_true rfl, Nat.le_of_ble_eq_true rfl⟩ ?_
  refine lv_i2l (v := ((a 7)).toInt64) hx hb dL_lookedAt_6 rfl ?_
  refine q_last (D := D) hx hb hK hP hD hS 1 2 rfl rfl dL_lookedAt_7 (fun H locs hP hD hS => ?_)
  have hP : va_P D vwCl [cT hT hB hV a, cL cJ hX 1 (vp_updL ot 0 (((a 7)).toInt64))] H := hP
  have hD : va_D A [cT hT hB hV a, cL cJ hX 1 (vp_updL ot 0 (((a 7)).toInt64))] := hD
  refine lv_goto (tgt := 14) hx hb dL_lookedAt_8 (by decide) ?_
  refine lv_iconst (v := 0) hx hb dL_lookedAt_14 (by decide) ?_
  have hP9 : va_P D vwCl [cT hT hB hV a, cL cJ hX 1 (vp_updL ot 0 (a 7).toInt64)] H := by
    have e9_0 : (vp_updL ot 0 (a 7).toInt64) = (vp_updL ot 0 (((a 7)).toInt64)) := by (first | rfl | (simp only [bI]; rfl))
    rw [e9_0]
    exact hP
  exact mi_iret hx hb hr hlocks hS (by rfl) hP9 dL_lookedAt_15

set_option maxHeartbeats 2000000 in
set_option maxRecDepth 100000 in
theorem f_L_lookedAt (l : Launch) (D : va_G) (cI cZ cJ : ClassId) (sz : Nat) (hst : l.stackTraces = false) (hT : Nat) (hB : Nat) (hV : Nat) (a : Nat → Int32) (hX : Nat) (ot : Nat → Int64) (hk : ¬ kYg a = 0) : Mx l D cI cZ cJ yL_lookedAt wsL_lookedAt 8 130 sz [.ref hT, .ref hX] [cT hT hB hV a, cL cJ hX 1 ot] (kYg a) := by
  refine mx_ofH (by decide) rfl (Nat.le_of_ble_eq_true rfl) (fun p e s m below meth c ls A hx hb hr hml hts hown hlocks htab hP hK hN hD hA hS hZ hY hX hl => ?_)
  have hl : lv_has ls 3 [(0, .ref hT), (1, .ref hX)] := hl
  refine lv_aload_n hx hb dL_lookedAt_0 rfl (lv_at hl 1 rfl) ?_
  refine lv_iconst (v := 0) hx hb dL_lookedAt_1 (by decide) ?_
  refine lv_aload_n hx hb dL_lookedAt_2 rfl (lv_at hl 0 rfl) ?_
  refine xc_V (b := hT) (As := []) (rest := [.int 0, .ref hX]) ⟨hx, hb, hml, hown, hts⟩ (t_X1_lookedAt l D cI cZ cJ _ hst hT hB hV a hk) (cwV 0 hts gL_lookedAt_X1_lookedAt rfl rfl rfl (by decide +kernel) ⟨Nat.le_of_ble_eq_true rfl, Nat.le_of_ble_eq_true rfl⟩) hP hD hK hN hY hS hA hZ (va_recv hK hP (ci := 1) (q0 := 0) rfl rfl) rfl hl.1 rfl (Nat.le_of_ble_eq_true rfl) dL_lookedAt_3 ⟨Nat.le_of_ble_eq_true rfl, Nat.le_of_ble_eq_true rfl⟩ [0] [1] rfl rfl 2 rfl (by decide) (by decide) (fun H locs qe ce hP hD hS hq1 hq2 hq3 => ?_)
  have hv9 : kYg a = 0 ∨ kYg a = 1 := kYg_in _
  rcases hv9 with h9 | h9
  · exact absurd h9 hk
  · rw [h9] at hq3
    refine vx_catch (E := "java/lang/IllegalStateException") (name := "java/lang/IllegalStateException") hown [] ⟨0, 8, 11, 19⟩ [] htab (fun _ h => nomatch h) (by decide) (by decide) (hts (.classLink RL 19 "java/lang/IllegalStateException") (List.mem_of_getElem? (i := 1) rfl)) (va_Nw.use rfl (hN.2.2 _ (List.mem_of_getElem? (i := 0) rfl))) hq1 hq2 hq3 ?_
    refine lv_astore_n (lv' := [(2, .ref qe), (0, .ref hT), (1, .ref hX)]) hx hb dL_lookedAt_11 rfl hl (by decide) rfl (fun ls hl => ?_)
    refine lv_iconst (v := 1) hx hb dL_lookedAt_12 (by decide) ?_
    exact mx_iret hx hb hr hlocks hS h9.symm hP dL_lookedAt_13

theorem in_L_votesFor_X1 : ∀ w ∈ wsX10, w ∈ wsL_votesFor := by decide +kernel
set_option maxHeartbeats 2000000 in
set_option maxRecDepth 100000 in
theorem c_L_votesFor (l : Launch) (D : va_G) (cI cZ cJ : ClassId) (sz : Nat) (hT : Nat) (hB : Nat) (hV : Nat) (a : Nat → Int32) (v : Nat → Int32) (hX : Nat) (ot : Nat → Int64) (q : Int32) (h1 : ¬ a 0 = 0) (h2 : yPl a q = true) : Mi l D cI cZ cJ yL_votesFor wsL_votesFor 2 47 sz [.ref hT, .int q, .ref hX] [cT hT hB hV a, cA cI hV 8 v, cL cJ hX 1 ot] [cT hT hB hV a, cA cI hV 8 v, cL cJ hX 1 (vp_updL ot 0 (xMv v q 8).toInt64)] (0) := by
  refine mi_ofH (by decide) rfl (Nat.le_of_ble_eq_true rfl) (fun p e s m below meth c ls A hx hb hr hml hts hown hlocks hP hK hN hD hA hS hl => ?_)
  have hl : lv_has ls 4 [(0, .ref hT), (1, .int q), (2, .ref hX)] := hl
  refine lv_aload_n hx hb dL_votesFor_0 rfl (lv_at hl 2 rfl) ?_
  refine lv_iconst (v := 0) hx hb dL_votesFor_1 (by decide) ?_
  refine lv_aload_n hx hb dL_votesFor_2 rfl (lv_at hl 0 rfl) ?_
  refine lv_iload_n hx hb dL_votesFor_3 rfl (lv_at hl 1 rfl) ?_
  refine rd_V (b := hT) (As := [.int q]) (rest := [.int 0, .ref hX]) ⟨hx, hb, hml, hown, hts⟩ (c_X1_votesFor l D cI cZ cJ hT hB hV a v q h1 h2) (cwV 1 hts gL_votesFor_X1_votesFor rfl rfl rfl (by decide +kernel) ⟨Nat.le_of_ble_eq_true rfl, Nat.le_of_ble_eq_true rfl⟩) (hP.sub (ws' := [cT hT hB hV a, cA cI hV 8 v]) [0, 1] rfl) hK hN (va_recv hK hP (ci := 1) (q0 := 0) rfl rfl) rfl hl.1 rfl (Nat.le_of_ble_eq_true rfl) dL_votesFor_4 ⟨Nat.le_of_ble_eq_true rfl, Nat.le_of_ble_eq_true rfl⟩ ?_
  refine lv_i2l (v := ((xMv v q 8)).toInt64) hx hb dL_votesFor_7 rfl ?_
  refine q_last (D := D) hx hb hK hP hD hS 2 2 rfl rfl dL_votesFor_8 (fun H locs hP hD hS => ?_)
  have hP : va_P D vwCl [cT hT hB hV a, cA cI hV 8 v, cL cJ hX 1 (vp_updL ot 0 (((xMv v q 8)).toInt64))] H := hP
  have hD : va_D A [cT hT hB hV a, cA cI hV 8 v, cL cJ hX 1 (vp_updL ot 0 (((xMv v q 8)).toInt64))] := hD
  refine lv_goto (tgt := 18) hx hb dL_votesFor_9 (by decide) ?_
  refine lv_iconst (v := 0) hx hb dL_votesFor_18 (by decide) ?_
  have hP9 : va_P D vwCl [cT hT hB hV a, cA cI hV 8 v, cL cJ hX 1 (vp_updL ot 0 (xMv v q 8).toInt64)] H := by
    have e9_0 : (vp_updL ot 0 (xMv v q 8).toInt64) = (vp_updL ot 0 (((xMv v q 8)).toInt64)) := by (first | rfl | (simp only [bI]; rfl))
    rw [e9_0]
    exact hP
  exact mi_iret hx hb hr hlocks hS (by rfl) hP9 dL_votesFor_19

set_option maxHeartbeats 2000000 in
set_option maxRecDepth 100000 in
theorem f_L_votesFor (l : Launch) (D : va_G) (cI cZ cJ : ClassId) (sz : Nat) (hst : l.stackTraces = false) (hT : Nat) (hB : Nat) (hV : Nat) (a : Nat → Int32) (hX : Nat) (ot : Nat → Int64) (q : Int32) (hk : ¬ kYo a q = 0) : Mx l D cI cZ cJ yL_votesFor wsL_votesFor 8 132 sz [.ref hT, .int q, .ref hX] [cT hT hB hV a, cL cJ hX 1 ot] (kYo a q) := by
  refine mx_ofH (by decide) rfl (Nat.le_of_ble_eq_true rfl) (fun p e s m below meth c ls A hx hb hr hml hts hown hlocks htab hP hK hN hD hA hS hZ hY hX hl => ?_)
  have hl : lv_has ls 4 [(0, .ref hT), (1, .int q), (2, .ref hX)] := hl
  refine lv_aload_n hx hb dL_votesFor_0 rfl (lv_at hl 2 rfl) ?_
  refine lv_iconst (v := 0) hx hb dL_votesFor_1 (by decide) ?_
  refine lv_aload_n hx hb dL_votesFor_2 rfl (lv_at hl 0 rfl) ?_
  refine lv_iload_n hx hb dL_votesFor_3 rfl (lv_at hl 1 rfl) ?_
  refine xc_V (b := hT) (As := [.int q]) (rest := [.int 0, .ref hX]) ⟨hx, hb, hml, hown, hts⟩ (t_X1_votesFor l D cI cZ cJ _ hst hT hB hV a q hk) (cwV 1 hts gL_votesFor_X1_votesFor rfl rfl rfl (by decide +kernel) ⟨Nat.le_of_ble_eq_true rfl, Nat.le_of_ble_eq_true rfl⟩) hP hD hK hN hY hS hA hZ (va_recv hK hP (ci := 1) (q0 := 0) rfl rfl) rfl hl.1 rfl (Nat.le_of_ble_eq_true rfl) dL_votesFor_4 ⟨Nat.le_of_ble_eq_true rfl, Nat.le_of_ble_eq_true rfl⟩ [0] [1] rfl rfl 2 rfl (by decide) (by decide) (fun H locs qe ce hP hD hS hq1 hq2 hq3 => ?_)
  have hv9 : kYo a q = 0 ∨ kYo a q = 1 ∨ kYo a q = 2 := kYo_in _ _
  rcases hv9 with h9 | h9 | h9
  · exact absurd h9 hk
  · rw [h9] at hq3
    refine vx_catch (E := "java/lang/IllegalStateException") (name := "java/lang/IllegalStateException") hown [] ⟨0, 9, 12, 19⟩ [⟨0, 9, 15, 21⟩] htab (fun _ h => nomatch h) (by decide) (by decide) (hts (.classLink RL 19 "java/lang/IllegalStateException") (List.mem_of_getElem? (i := 1) rfl)) (va_Nw.use rfl (hN.2.2 _ (List.mem_of_getElem? (i := 0) rfl))) hq1 hq2 hq3 ?_
    refine lv_astore_n (lv' := [(3, .ref qe), (0, .ref hT), (1, .int q), (2, .ref hX)]) hx hb dL_votesFor_12 rfl hl (by decide) rfl (fun ls hl => ?_)
    refine lv_iconst (v := 1) hx hb dL_votesFor_13 (by decide) ?_
    exact mx_iret hx hb hr hlocks hS h9.symm hP dL_votesFor_14
  · rw [h9] at hq3
    refine vx_catch (E := "java/lang/IndexOutOfBoundsException") (name := "java/lang/IndexOutOfBoundsException") hown [⟨0, 9, 12, 19⟩] ⟨0, 9, 15, 21⟩ [] htab (List.forall_mem_cons.mpr ⟨Or.inr ⟨by decide, "java/lang/IllegalStateException", (hts (.classLink RL 19 "java/lang/IllegalStateException") (List.mem_of_getElem? (i := 1) rfl)), hX.at 3 rfl⟩, (fun _ h => nomatch h)⟩) (by decide) (by decide) (hts (.classLink RL 21 "java/lang/IndexOutOfBoundsException") (List.mem_of_getElem? (i := 2) rfl)) (va_Nw.use rfl (hN.2.2 _ (List.mem_of_getElem? (i := 1) rfl))) hq1 hq2 hq3 ?_
    refine lv_astore_n (lv' := [(3, .ref qe), (0, .ref hT), (1, .int q), (2, .ref hX)]) hx hb dL_votesFor_15 rfl hl (by decide) rfl (fun ls hl => ?_)
    refine lv_iconst (v := 2) hx hb dL_votesFor_16 (by decide) ?_
    exact mx_iret hx hb hr hlocks hS h9.symm hP dL_votesFor_17

theorem in_L_worlds_X0 : ∀ w ∈ wsX00, w ∈ wsL_worlds := by decide +kernel
theorem in_L_worlds_X1 : ∀ w ∈ wsX10, w ∈ wsL_worlds := by decide +kernel
set_option maxHeartbeats 2000000 in
set_option maxRecDepth 100000 in
theorem c_L_worlds (l : Launch) (D : va_G) (cI cZ cJ : ClassId) (sz : Nat) (hT : Nat) (hB : Nat) (hV : Nat) (a : Nat → Int32) (hG : Nat) (tr : Int32) (g : Nat → Int32) (hX : Nat) (ot : Nat → Int64) (q : Int32) (K : Nat) (hK9 : K ≤ 1120) (hg : ∀ j, j < K → ¬ g j = 0) (hz : K < 1120 → g K = 0) (h1 : ¬ a 0 = 0) (h2 : yVw a q = true) : Mi l D cI cZ cJ yL_worlds wsL_worlds 4 84 sz [.ref hT, .int q, .ref hX] [cT hT hB hV a, cB hB hG tr, cA cI hG 1120 g, cL cJ hX 1 ot] [cT hT hB hV a, cB hB hG tr, cA cI hG 1120 g, cL cJ hX 1 (vp_updL ot 0 (xCnt (pAg g tr (yKn a q)) K).toInt64)] (0) := by
  refine mi_ofH (by decide) rfl (Nat.le_of_ble_eq_true rfl) (fun p e s m below meth c ls A hx hb hr hml hts hown hlocks hP hK hN hD hA hS hl => ?_)
  have hl : lv_has ls 4 [(0, .ref hT), (1, .int q), (2, .ref hX)] := hl
  refine lv_aload_n hx hb dL_worlds_0 rfl (lv_at hl 2 rfl) ?_
  refine lv_iconst (v := 0) hx hb dL_worlds_1 (by decide) ?_
  refine lv_aload_n hx hb dL_worlds_2 rfl (lv_at hl 0 rfl) ?_
  refine lv_iload_n hx hb dL_worlds_3 rfl (lv_at hl 1 rfl) ?_
  refine rd_V (b := hT) (As := [.int q]) (rest := [.int 0, .ref hX]) ⟨hx, hb, hml, hown, hts⟩ (c_X1_worlds l D cI cZ cJ hT hB hV a hG tr g q K hK9 hg hz h1 h2) (cwV 1 hts gL_worlds_X1_worlds rfl rfl rfl (by decide +kernel) ⟨Nat.le_of_ble_eq_true rfl, Nat.le_of_ble_eq_true rfl⟩) (hP.sub (ws' := [cT hT hB hV a, cB hB hG tr, cA cI hG 1120 g]) [0, 1, 2] rfl) hK hN (va_recv hK hP (ci := 1) (q0 := 0) rfl rfl) rfl hl.1 rfl (Nat.le_of_ble_eq_true rfl) dL_worlds_4 ⟨Nat.le_of_ble_eq_true rfl, Nat.le_of_ble_eq_true rfl⟩ ?_
  refine lv_i2l (v := ((xCnt (pAg g tr (yKn a q)) K)).toInt64) hx hb dL_worlds_7 rfl ?_
  refine q_last (D := D) hx hb hK hP hD hS 3 2 rfl rfl dL_worlds_8 (fun H locs hP hD hS => ?_)
  have hP : va_P D vwCl [cT hT hB hV a, cB hB hG tr, cA cI hG 1120 g, cL cJ hX 1 (vp_updL ot 0 (((xCnt (pAg g tr (yKn a q)) K)).toInt64))] H := hP
  have hD : va_D A [cT hT hB hV a, cB hB hG tr, cA cI hG 1120 g, cL cJ hX 1 (vp_updL ot 0 (((xCnt (pAg g tr (yKn a q)) K)).toInt64))] := hD
  refine lv_goto (tgt := 18) hx hb dL_worlds_9 (by decide) ?_
  refine lv_iconst (v := 0) hx hb dL_worlds_18 (by decide) ?_
  have hP9 : va_P D vwCl [cT hT hB hV a, cB hB hG tr, cA cI hG 1120 g, cL cJ hX 1 (vp_updL ot 0 (xCnt (pAg g tr (yKn a q)) K).toInt64)] H := by
    have e9_0 : (vp_updL ot 0 (xCnt (pAg g tr (yKn a q)) K).toInt64) = (vp_updL ot 0 (((xCnt (pAg g tr (yKn a q)) K)).toInt64)) := by (first | rfl | (simp only [bI]; rfl))
    rw [e9_0]
    exact hP
  exact mi_iret hx hb hr hlocks hS (by rfl) hP9 dL_worlds_19

set_option maxHeartbeats 2000000 in
set_option maxRecDepth 100000 in
theorem f_L_worlds (l : Launch) (D : va_G) (cI cZ cJ : ClassId) (sz : Nat) (hst : l.stackTraces = false) (hT : Nat) (hB : Nat) (hV : Nat) (a : Nat → Int32) (hX : Nat) (ot : Nat → Int64) (q : Int32) (hk : ¬ kYw a q = 0) : Mx l D cI cZ cJ yL_worlds wsL_worlds 9 153 sz [.ref hT, .int q, .ref hX] [cT hT hB hV a, cL cJ hX 1 ot] (kYw a q) := by
  refine mx_ofH (by decide) rfl (Nat.le_of_ble_eq_true rfl) (fun p e s m below meth c ls A hx hb hr hml hts hown hlocks htab hP hK hN hD hA hS hZ hY hX hl => ?_)
  have hl : lv_has ls 4 [(0, .ref hT), (1, .int q), (2, .ref hX)] := hl
  refine lv_aload_n hx hb dL_worlds_0 rfl (lv_at hl 2 rfl) ?_
  refine lv_iconst (v := 0) hx hb dL_worlds_1 (by decide) ?_
  refine lv_aload_n hx hb dL_worlds_2 rfl (lv_at hl 0 rfl) ?_
  refine lv_iload_n hx hb dL_worlds_3 rfl (lv_at hl 1 rfl) ?_
  refine xc_V (b := hT) (As := [.int q]) (rest := [.int 0, .ref hX]) ⟨hx, hb, hml, hown, hts⟩ (t_X1_worlds l D cI cZ cJ _ hst hT hB hV a q hk) (cwV 1 hts gL_worlds_X1_worlds rfl rfl rfl (by decide +kernel) ⟨Nat.le_of_ble_eq_true rfl, Nat.le_of_ble_eq_true rfl⟩) hP hD hK hN hY hS hA hZ (va_recv hK hP (ci := 1) (q0 := 0) rfl rfl) rfl hl.1 rfl (Nat.le_of_ble_eq_true rfl) dL_worlds_4 ⟨Nat.le_of_ble_eq_true rfl, Nat.le_of_ble_eq_true rfl⟩ [0] [1] rfl rfl 2 rfl (by decide) (by decide) (fun H locs qe ce hP hD hS hq1 hq2 hq3 => ?_)
  have hv9 : kYw a q = 0 ∨ kYw a q = 1 ∨ kYw a q = 2 := kYw_in _ _
  rcases hv9 with h9 | h9 | h9
  · exact absurd h9 hk
  · rw [h9] at hq3
    refine vx_catch (E := "java/lang/IllegalStateException") (name := "java/lang/IllegalStateException") hown [] ⟨0, 9, 12, 19⟩ [⟨0, 9, 15, 21⟩] htab (fun _ h => nomatch h) (by decide) (by decide) (hts (.classLink RL 19 "java/lang/IllegalStateException") (List.mem_of_getElem? (i := 1) rfl)) (va_Nw.use rfl (hN.2.2 _ (List.mem_of_getElem? (i := 0) rfl))) hq1 hq2 hq3 ?_
    refine lv_astore_n (lv' := [(3, .ref qe), (0, .ref hT), (1, .int q), (2, .ref hX)]) hx hb dL_worlds_12 rfl hl (by decide) rfl (fun ls hl => ?_)
    refine lv_iconst (v := 1) hx hb dL_worlds_13 (by decide) ?_
    exact mx_iret hx hb hr hlocks hS h9.symm hP dL_worlds_14
  · rw [h9] at hq3
    refine vx_catch (E := "java/lang/IndexOutOfBoundsException") (name := "java/lang/IndexOutOfBoundsException") hown [⟨0, 9, 12, 19⟩] ⟨0, 9, 15, 21⟩ [] htab (List.forall_mem_cons.mpr ⟨Or.inr ⟨by decide, "java/lang/IllegalStateException", (hts (.classLink RL 19 "java/lang/IllegalStateException") (List.mem_of_getElem? (i := 1) rfl)), hX.at 3 rfl⟩, (fun _ h => nomatch h)⟩) (by decide) (by decide) (hts (.classLink RL 21 "java/lang/IndexOutOfBoundsException") (List.mem_of_getElem? (i := 2) rfl)) (va_Nw.use rfl (hN.2.2 _ (List.mem_of_getElem? (i := 1) rfl))) hq1 hq2 hq3 ?_
    refine lv_astore_n (lv' := [(3, .ref qe), (0, .ref hT), (1, .int q), (2, .ref hX)]) hx hb dL_worlds_15 rfl hl (by decide) rfl (fun ls hl => ?_)
    refine lv_iconst (v := 2) hx hb dL_worlds_16 (by decide) ?_
    exact mx_iret hx hb hr hlocks hS h9.symm hP dL_worlds_17

theorem in_L_worldsWith_X0 : ∀ w ∈ wsX00, w ∈ wsL_worldsWith := by decide +kernel
theorem in_L_worldsWith_X1 : ∀ w ∈ wsX10, w ∈ wsL_worldsWith := by decide +kernel
set_option maxHeartbeats 2000000 in
set_option maxRecDepth 100000 in
theorem c_L_worldsWith (l : Launch) (D : va_G) (cI cZ cJ : ClassId) (sz : Nat) (hT : Nat) (hB : Nat) (hV : Nat) (a : Nat → Int32) (hG : Nat) (tr : Int32) (g : Nat → Int32) (hX : Nat) (ot : Nat → Int64) (q : Int32) (r : Int32) (k : Int32) (K : Nat) (hK9 : K ≤ 1120) (hg : ∀ j, j < K → ¬ g j = 0) (hz : K < 1120 → g K = 0) (h1 : ¬ a 0 = 0) (h2 : yVw a q = true) (h3 : yPl a r = true) (h4 : ¬ k < 0) (h5 : k ≤ 3) : Mi l D cI cZ cJ yL_worldsWith wsL_worldsWith 4 91 sz [.ref hT, .int q, .int r, .int k, .ref hX] [cT hT hB hV a, cB hB hG tr, cA cI hG 1120 g, cL cJ hX 1 ot] [cT hT hB hV a, cB hB hG tr, cA cI hG 1120 g, cL cJ hX 1 (vp_updL ot 0 (xCnt (pRo g tr (yKn a q) r k) K).toInt64)] (0) := by
  refine mi_ofH (by decide) rfl (Nat.le_of_ble_eq_true rfl) (fun p e s m below meth c ls A hx hb hr hml hts hown hlocks hP hK hN hD hA hS hl => ?_)
  have hl : lv_has ls 6 [(0, .ref hT), (1, .int q), (2, .int r), (3, .int k), (4, .ref hX)] := hl
  refine lv_aload hx hb dL_worldsWith_0 (lv_at hl 4 rfl) ?_
  refine lv_iconst (v := 0) hx hb dL_worldsWith_2 (by decide) ?_
  refine lv_aload_n hx hb dL_worldsWith_3 rfl (lv_at hl 0 rfl) ?_
  refine lv_iload_n hx hb dL_worldsWith_4 rfl (lv_at hl 1 rfl) ?_
  refine lv_iload_n hx hb dL_worldsWith_5 rfl (lv_at hl 2 rfl) ?_
  refine lv_iload_n hx hb dL_worldsWith_6 rfl (lv_at hl 3 rfl) ?_
  refine rd_V (b := hT) (As := [.int q, .int r, .int k]) (rest := [.int 0, .ref hX]) ⟨hx, hb, hml, hown, hts⟩ (c_X1_worldsWith l D cI cZ cJ hT hB hV a hG tr g q r k K hK9 hg hz h1 h2 h3 h4 h5) (cwV 3 hts gL_worldsWith_X1_worldsWith rfl rfl rfl (by decide +kernel) ⟨Nat.le_of_ble_eq_true rfl, Nat.le_of_ble_eq_true rfl⟩) (hP.sub (ws' := [cT hT hB hV a, cB hB hG tr, cA cI hG 1120 g]) [0, 1, 2] rfl) hK hN (va_recv hK hP (ci := 1) (q0 := 0) rfl rfl) rfl hl.1 rfl (Nat.le_of_ble_eq_true rfl) dL_worldsWith_7 ⟨Nat.le_of_ble_eq_true rfl, Nat.le_of_ble_eq_true rfl⟩ ?_
  refine lv_i2l (v := ((xCnt (pRo g tr (yKn a q) r k) K)).toInt64) hx hb dL_worldsWith_10 rfl ?_
  refine q_last (D := D) hx hb hK hP hD hS 3 2 rfl rfl dL_worldsWith_11 (fun H locs hP hD hS => ?_)
  have hP : va_P D vwCl [cT hT hB hV a, cB hB hG tr, cA cI hG 1120 g, cL cJ hX 1 (vp_updL ot 0 (((xCnt (pRo g tr (yKn a q) r k) K)).toInt64))] H := hP
  have hD : va_D A [cT hT hB hV a, cB hB hG tr, cA cI hG 1120 g, cL cJ hX 1 (vp_updL ot 0 (((xCnt (pRo g tr (yKn a q) r k) K)).toInt64))] := hD
  refine lv_goto (tgt := 27) hx hb dL_worldsWith_12 (by decide) ?_
  refine lv_iconst (v := 0) hx hb dL_worldsWith_27 (by decide) ?_
  have hP9 : va_P D vwCl [cT hT hB hV a, cB hB hG tr, cA cI hG 1120 g, cL cJ hX 1 (vp_updL ot 0 (xCnt (pRo g tr (yKn a q) r k) K).toInt64)] H := by
    have e9_0 : (vp_updL ot 0 (xCnt (pRo g tr (yKn a q) r k) K).toInt64) = (vp_updL ot 0 (((xCnt (pRo g tr (yKn a q) r k) K)).toInt64)) := by (first | rfl | (simp only [bI]; rfl))
    rw [e9_0]
    exact hP
  exact mi_iret hx hb hr hlocks hS (by rfl) hP9 dL_worldsWith_28

set_option maxHeartbeats 2000000 in
set_option maxRecDepth 100000 in
theorem f_L_worldsWith (l : Launch) (D : va_G) (cI cZ cJ : ClassId) (sz : Nat) (hst : l.stackTraces = false) (hT : Nat) (hB : Nat) (hV : Nat) (a : Nat → Int32) (hX : Nat) (ot : Nat → Int64) (q : Int32) (r : Int32) (k : Int32) (hk : ¬ kYx a q r k = 0) : Mx l D cI cZ cJ yL_worldsWith wsL_worldsWith 9 155 sz [.ref hT, .int q, .int r, .int k, .ref hX] [cT hT hB hV a, cL cJ hX 1 ot] (kYx a q r k) := by
  refine mx_ofH (by decide) rfl (Nat.le_of_ble_eq_true rfl) (fun p e s m below meth c ls A hx hb hr hml hts hown hlocks htab hP hK hN hD hA hS hZ hY hX hl => ?_)
  have hl : lv_has ls 6 [(0, .ref hT), (1, .int q), (2, .int r), (3, .int k), (4, .ref hX)] := hl
  refine lv_aload hx hb dL_worldsWith_0 (lv_at hl 4 rfl) ?_
  refine lv_iconst (v := 0) hx hb dL_worldsWith_2 (by decide) ?_
  refine lv_aload_n hx hb dL_worldsWith_3 rfl (lv_at hl 0 rfl) ?_
  refine lv_iload_n hx hb dL_worldsWith_4 rfl (lv_at hl 1 rfl) ?_
  refine lv_iload_n hx hb dL_worldsWith_5 rfl (lv_at hl 2 rfl) ?_
  refine lv_iload_n hx hb dL_worldsWith_6 rfl (lv_at hl 3 rfl) ?_
  refine xc_V (b := hT) (As := [.int q, .int r, .int k]) (rest := [.int 0, .ref hX]) ⟨hx, hb, hml, hown, hts⟩ (t_X1_worldsWith l D cI cZ cJ _ hst hT hB hV a q r k hk) (cwV 3 hts gL_worldsWith_X1_worldsWith rfl rfl rfl (by decide +kernel) ⟨Nat.le_of_ble_eq_true rfl, Nat.le_of_ble_eq_true rfl⟩) hP hD hK hN hY hS hA hZ (va_recv hK hP (ci := 1) (q0 := 0) rfl rfl) rfl hl.1 rfl (Nat.le_of_ble_eq_true rfl) dL_worldsWith_7 ⟨Nat.le_of_ble_eq_true rfl, Nat.le_of_ble_eq_true rfl⟩ [0] [1] rfl rfl 2 rfl (by decide) (by decide) (fun H locs qe ce hP hD hS hq1 hq2 hq3 => ?_)
  have hv9 : kYx a q r k = 0 ∨ kYx a q r k = 1 ∨ kYx a q r k = 2 ∨ kYx a q r k = 3 := kYx_in _ _ _ _
  rcases hv9 with h9 | h9 | h9 | h9
  · exact absurd h9 hk
  · rw [h9] at hq3
    refine vx_catch (E := "java/lang/IllegalStateException") (name := "java/lang/IllegalStateException") hown [] ⟨0, 12, 15, 19⟩ [⟨0, 12, 19, 21⟩, ⟨0, 12, 23, 13⟩] htab (fun _ h => nomatch h) (by decide) (by decide) (hts (.classLink RL 19 "java/lang/IllegalStateException") (List.mem_of_getElem? (i := 1) rfl)) (va_Nw.use rfl (hN.2.2 _ (List.mem_of_getElem? (i := 0) rfl))) hq1 hq2 hq3 ?_
    refine lv_astore (lv' := [(5, .ref qe), (0, .ref hT), (1, .int q), (2, .int r), (3, .int k), (4, .ref hX)]) hx hb dL_worldsWith_15 hl (by decide) rfl (fun ls hl => ?_)
    refine lv_iconst (v := 1) hx hb dL_worldsWith_17 (by decide) ?_
    exact mx_iret hx hb hr hlocks hS h9.symm hP dL_worldsWith_18
  · rw [h9] at hq3
    refine vx_catch (E := "java/lang/IndexOutOfBoundsException") (name := "java/lang/IndexOutOfBoundsException") hown [⟨0, 12, 15, 19⟩] ⟨0, 12, 19, 21⟩ [⟨0, 12, 23, 13⟩] htab (List.forall_mem_cons.mpr ⟨Or.inr ⟨by decide, "java/lang/IllegalStateException", (hts (.classLink RL 19 "java/lang/IllegalStateException") (List.mem_of_getElem? (i := 1) rfl)), hX.at 3 rfl⟩, (fun _ h => nomatch h)⟩) (by decide) (by decide) (hts (.classLink RL 21 "java/lang/IndexOutOfBoundsException") (List.mem_of_getElem? (i := 2) rfl)) (va_Nw.use rfl (hN.2.2 _ (List.mem_of_getElem? (i := 1) rfl))) hq1 hq2 hq3 ?_
    refine lv_astore (lv' := [(5, .ref qe), (0, .ref hT), (1, .int q), (2, .int r), (3, .int k), (4, .ref hX)]) hx hb dL_worldsWith_19 hl (by decide) rfl (fun ls hl => ?_)
    refine lv_iconst (v := 2) hx hb dL_worldsWith_21 (by decide) ?_
    exact mx_iret hx hb hr hlocks hS h9.symm hP dL_worldsWith_22
  · rw [h9] at hq3
    refine vx_catch (E := "java/lang/IllegalArgumentException") (name := "java/lang/IllegalArgumentException") hown [⟨0, 12, 15, 19⟩, ⟨0, 12, 19, 21⟩] ⟨0, 12, 23, 13⟩ [] htab (List.forall_mem_cons.mpr ⟨Or.inr ⟨by decide, "java/lang/IllegalStateException", (hts (.classLink RL 19 "java/lang/IllegalStateException") (List.mem_of_getElem? (i := 1) rfl)), hX.at 6 rfl⟩, (List.forall_mem_cons.mpr ⟨Or.inr ⟨by decide, "java/lang/IndexOutOfBoundsException", (hts (.classLink RL 21 "java/lang/IndexOutOfBoundsException") (List.mem_of_getElem? (i := 2) rfl)), hX.at 7 rfl⟩, (fun _ h => nomatch h)⟩)⟩) (by decide) (by decide) (hts (.classLink RL 13 "java/lang/IllegalArgumentException") (List.mem_of_getElem? (i := 3) rfl)) (va_Nw.use rfl (hN.2.2 _ (List.mem_of_getElem? (i := 2) rfl))) hq1 hq2 hq3 ?_
    refine lv_astore (lv' := [(5, .ref qe), (0, .ref hT), (1, .int q), (2, .int r), (3, .int k), (4, .ref hX)]) hx hb dL_worldsWith_23 hl (by decide) rfl (fun ls hl => ?_)
    refine lv_iconst (v := 3) hx hb dL_worldsWith_25 (by decide) ?_
    exact mx_iret hx hb hr hlocks hS h9.symm hP dL_worldsWith_26

theorem in_L_sureWitches_X0 : ∀ w ∈ wsX00, w ∈ wsL_sureWitches := by decide +kernel
theorem in_L_sureWitches_X1 : ∀ w ∈ wsX10, w ∈ wsL_sureWitches := by decide +kernel
set_option maxHeartbeats 2000000 in
set_option maxRecDepth 100000 in
theorem c_L_sureWitches (l : Launch) (D : va_G) (cI cZ cJ : ClassId) (sz : Nat) (hT : Nat) (hB : Nat) (hV : Nat) (a : Nat → Int32) (hG : Nat) (tr : Int32) (g : Nat → Int32) (hX : Nat) (ot : Nat → Int64) (q : Int32) (K : Nat) (hK9 : K ≤ 1120) (hg : ∀ j, j < K → ¬ g j = 0) (hz : K < 1120 → g K = 0) (h1 : ¬ a 0 = 0) (h2 : yVw a q = true) : Mi l D cI cZ cJ yL_sureWitches wsL_sureWitches 4 84 sz [.ref hT, .int q, .ref hX] [cT hT hB hV a, cB hB hG tr, cA cI hG 1120 g, cL cJ hX 1 ot] [cT hT hB hV a, cB hB hG tr, cA cI hG 1120 g, cL cJ hX 1 (vp_updL ot 0 (yWa g tr (yKn a q) K).toInt64)] (0) := by
  refine mi_ofH (by decide) rfl (Nat.le_of_ble_eq_true rfl) (fun p e s m below meth c ls A hx hb hr hml hts hown hlocks hP hK hN hD hA hS hl => ?_)
  have hl : lv_has ls 4 [(0, .ref hT), (1, .int q), (2, .ref hX)] := hl
  refine lv_aload_n hx hb dL_sureWitches_0 rfl (lv_at hl 2 rfl) ?_
  refine lv_iconst (v := 0) hx hb dL_sureWitches_1 (by decide) ?_
  refine lv_aload_n hx hb dL_sureWitches_2 rfl (lv_at hl 0 rfl) ?_
  refine lv_iload_n hx hb dL_sureWitches_3 rfl (lv_at hl 1 rfl) ?_
  refine rd_V (b := hT) (As := [.int q]) (rest := [.int 0, .ref hX]) ⟨hx, hb, hml, hown, hts⟩ (c_X1_sureWitches l D cI cZ cJ hT hB hV a hG tr g q K hK9 hg hz h1 h2) (cwV 1 hts gL_sureWitches_X1_sureWitches rfl rfl rfl (by decide +kernel) ⟨Nat.le_of_ble_eq_true rfl, Nat.le_of_ble_eq_true rfl⟩) (hP.sub (ws' := [cT hT hB hV a, cB hB hG tr, cA cI hG 1120 g]) [0, 1, 2] rfl) hK hN (va_recv hK hP (ci := 1) (q0 := 0) rfl rfl) rfl hl.1 rfl (Nat.le_of_ble_eq_true rfl) dL_sureWitches_4 ⟨Nat.le_of_ble_eq_true rfl, Nat.le_of_ble_eq_true rfl⟩ ?_
  refine lv_i2l (v := ((yWa g tr (yKn a q) K)).toInt64) hx hb dL_sureWitches_7 rfl ?_
  refine q_last (D := D) hx hb hK hP hD hS 3 2 rfl rfl dL_sureWitches_8 (fun H locs hP hD hS => ?_)
  have hP : va_P D vwCl [cT hT hB hV a, cB hB hG tr, cA cI hG 1120 g, cL cJ hX 1 (vp_updL ot 0 (((yWa g tr (yKn a q) K)).toInt64))] H := hP
  have hD : va_D A [cT hT hB hV a, cB hB hG tr, cA cI hG 1120 g, cL cJ hX 1 (vp_updL ot 0 (((yWa g tr (yKn a q) K)).toInt64))] := hD
  refine lv_goto (tgt := 18) hx hb dL_sureWitches_9 (by decide) ?_
  refine lv_iconst (v := 0) hx hb dL_sureWitches_18 (by decide) ?_
  have hP9 : va_P D vwCl [cT hT hB hV a, cB hB hG tr, cA cI hG 1120 g, cL cJ hX 1 (vp_updL ot 0 (yWa g tr (yKn a q) K).toInt64)] H := by
    have e9_0 : (vp_updL ot 0 (yWa g tr (yKn a q) K).toInt64) = (vp_updL ot 0 (((yWa g tr (yKn a q) K)).toInt64)) := by (first | rfl | (simp only [bI]; rfl))
    rw [e9_0]
    exact hP
  exact mi_iret hx hb hr hlocks hS (by rfl) hP9 dL_sureWitches_19

set_option maxHeartbeats 2000000 in
set_option maxRecDepth 100000 in
theorem f_L_sureWitches (l : Launch) (D : va_G) (cI cZ cJ : ClassId) (sz : Nat) (hst : l.stackTraces = false) (hT : Nat) (hB : Nat) (hV : Nat) (a : Nat → Int32) (hX : Nat) (ot : Nat → Int64) (q : Int32) (hk : ¬ kYw a q = 0) : Mx l D cI cZ cJ yL_sureWitches wsL_sureWitches 9 153 sz [.ref hT, .int q, .ref hX] [cT hT hB hV a, cL cJ hX 1 ot] (kYw a q) := by
  refine mx_ofH (by decide) rfl (Nat.le_of_ble_eq_true rfl) (fun p e s m below meth c ls A hx hb hr hml hts hown hlocks htab hP hK hN hD hA hS hZ hY hX hl => ?_)
  have hl : lv_has ls 4 [(0, .ref hT), (1, .int q), (2, .ref hX)] := hl
  refine lv_aload_n hx hb dL_sureWitches_0 rfl (lv_at hl 2 rfl) ?_
  refine lv_iconst (v := 0) hx hb dL_sureWitches_1 (by decide) ?_
  refine lv_aload_n hx hb dL_sureWitches_2 rfl (lv_at hl 0 rfl) ?_
  refine lv_iload_n hx hb dL_sureWitches_3 rfl (lv_at hl 1 rfl) ?_
  refine xc_V (b := hT) (As := [.int q]) (rest := [.int 0, .ref hX]) ⟨hx, hb, hml, hown, hts⟩ (t_X1_sureWitches l D cI cZ cJ _ hst hT hB hV a q hk) (cwV 1 hts gL_sureWitches_X1_sureWitches rfl rfl rfl (by decide +kernel) ⟨Nat.le_of_ble_eq_true rfl, Nat.le_of_ble_eq_true rfl⟩) hP hD hK hN hY hS hA hZ (va_recv hK hP (ci := 1) (q0 := 0) rfl rfl) rfl hl.1 rfl (Nat.le_of_ble_eq_true rfl) dL_sureWitches_4 ⟨Nat.le_of_ble_eq_true rfl, Nat.le_of_ble_eq_true rfl⟩ [0] [1] rfl rfl 2 rfl (by decide) (by decide) (fun H locs qe ce hP hD hS hq1 hq2 hq3 => ?_)
  have hv9 : kYw a q = 0 ∨ kYw a q = 1 ∨ kYw a q = 2 := kYw_in _ _
  rcases hv9 with h9 | h9 | h9
  · exact absurd h9 hk
  · rw [h9] at hq3
    refine vx_catch (E := "java/lang/IllegalStateException") (name := "java/lang/IllegalStateException") hown [] ⟨0, 9, 12, 19⟩ [⟨0, 9, 15, 21⟩] htab (fun _ h => nomatch h) (by decide) (by decide) (hts (.classLink RL 19 "java/lang/IllegalStateException") (List.mem_of_getElem? (i := 1) rfl)) (va_Nw.use rfl (hN.2.2 _ (List.mem_of_getElem? (i := 0) rfl))) hq1 hq2 hq3 ?_
    refine lv_astore_n (lv' := [(3, .ref qe), (0, .ref hT), (1, .int q), (2, .ref hX)]) hx hb dL_sureWitches_12 rfl hl (by decide) rfl (fun ls hl => ?_)
    refine lv_iconst (v := 1) hx hb dL_sureWitches_13 (by decide) ?_
    exact mx_iret hx hb hr hlocks hS h9.symm hP dL_sureWitches_14
  · rw [h9] at hq3
    refine vx_catch (E := "java/lang/IndexOutOfBoundsException") (name := "java/lang/IndexOutOfBoundsException") hown [⟨0, 9, 12, 19⟩] ⟨0, 9, 15, 21⟩ [] htab (List.forall_mem_cons.mpr ⟨Or.inr ⟨by decide, "java/lang/IllegalStateException", (hts (.classLink RL 19 "java/lang/IllegalStateException") (List.mem_of_getElem? (i := 1) rfl)), hX.at 3 rfl⟩, (fun _ h => nomatch h)⟩) (by decide) (by decide) (hts (.classLink RL 21 "java/lang/IndexOutOfBoundsException") (List.mem_of_getElem? (i := 2) rfl)) (va_Nw.use rfl (hN.2.2 _ (List.mem_of_getElem? (i := 1) rfl))) hq1 hq2 hq3 ?_
    refine lv_astore_n (lv' := [(3, .ref qe), (0, .ref hT), (1, .int q), (2, .ref hX)]) hx hb dL_sureWitches_15 rfl hl (by decide) rfl (fun ls hl => ?_)
    refine lv_iconst (v := 2) hx hb dL_sureWitches_16 (by decide) ?_
    exact mx_iret hx hb hr hlocks hS h9.symm hP dL_sureWitches_17

theorem in_L_sureHonest_X0 : ∀ w ∈ wsX00, w ∈ wsL_sureHonest := by decide +kernel
theorem in_L_sureHonest_X1 : ∀ w ∈ wsX10, w ∈ wsL_sureHonest := by decide +kernel
set_option maxHeartbeats 2000000 in
set_option maxRecDepth 100000 in
theorem c_L_sureHonest (l : Launch) (D : va_G) (cI cZ cJ : ClassId) (sz : Nat) (hT : Nat) (hB : Nat) (hV : Nat) (a : Nat → Int32) (hG : Nat) (tr : Int32) (g : Nat → Int32) (hX : Nat) (ot : Nat → Int64) (q : Int32) (K : Nat) (hK9 : K ≤ 1120) (hg : ∀ j, j < K → ¬ g j = 0) (hz : K < 1120 → g K = 0) (h1 : ¬ a 0 = 0) (h2 : yVw a q = true) : Mi l D cI cZ cJ yL_sureHonest wsL_sureHonest 4 84 sz [.ref hT, .int q, .ref hX] [cT hT hB hV a, cB hB hG tr, cA cI hG 1120 g, cL cJ hX 1 ot] [cT hT hB hV a, cB hB hG tr, cA cI hG 1120 g, cL cJ hX 1 (vp_updL ot 0 (xAll (a 2) &&& (yWy g tr (yKn a q) K ^^^ (-1))).toInt64)] (0) := by
  refine mi_ofH (by decide) rfl (Nat.le_of_ble_eq_true rfl) (fun p e s m below meth c ls A hx hb hr hml hts hown hlocks hP hK hN hD hA hS hl => ?_)
  have hl : lv_has ls 4 [(0, .ref hT), (1, .int q), (2, .ref hX)] := hl
  refine lv_aload_n hx hb dL_sureHonest_0 rfl (lv_at hl 2 rfl) ?_
  refine lv_iconst (v := 0) hx hb dL_sureHonest_1 (by decide) ?_
  refine lv_aload_n hx hb dL_sureHonest_2 rfl (lv_at hl 0 rfl) ?_
  refine lv_iload_n hx hb dL_sureHonest_3 rfl (lv_at hl 1 rfl) ?_
  refine rd_V (b := hT) (As := [.int q]) (rest := [.int 0, .ref hX]) ⟨hx, hb, hml, hown, hts⟩ (c_X1_sureHonest l D cI cZ cJ hT hB hV a hG tr g q K hK9 hg hz h1 h2) (cwV 1 hts gL_sureHonest_X1_sureHonest rfl rfl rfl (by decide +kernel) ⟨Nat.le_of_ble_eq_true rfl, Nat.le_of_ble_eq_true rfl⟩) (hP.sub (ws' := [cT hT hB hV a, cB hB hG tr, cA cI hG 1120 g]) [0, 1, 2] rfl) hK hN (va_recv hK hP (ci := 1) (q0 := 0) rfl rfl) rfl hl.1 rfl (Nat.le_of_ble_eq_true rfl) dL_sureHonest_4 ⟨Nat.le_of_ble_eq_true rfl, Nat.le_of_ble_eq_true rfl⟩ ?_
  refine lv_i2l (v := ((xAll (a 2) &&& (yWy g tr (yKn a q) K ^^^ (-1)))).toInt64) hx hb dL_sureHonest_7 rfl ?_
  refine q_last (D := D) hx hb hK hP hD hS 3 2 rfl rfl dL_sureHonest_8 (fun H locs hP hD hS => ?_)
  have hP : va_P D vwCl [cT hT hB hV a, cB hB hG tr, cA cI hG 1120 g, cL cJ hX 1 (vp_updL ot 0 (((xAll (a 2) &&& (yWy g tr (yKn a q) K ^^^ (-1)))).toInt64))] H := hP
  have hD : va_D A [cT hT hB hV a, cB hB hG tr, cA cI hG 1120 g, cL cJ hX 1 (vp_updL ot 0 (((xAll (a 2) &&& (yWy g tr (yKn a q) K ^^^ (-1)))).toInt64))] := hD
  refine lv_goto (tgt := 18) hx hb dL_sureHonest_9 (by decide) ?_
  refine lv_iconst (v := 0) hx hb dL_sureHonest_18 (by decide) ?_
  have hP9 : va_P D vwCl [cT hT hB hV a, cB hB hG tr, cA cI hG 1120 g, cL cJ hX 1 (vp_updL ot 0 (xAll (a 2) &&& (yWy g tr (yKn a q) K ^^^ (-1))).toInt64)] H := by
    have e9_0 : (vp_updL ot 0 (xAll (a 2) &&& (yWy g tr (yKn a q) K ^^^ (-1))).toInt64) = (vp_updL ot 0 (((xAll (a 2) &&& (yWy g tr (yKn a q) K ^^^ (-1)))).toInt64)) := by (first | rfl | (simp only [bI]; rfl))
    rw [e9_0]
    exact hP
  exact mi_iret hx hb hr hlocks hS (by rfl) hP9 dL_sureHonest_19

set_option maxHeartbeats 2000000 in
set_option maxRecDepth 100000 in
theorem f_L_sureHonest (l : Launch) (D : va_G) (cI cZ cJ : ClassId) (sz : Nat) (hst : l.stackTraces = false) (hT : Nat) (hB : Nat) (hV : Nat) (a : Nat → Int32) (hX : Nat) (ot : Nat → Int64) (q : Int32) (hk : ¬ kYw a q = 0) : Mx l D cI cZ cJ yL_sureHonest wsL_sureHonest 9 153 sz [.ref hT, .int q, .ref hX] [cT hT hB hV a, cL cJ hX 1 ot] (kYw a q) := by
  refine mx_ofH (by decide) rfl (Nat.le_of_ble_eq_true rfl) (fun p e s m below meth c ls A hx hb hr hml hts hown hlocks htab hP hK hN hD hA hS hZ hY hX hl => ?_)
  have hl : lv_has ls 4 [(0, .ref hT), (1, .int q), (2, .ref hX)] := hl
  refine lv_aload_n hx hb dL_sureHonest_0 rfl (lv_at hl 2 rfl) ?_
  refine lv_iconst (v := 0) hx hb dL_sureHonest_1 (by decide) ?_
  refine lv_aload_n hx hb dL_sureHonest_2 rfl (lv_at hl 0 rfl) ?_
  refine lv_iload_n hx hb dL_sureHonest_3 rfl (lv_at hl 1 rfl) ?_
  refine xc_V (b := hT) (As := [.int q]) (rest := [.int 0, .ref hX]) ⟨hx, hb, hml, hown, hts⟩ (t_X1_sureHonest l D cI cZ cJ _ hst hT hB hV a q hk) (cwV 1 hts gL_sureHonest_X1_sureHonest rfl rfl rfl (by decide +kernel) ⟨Nat.le_of_ble_eq_true rfl, Nat.le_of_ble_eq_true rfl⟩) hP hD hK hN hY hS hA hZ (va_recv hK hP (ci := 1) (q0 := 0) rfl rfl) rfl hl.1 rfl (Nat.le_of_ble_eq_true rfl) dL_sureHonest_4 ⟨Nat.le_of_ble_eq_true rfl, Nat.le_of_ble_eq_true rfl⟩ [0] [1] rfl rfl 2 rfl (by decide) (by decide) (fun H locs qe ce hP hD hS hq1 hq2 hq3 => ?_)
  have hv9 : kYw a q = 0 ∨ kYw a q = 1 ∨ kYw a q = 2 := kYw_in _ _
  rcases hv9 with h9 | h9 | h9
  · exact absurd h9 hk
  · rw [h9] at hq3
    refine vx_catch (E := "java/lang/IllegalStateException") (name := "java/lang/IllegalStateException") hown [] ⟨0, 9, 12, 19⟩ [⟨0, 9, 15, 21⟩] htab (fun _ h => nomatch h) (by decide) (by decide) (hts (.classLink RL 19 "java/lang/IllegalStateException") (List.mem_of_getElem? (i := 1) rfl)) (va_Nw.use rfl (hN.2.2 _ (List.mem_of_getElem? (i := 0) rfl))) hq1 hq2 hq3 ?_
    refine lv_astore_n (lv' := [(3, .ref qe), (0, .ref hT), (1, .int q), (2, .ref hX)]) hx hb dL_sureHonest_12 rfl hl (by decide) rfl (fun ls hl => ?_)
    refine lv_iconst (v := 1) hx hb dL_sureHonest_13 (by decide) ?_
    exact mx_iret hx hb hr hlocks hS h9.symm hP dL_sureHonest_14
  · rw [h9] at hq3
    refine vx_catch (E := "java/lang/IndexOutOfBoundsException") (name := "java/lang/IndexOutOfBoundsException") hown [⟨0, 9, 12, 19⟩] ⟨0, 9, 15, 21⟩ [] htab (List.forall_mem_cons.mpr ⟨Or.inr ⟨by decide, "java/lang/IllegalStateException", (hts (.classLink RL 19 "java/lang/IllegalStateException") (List.mem_of_getElem? (i := 1) rfl)), hX.at 3 rfl⟩, (fun _ h => nomatch h)⟩) (by decide) (by decide) (hts (.classLink RL 21 "java/lang/IndexOutOfBoundsException") (List.mem_of_getElem? (i := 2) rfl)) (va_Nw.use rfl (hN.2.2 _ (List.mem_of_getElem? (i := 1) rfl))) hq1 hq2 hq3 ?_
    refine lv_astore_n (lv' := [(3, .ref qe), (0, .ref hT), (1, .int q), (2, .ref hX)]) hx hb dL_sureHonest_15 rfl hl (by decide) rfl (fun ls hl => ?_)
    refine lv_iconst (v := 2) hx hb dL_sureHonest_16 (by decide) ?_
    exact mx_iret hx hb hr hlocks hS h9.symm hP dL_sureHonest_17

theorem in_L_witchSets_X0 : ∀ w ∈ wsX00, w ∈ wsL_witchSets := by decide +kernel
theorem in_L_witchSets_X1 : ∀ w ∈ wsX10, w ∈ wsL_witchSets := by decide +kernel
set_option maxHeartbeats 2000000 in
set_option maxRecDepth 100000 in
theorem c_L_witchSets (l : Launch) (D : va_G) (cI cZ cJ : ClassId) (sz : Nat) (hT : Nat) (hB : Nat) (hV : Nat) (a : Nat → Int32) (hG : Nat) (tr : Int32) (g : Nat → Int32) (hX : Nat) (ot : Nat → Int64) (q : Int32) (K : Nat) (hK9 : K ≤ 1120) (hg : ∀ j, j < K → ¬ g j = 0) (hz : K < 1120 → g K = 0) (h1 : ¬ a 0 = 0) (h2 : yVw a q = true) : Mi l D cI cZ cJ yL_witchSets wsL_witchSets 4 84 sz [.ref hT, .int q, .ref hX] [cT hT hB hV a, cB hB hG tr, cA cI hG 1120 g, cL cJ hX 1 ot] [cT hT hB hV a, cB hB hG tr, cA cI hG 1120 g, cL cJ hX 1 (vp_updL ot 0 ((yCs g tr (yKn a q) K).1).toInt64)] (0) := by
  refine mi_ofH (by decide) rfl (Nat.le_of_ble_eq_true rfl) (fun p e s m below meth c ls A hx hb hr hml hts hown hlocks hP hK hN hD hA hS hl => ?_)
  have hl : lv_has ls 4 [(0, .ref hT), (1, .int q), (2, .ref hX)] := hl
  refine lv_aload_n hx hb dL_witchSets_0 rfl (lv_at hl 2 rfl) ?_
  refine lv_iconst (v := 0) hx hb dL_witchSets_1 (by decide) ?_
  refine lv_aload_n hx hb dL_witchSets_2 rfl (lv_at hl 0 rfl) ?_
  refine lv_iload_n hx hb dL_witchSets_3 rfl (lv_at hl 1 rfl) ?_
  refine rd_V (b := hT) (As := [.int q]) (rest := [.int 0, .ref hX]) ⟨hx, hb, hml, hown, hts⟩ (c_X1_witchSets l D cI cZ cJ hT hB hV a hG tr g q K hK9 hg hz h1 h2) (cwV 1 hts gL_witchSets_X1_witchSets rfl rfl rfl (by decide +kernel) ⟨Nat.le_of_ble_eq_true rfl, Nat.le_of_ble_eq_true rfl⟩) (hP.sub (ws' := [cT hT hB hV a, cB hB hG tr, cA cI hG 1120 g]) [0, 1, 2] rfl) hK hN (va_recv hK hP (ci := 1) (q0 := 0) rfl rfl) rfl hl.1 rfl (Nat.le_of_ble_eq_true rfl) dL_witchSets_4 ⟨Nat.le_of_ble_eq_true rfl, Nat.le_of_ble_eq_true rfl⟩ ?_
  refine lv_i2l (v := (((yCs g tr (yKn a q) K).1)).toInt64) hx hb dL_witchSets_7 rfl ?_
  refine q_last (D := D) hx hb hK hP hD hS 3 2 rfl rfl dL_witchSets_8 (fun H locs hP hD hS => ?_)
  have hP : va_P D vwCl [cT hT hB hV a, cB hB hG tr, cA cI hG 1120 g, cL cJ hX 1 (vp_updL ot 0 ((((yCs g tr (yKn a q) K).1)).toInt64))] H := hP
  have hD : va_D A [cT hT hB hV a, cB hB hG tr, cA cI hG 1120 g, cL cJ hX 1 (vp_updL ot 0 ((((yCs g tr (yKn a q) K).1)).toInt64))] := hD
  refine lv_goto (tgt := 18) hx hb dL_witchSets_9 (by decide) ?_
  refine lv_iconst (v := 0) hx hb dL_witchSets_18 (by decide) ?_
  have hP9 : va_P D vwCl [cT hT hB hV a, cB hB hG tr, cA cI hG 1120 g, cL cJ hX 1 (vp_updL ot 0 ((yCs g tr (yKn a q) K).1).toInt64)] H := by
    have e9_0 : (vp_updL ot 0 ((yCs g tr (yKn a q) K).1).toInt64) = (vp_updL ot 0 ((((yCs g tr (yKn a q) K).1)).toInt64)) := by (first | rfl | (simp only [bI]; rfl))
    rw [e9_0]
    exact hP
  exact mi_iret hx hb hr hlocks hS (by rfl) hP9 dL_witchSets_19

set_option maxHeartbeats 2000000 in
set_option maxRecDepth 100000 in
theorem f_L_witchSets (l : Launch) (D : va_G) (cI cZ cJ : ClassId) (sz : Nat) (hst : l.stackTraces = false) (hT : Nat) (hB : Nat) (hV : Nat) (a : Nat → Int32) (hX : Nat) (ot : Nat → Int64) (q : Int32) (hk : ¬ kYw a q = 0) : Mx l D cI cZ cJ yL_witchSets wsL_witchSets 9 153 sz [.ref hT, .int q, .ref hX] [cT hT hB hV a, cL cJ hX 1 ot] (kYw a q) := by
  refine mx_ofH (by decide) rfl (Nat.le_of_ble_eq_true rfl) (fun p e s m below meth c ls A hx hb hr hml hts hown hlocks htab hP hK hN hD hA hS hZ hY hX hl => ?_)
  have hl : lv_has ls 4 [(0, .ref hT), (1, .int q), (2, .ref hX)] := hl
  refine lv_aload_n hx hb dL_witchSets_0 rfl (lv_at hl 2 rfl) ?_
  refine lv_iconst (v := 0) hx hb dL_witchSets_1 (by decide) ?_
  refine lv_aload_n hx hb dL_witchSets_2 rfl (lv_at hl 0 rfl) ?_
  refine lv_iload_n hx hb dL_witchSets_3 rfl (lv_at hl 1 rfl) ?_
  refine xc_V (b := hT) (As := [.int q]) (rest := [.int 0, .ref hX]) ⟨hx, hb, hml, hown, hts⟩ (t_X1_witchSets l D cI cZ cJ _ hst hT hB hV a q hk) (cwV 1 hts gL_witchSets_X1_witchSets rfl rfl rfl (by decide +kernel) ⟨Nat.le_of_ble_eq_true rfl, Nat.le_of_ble_eq_true rfl⟩) hP hD hK hN hY hS hA hZ (va_recv hK hP (ci := 1) (q0 := 0) rfl rfl) rfl hl.1 rfl (Nat.le_of_ble_eq_true rfl) dL_witchSets_4 ⟨Nat.le_of_ble_eq_true rfl, Nat.le_of_ble_eq_true rfl⟩ [0] [1] rfl rfl 2 rfl (by decide) (by decide) (fun H locs qe ce hP hD hS hq1 hq2 hq3 => ?_)
  have hv9 : kYw a q = 0 ∨ kYw a q = 1 ∨ kYw a q = 2 := kYw_in _ _
  rcases hv9 with h9 | h9 | h9
  · exact absurd h9 hk
  · rw [h9] at hq3
    refine vx_catch (E := "java/lang/IllegalStateException") (name := "java/lang/IllegalStateException") hown [] ⟨0, 9, 12, 19⟩ [⟨0, 9, 15, 21⟩] htab (fun _ h => nomatch h) (by decide) (by decide) (hts (.classLink RL 19 "java/lang/IllegalStateException") (List.mem_of_getElem? (i := 1) rfl)) (va_Nw.use rfl (hN.2.2 _ (List.mem_of_getElem? (i := 0) rfl))) hq1 hq2 hq3 ?_
    refine lv_astore_n (lv' := [(3, .ref qe), (0, .ref hT), (1, .int q), (2, .ref hX)]) hx hb dL_witchSets_12 rfl hl (by decide) rfl (fun ls hl => ?_)
    refine lv_iconst (v := 1) hx hb dL_witchSets_13 (by decide) ?_
    exact mx_iret hx hb hr hlocks hS h9.symm hP dL_witchSets_14
  · rw [h9] at hq3
    refine vx_catch (E := "java/lang/IndexOutOfBoundsException") (name := "java/lang/IndexOutOfBoundsException") hown [⟨0, 9, 12, 19⟩] ⟨0, 9, 15, 21⟩ [] htab (List.forall_mem_cons.mpr ⟨Or.inr ⟨by decide, "java/lang/IllegalStateException", (hts (.classLink RL 19 "java/lang/IllegalStateException") (List.mem_of_getElem? (i := 1) rfl)), hX.at 3 rfl⟩, (fun _ h => nomatch h)⟩) (by decide) (by decide) (hts (.classLink RL 21 "java/lang/IndexOutOfBoundsException") (List.mem_of_getElem? (i := 2) rfl)) (va_Nw.use rfl (hN.2.2 _ (List.mem_of_getElem? (i := 1) rfl))) hq1 hq2 hq3 ?_
    refine lv_astore_n (lv' := [(3, .ref qe), (0, .ref hT), (1, .int q), (2, .ref hX)]) hx hb dL_witchSets_15 rfl hl (by decide) rfl (fun ls hl => ?_)
    refine lv_iconst (v := 2) hx hb dL_witchSets_16 (by decide) ?_
    exact mx_iret hx hb hr hlocks hS h9.symm hP dL_witchSets_17

theorem in_L_suspect_X0 : ∀ w ∈ wsX00, w ∈ wsL_suspect := by decide +kernel
theorem in_L_suspect_X1 : ∀ w ∈ wsX10, w ∈ wsL_suspect := by decide +kernel
set_option maxHeartbeats 2000000 in
set_option maxRecDepth 100000 in
theorem c_L_suspect (l : Launch) (D : va_G) (cI cZ cJ : ClassId) (sz : Nat) (hT : Nat) (hB : Nat) (hV : Nat) (a : Nat → Int32) (hG : Nat) (tr : Int32) (g : Nat → Int32) (hX : Nat) (ot : Nat → Int64) (q : Int32) (K : Nat) (n : Nat) (hK9 : K ≤ 1120) (hg : ∀ j, j < K → ¬ g j = 0) (hz : K < 1120 → g K = 0) (hn : a 2 = nI n) (hn8 : n ≤ 8) (h1 : ¬ a 0 = 0) (h2 : yVw a q = true) : Mi l D cI cZ cJ yL_suspect wsL_suspect 4 94 sz [.ref hT, .int q, .ref hX] [cT hT hB hV a, cB hB hG tr, cA cI hG 1120 g, cL cJ hX 1 ot] [cT hT hB hV a, cB hB hG tr, cA cI hG 1120 g, cL cJ hX 1 (vp_updL ot 0 ((ySu a (fun n9 => xCnt (pRo g tr (yKn a q) (nI n9) 1) K) q n).1).toInt64)] (0) := by
  refine mi_ofH (by decide) rfl (Nat.le_of_ble_eq_true rfl) (fun p e s m below meth c ls A hx hb hr hml hts hown hlocks hP hK hN hD hA hS hl => ?_)
  have hl : lv_has ls 4 [(0, .ref hT), (1, .int q), (2, .ref hX)] := hl
  refine lv_aload_n hx hb dL_suspect_0 rfl (lv_at hl 2 rfl) ?_
  refine lv_iconst (v := 0) hx hb dL_suspect_1 (by decide) ?_
  refine lv_aload_n hx hb dL_suspect_2 rfl (lv_at hl 0 rfl) ?_
  refine lv_iload_n hx hb dL_suspect_3 rfl (lv_at hl 1 rfl) ?_
  refine rd_V (b := hT) (As := [.int q]) (rest := [.int 0, .ref hX]) ⟨hx, hb, hml, hown, hts⟩ (c_X1_suspect l D cI cZ cJ hT hB hV a hG tr g q K n hK9 hg hz hn hn8 h1 h2) (cwV 1 hts gL_suspect_X1_suspect rfl rfl rfl (by decide +kernel) ⟨Nat.le_of_ble_eq_true rfl, Nat.le_of_ble_eq_true rfl⟩) (hP.sub (ws' := [cT hT hB hV a, cB hB hG tr, cA cI hG 1120 g]) [0, 1, 2] rfl) hK hN (va_recv hK hP (ci := 1) (q0 := 0) rfl rfl) rfl hl.1 rfl (Nat.le_of_ble_eq_true rfl) dL_suspect_4 ⟨Nat.le_of_ble_eq_true rfl, Nat.le_of_ble_eq_true rfl⟩ ?_
  refine lv_i2l (v := (((ySu a (fun n9 => xCnt (pRo g tr (yKn a q) (nI n9) 1) K) q n).1)).toInt64) hx hb dL_suspect_7 rfl ?_
  refine q_last (D := D) hx hb hK hP hD hS 3 2 rfl rfl dL_suspect_8 (fun H locs hP hD hS => ?_)
  have hP : va_P D vwCl [cT hT hB hV a, cB hB hG tr, cA cI hG 1120 g, cL cJ hX 1 (vp_updL ot 0 ((((ySu a (fun n9 => xCnt (pRo g tr (yKn a q) (nI n9) 1) K) q n).1)).toInt64))] H := hP
  have hD : va_D A [cT hT hB hV a, cB hB hG tr, cA cI hG 1120 g, cL cJ hX 1 (vp_updL ot 0 ((((ySu a (fun n9 => xCnt (pRo g tr (yKn a q) (nI n9) 1) K) q n).1)).toInt64))] := hD
  refine lv_goto (tgt := 18) hx hb dL_suspect_9 (by decide) ?_
  refine lv_iconst (v := 0) hx hb dL_suspect_18 (by decide) ?_
  have hP9 : va_P D vwCl [cT hT hB hV a, cB hB hG tr, cA cI hG 1120 g, cL cJ hX 1 (vp_updL ot 0 ((ySu a (fun n9 => xCnt (pRo g tr (yKn a q) (nI n9) 1) K) q n).1).toInt64)] H := by
    have e9_0 : (vp_updL ot 0 ((ySu a (fun n9 => xCnt (pRo g tr (yKn a q) (nI n9) 1) K) q n).1).toInt64) = (vp_updL ot 0 ((((ySu a (fun n9 => xCnt (pRo g tr (yKn a q) (nI n9) 1) K) q n).1)).toInt64)) := by (first | rfl | (simp only [bI]; rfl))
    rw [e9_0]
    exact hP
  exact mi_iret hx hb hr hlocks hS (by rfl) hP9 dL_suspect_19

set_option maxHeartbeats 2000000 in
set_option maxRecDepth 100000 in
theorem f_L_suspect (l : Launch) (D : va_G) (cI cZ cJ : ClassId) (sz : Nat) (hst : l.stackTraces = false) (hT : Nat) (hB : Nat) (hV : Nat) (a : Nat → Int32) (hX : Nat) (ot : Nat → Int64) (q : Int32) (hk : ¬ kYw a q = 0) : Mx l D cI cZ cJ yL_suspect wsL_suspect 9 158 sz [.ref hT, .int q, .ref hX] [cT hT hB hV a, cL cJ hX 1 ot] (kYw a q) := by
  refine mx_ofH (by decide) rfl (Nat.le_of_ble_eq_true rfl) (fun p e s m below meth c ls A hx hb hr hml hts hown hlocks htab hP hK hN hD hA hS hZ hY hX hl => ?_)
  have hl : lv_has ls 4 [(0, .ref hT), (1, .int q), (2, .ref hX)] := hl
  refine lv_aload_n hx hb dL_suspect_0 rfl (lv_at hl 2 rfl) ?_
  refine lv_iconst (v := 0) hx hb dL_suspect_1 (by decide) ?_
  refine lv_aload_n hx hb dL_suspect_2 rfl (lv_at hl 0 rfl) ?_
  refine lv_iload_n hx hb dL_suspect_3 rfl (lv_at hl 1 rfl) ?_
  refine xc_V (b := hT) (As := [.int q]) (rest := [.int 0, .ref hX]) ⟨hx, hb, hml, hown, hts⟩ (t_X1_suspect l D cI cZ cJ _ hst hT hB hV a q hk) (cwV 1 hts gL_suspect_X1_suspect rfl rfl rfl (by decide +kernel) ⟨Nat.le_of_ble_eq_true rfl, Nat.le_of_ble_eq_true rfl⟩) hP hD hK hN hY hS hA hZ (va_recv hK hP (ci := 1) (q0 := 0) rfl rfl) rfl hl.1 rfl (Nat.le_of_ble_eq_true rfl) dL_suspect_4 ⟨Nat.le_of_ble_eq_true rfl, Nat.le_of_ble_eq_true rfl⟩ [0] [1] rfl rfl 2 rfl (by decide) (by decide) (fun H locs qe ce hP hD hS hq1 hq2 hq3 => ?_)
  have hv9 : kYw a q = 0 ∨ kYw a q = 1 ∨ kYw a q = 2 := kYw_in _ _
  rcases hv9 with h9 | h9 | h9
  · exact absurd h9 hk
  · rw [h9] at hq3
    refine vx_catch (E := "java/lang/IllegalStateException") (name := "java/lang/IllegalStateException") hown [] ⟨0, 9, 12, 19⟩ [⟨0, 9, 15, 21⟩] htab (fun _ h => nomatch h) (by decide) (by decide) (hts (.classLink RL 19 "java/lang/IllegalStateException") (List.mem_of_getElem? (i := 1) rfl)) (va_Nw.use rfl (hN.2.2 _ (List.mem_of_getElem? (i := 0) rfl))) hq1 hq2 hq3 ?_
    refine lv_astore_n (lv' := [(3, .ref qe), (0, .ref hT), (1, .int q), (2, .ref hX)]) hx hb dL_suspect_12 rfl hl (by decide) rfl (fun ls hl => ?_)
    refine lv_iconst (v := 1) hx hb dL_suspect_13 (by decide) ?_
    exact mx_iret hx hb hr hlocks hS h9.symm hP dL_suspect_14
  · rw [h9] at hq3
    refine vx_catch (E := "java/lang/IndexOutOfBoundsException") (name := "java/lang/IndexOutOfBoundsException") hown [⟨0, 9, 12, 19⟩] ⟨0, 9, 15, 21⟩ [] htab (List.forall_mem_cons.mpr ⟨Or.inr ⟨by decide, "java/lang/IllegalStateException", (hts (.classLink RL 19 "java/lang/IllegalStateException") (List.mem_of_getElem? (i := 1) rfl)), hX.at 3 rfl⟩, (fun _ h => nomatch h)⟩) (by decide) (by decide) (hts (.classLink RL 21 "java/lang/IndexOutOfBoundsException") (List.mem_of_getElem? (i := 2) rfl)) (va_Nw.use rfl (hN.2.2 _ (List.mem_of_getElem? (i := 1) rfl))) hq1 hq2 hq3 ?_
    refine lv_astore_n (lv' := [(3, .ref qe), (0, .ref hT), (1, .int q), (2, .ref hX)]) hx hb dL_suspect_15 rfl hl (by decide) rfl (fun ls hl => ?_)
    refine lv_iconst (v := 2) hx hb dL_suspect_16 (by decide) ?_
    exact mx_iret hx hb hr hlocks hS h9.symm hP dL_suspect_17

theorem in_L_bestLook_X0 : ∀ w ∈ wsX00, w ∈ wsL_bestLook := by decide +kernel
theorem in_L_bestLook_X1 : ∀ w ∈ wsX10, w ∈ wsL_bestLook := by decide +kernel
set_option maxHeartbeats 2000000 in
set_option maxRecDepth 100000 in
theorem c_L_bestLook (l : Launch) (D : va_G) (cI cZ cJ : ClassId) (sz : Nat) (hT : Nat) (hB : Nat) (hV : Nat) (a : Nat → Int32) (hG : Nat) (tr : Int32) (g : Nat → Int32) (hX : Nat) (ot : Nat → Int64) (K : Nat) (n : Nat) (hK9 : K ≤ 1120) (hg : ∀ j, j < K → ¬ g j = 0) (hz : K < 1120 → g K = 0) (hn : a 2 = nI n) (hn8 : n ≤ 8) (h1 : ¬ a 0 = 0) : Mi l D cI cZ cJ yL_bestLook wsL_bestLook 4 95 sz [.ref hT, .ref hX] [cT hT hB hV a, cB hB hG tr, cA cI hG 1120 g, cL cJ hX 1 ot] [cT hT hB hV a, cB hB hG tr, cA cI hG 1120 g, cL cJ hX 1 (vp_updL ot 0 ((yBe a (fun n9 => xCnt (pRo g tr (yKn a (a 4)) (nI n9) 1) K) (xCnt (pAg g tr (yKn a (a 4))) K) n).1).toInt64)] (0) := by
  refine mi_ofH (by decide) rfl (Nat.le_of_ble_eq_true rfl) (fun p e s m below meth c ls A hx hb hr hml hts hown hlocks hP hK hN hD hA hS hl => ?_)
  have hl : lv_has ls 3 [(0, .ref hT), (1, .ref hX)] := hl
  refine lv_aload_n hx hb dL_bestLook_0 rfl (lv_at hl 1 rfl) ?_
  refine lv_iconst (v := 0) hx hb dL_bestLook_1 (by decide) ?_
  refine lv_aload_n hx hb dL_bestLook_2 rfl (lv_at hl 0 rfl) ?_
  refine rd_V (b := hT) (As := []) (rest := [.int 0, .ref hX]) ⟨hx, hb, hml, hown, hts⟩ (c_X1_bestLook l D cI cZ cJ hT hB hV a hG tr g K n hK9 hg hz hn hn8 h1) (cwV 0 hts gL_bestLook_X1_bestLook rfl rfl rfl (by decide +kernel) ⟨Nat.le_of_ble_eq_true rfl, Nat.le_of_ble_eq_true rfl⟩) (hP.sub (ws' := [cT hT hB hV a, cB hB hG tr, cA cI hG 1120 g]) [0, 1, 2] rfl) hK hN (va_recv hK hP (ci := 1) (q0 := 0) rfl rfl) rfl hl.1 rfl (Nat.le_of_ble_eq_true rfl) dL_bestLook_3 ⟨Nat.le_of_ble_eq_true rfl, Nat.le_of_ble_eq_true rfl⟩ ?_
  refine lv_i2l (v := (((yBe a (fun n9 => xCnt (pRo g tr (yKn a (a 4)) (nI n9) 1) K) (xCnt (pAg g tr (yKn a (a 4))) K) n).1)).toInt64) hx hb dL_bestLook_6 rfl ?_
  refine q_last (D := D) hx hb hK hP hD hS 3 2 rfl rfl dL_bestLook_7 (fun H locs hP hD hS => ?_)
  have hP : va_P D vwCl [cT hT hB hV a, cB hB hG tr, cA cI hG 1120 g, cL cJ hX 1 (vp_updL ot 0 ((((yBe a (fun n9 => xCnt (pRo g tr (yKn a (a 4)) (nI n9) 1) K) (xCnt (pAg g tr (yKn a (a 4))) K) n).1)).toInt64))] H := hP
  have hD : va_D A [cT hT hB hV a, cB hB hG tr, cA cI hG 1120 g, cL cJ hX 1 (vp_updL ot 0 ((((yBe a (fun n9 => xCnt (pRo g tr (yKn a (a 4)) (nI n9) 1) K) (xCnt (pAg g tr (yKn a (a 4))) K) n).1)).toInt64))] := hD
  refine lv_goto (tgt := 14) hx hb dL_bestLook_8 (by decide) ?_
  refine lv_iconst (v := 0) hx hb dL_bestLook_14 (by decide) ?_
  have hP9 : va_P D vwCl [cT hT hB hV a, cB hB hG tr, cA cI hG 1120 g, cL cJ hX 1 (vp_updL ot 0 ((yBe a (fun n9 => xCnt (pRo g tr (yKn a (a 4)) (nI n9) 1) K) (xCnt (pAg g tr (yKn a (a 4))) K) n).1).toInt64)] H := by
    have e9_0 : (vp_updL ot 0 ((yBe a (fun n9 => xCnt (pRo g tr (yKn a (a 4)) (nI n9) 1) K) (xCnt (pAg g tr (yKn a (a 4))) K) n).1).toInt64) = (vp_updL ot 0 ((((yBe a (fun n9 => xCnt (pRo g tr (yKn a (a 4)) (nI n9) 1) K) (xCnt (pAg g tr (yKn a (a 4))) K) n).1)).toInt64)) := by (first | rfl | (simp only [bI]; rfl))
    rw [e9_0]
    exact hP
  exact mi_iret hx hb hr hlocks hS (by rfl) hP9 dL_bestLook_15

set_option maxHeartbeats 2000000 in
set_option maxRecDepth 100000 in
theorem f_L_bestLook (l : Launch) (D : va_G) (cI cZ cJ : ClassId) (sz : Nat) (hst : l.stackTraces = false) (hT : Nat) (hB : Nat) (hV : Nat) (a : Nat → Int32) (hX : Nat) (ot : Nat → Int64) (hk : ¬ kYg a = 0) : Mx l D cI cZ cJ yL_bestLook wsL_bestLook 8 137 sz [.ref hT, .ref hX] [cT hT hB hV a, cL cJ hX 1 ot] (kYg a) := by
  refine mx_ofH (by decide) rfl (Nat.le_of_ble_eq_true rfl) (fun p e s m below meth c ls A hx hb hr hml hts hown hlocks htab hP hK hN hD hA hS hZ hY hX hl => ?_)
  have hl : lv_has ls 3 [(0, .ref hT), (1, .ref hX)] := hl
  refine lv_aload_n hx hb dL_bestLook_0 rfl (lv_at hl 1 rfl) ?_
  refine lv_iconst (v := 0) hx hb dL_bestLook_1 (by decide) ?_
  refine lv_aload_n hx hb dL_bestLook_2 rfl (lv_at hl 0 rfl) ?_
  refine xc_V (b := hT) (As := []) (rest := [.int 0, .ref hX]) ⟨hx, hb, hml, hown, hts⟩ (t_X1_bestLook l D cI cZ cJ _ hst hT hB hV a hk) (cwV 0 hts gL_bestLook_X1_bestLook rfl rfl rfl (by decide +kernel) ⟨Nat.le_of_ble_eq_true rfl, Nat.le_of_ble_eq_true rfl⟩) hP hD hK hN hY hS hA hZ (va_recv hK hP (ci := 1) (q0 := 0) rfl rfl) rfl hl.1 rfl (Nat.le_of_ble_eq_true rfl) dL_bestLook_3 ⟨Nat.le_of_ble_eq_true rfl, Nat.le_of_ble_eq_true rfl⟩ [0] [1] rfl rfl 2 rfl (by decide) (by decide) (fun H locs qe ce hP hD hS hq1 hq2 hq3 => ?_)
  have hv9 : kYg a = 0 ∨ kYg a = 1 := kYg_in _
  rcases hv9 with h9 | h9
  · exact absurd h9 hk
  · rw [h9] at hq3
    refine vx_catch (E := "java/lang/IllegalStateException") (name := "java/lang/IllegalStateException") hown [] ⟨0, 8, 11, 19⟩ [] htab (fun _ h => nomatch h) (by decide) (by decide) (hts (.classLink RL 19 "java/lang/IllegalStateException") (List.mem_of_getElem? (i := 1) rfl)) (va_Nw.use rfl (hN.2.2 _ (List.mem_of_getElem? (i := 0) rfl))) hq1 hq2 hq3 ?_
    refine lv_astore_n (lv' := [(2, .ref qe), (0, .ref hT), (1, .ref hX)]) hx hb dL_bestLook_11 rfl hl (by decide) rfl (fun ls hl => ?_)
    refine lv_iconst (v := 1) hx hb dL_bestLook_12 (by decide) ?_
    exact mx_iret hx hb hr hlocks hS h9.symm hP dL_bestLook_13

theorem in_L_isPossible_X0 : ∀ w ∈ wsX00, w ∈ wsL_isPossible := by decide +kernel
theorem in_L_isPossible_X1 : ∀ w ∈ wsX10, w ∈ wsL_isPossible := by decide +kernel
set_option maxHeartbeats 2000000 in
set_option maxRecDepth 100000 in
theorem c_L_isPossible (l : Launch) (D : va_G) (cI cZ cJ : ClassId) (sz : Nat) (hT : Nat) (hB : Nat) (hV : Nat) (a : Nat → Int32) (hG : Nat) (tr : Int32) (g : Nat → Int32) (hX : Nat) (ot : Nat → Int64) (q : Int32) (t : Int32) (r : Int32) (u : Int32) (K : Nat) (hK9 : K ≤ 1120) (hg : ∀ j, j < K → ¬ g j = 0) (hz : K < 1120 → g K = 0) (h1 : ¬ a 0 = 0) (h2 : yVw a q = true) (h3 : yPl a r = true) (h4 : yPl a u = true) : Mi l D cI cZ cJ yL_isPossible wsL_isPossible 4 87 sz [.ref hT, .int q, .int t, .int r, .int u, .ref hX] [cT hT hB hV a, cB hB hG tr, cA cI hG 1120 g, cL cJ hX 1 ot] [cT hT hB hV a, cB hB hG tr, cA cI hG 1120 g, cL cJ hX 1 (vp_updL ot 0 (bI (decide (t &&& (-256) = 0) && (yHs g (yWo t r u) K && yAgr (yWo t r u) tr (yKn a q)))).toInt64)] (0) := by
  refine mi_ofH (by decide) rfl (Nat.le_of_ble_eq_true rfl) (fun p e s m below meth c ls A hx hb hr hml hts hown hlocks hP hK hN hD hA hS hl => ?_)
  have hl : lv_has ls 7 [(0, .ref hT), (1, .int q), (2, .int t), (3, .int r), (4, .int u), (5, .ref hX)] := hl
  refine lv_aload hx hb dL_isPossible_0 (lv_at hl 5 rfl) ?_
  refine lv_iconst (v := 0) hx hb dL_isPossible_2 (by decide) ?_
  refine lv_aload_n hx hb dL_isPossible_3 rfl (lv_at hl 0 rfl) ?_
  refine lv_iload_n hx hb dL_isPossible_4 rfl (lv_at hl 1 rfl) ?_
  refine lv_iload_n hx hb dL_isPossible_5 rfl (lv_at hl 2 rfl) ?_
  refine lv_iload_n hx hb dL_isPossible_6 rfl (lv_at hl 3 rfl) ?_
  refine lv_iload hx hb dL_isPossible_7 (lv_at hl 4 rfl) ?_
  refine rd_V (b := hT) (As := [.int q, .int t, .int r, .int u]) (rest := [.int 0, .ref hX]) ⟨hx, hb, hml, hown, hts⟩ (c_X1_isPossible l D cI cZ cJ hT hB hV a hG tr g q t r u K hK9 hg hz h1 h2 h3 h4) (cwV 4 hts gL_isPossible_X1_isPossible rfl rfl rfl (by decide +kernel) ⟨Nat.le_of_ble_eq_true rfl, Nat.le_of_ble_eq_true rfl⟩) (hP.sub (ws' := [cT hT hB hV a, cB hB hG tr, cA cI hG 1120 g]) [0, 1, 2] rfl) hK hN (va_recv hK hP (ci := 1) (q0 := 0) rfl rfl) rfl hl.1 rfl (Nat.le_of_ble_eq_true rfl) dL_isPossible_9 ⟨Nat.le_of_ble_eq_true rfl, Nat.le_of_ble_eq_true rfl⟩ ?_
  refine lv_if_eq (tgt := 19) hx hb dL_isPossible_12 (by decide) (fun c_1 => ?_) (fun c_1 => ?_)
  · have c_1 : (decide (t &&& (-256) = 0) && (yHs g (yWo t r u) K && yAgr (yWo t r u) tr (yKn a q))) = false := bI_0 c_1
    refine lv_lconst (v := 0) hx hb dL_isPossible_19 (by decide) ?_
    refine q_last (D := D) hx hb hK hP hD hS 3 2 rfl rfl dL_isPossible_20 (fun H locs hP hD hS => ?_)
    have hP : va_P D vwCl [cT hT hB hV a, cB hB hG tr, cA cI hG 1120 g, cL cJ hX 1 (vp_updL ot 0 (0 : Int64))] H := hP
    have hD : va_D A [cT hT hB hV a, cB hB hG tr, cA cI hG 1120 g, cL cJ hX 1 (vp_updL ot 0 (0 : Int64))] := hD
    refine lv_goto (tgt := 32) hx hb dL_isPossible_21 (by decide) ?_
    refine lv_iconst (v := 0) hx hb dL_isPossible_32 (by decide) ?_
    have hP9 : va_P D vwCl [cT hT hB hV a, cB hB hG tr, cA cI hG 1120 g, cL cJ hX 1 (vp_updL ot 0 (bI (decide (t &&& (-256) = 0) && (yHs g (yWo t r u) K && yAgr (yWo t r u) tr (yKn a q)))).toInt64)] H := by
      have e9_0 : (vp_updL ot 0 (bI (decide (t &&& (-256) = 0) && (yHs g (yWo t r u) K && yAgr (yWo t r u) tr (yKn a q)))).toInt64) = (vp_updL ot 0 (0 : Int64)) := by (first | rfl | (simp only [c_1]; rfl))
      rw [e9_0]
      exact hP
    exact mi_iret hx hb hr hlocks hS (by rfl) hP9 dL_isPossible_33
  · have c_1 : (decide (t &&& (-256) = 0) && (yHs g (yWo t r u) K && yAgr (yWo t r u) tr (yKn a q))) = true := bI_1 c_1
    refine lv_lconst (v := 1) hx hb dL_isPossible_15 (by decide) ?_
    refine lv_goto (tgt := 20) hx hb dL_isPossible_16 (by decide) ?_
    refine q_last (D := D) hx hb hK hP hD hS 3 2 rfl rfl dL_isPossible_20 (fun H locs hP hD hS => ?_)
    have hP : va_P D vwCl [cT hT hB hV a, cB hB hG tr, cA cI hG 1120 g, cL cJ hX 1 (vp_updL ot 0 (1 : Int64))] H := hP
    have hD : va_D A [cT hT hB hV a, cB hB hG tr, cA cI hG 1120 g, cL cJ hX 1 (vp_updL ot 0 (1 : Int64))] := hD
    refine lv_goto (tgt := 32) hx hb dL_isPossible_21 (by decide) ?_
    refine lv_iconst (v := 0) hx hb dL_isPossible_32 (by decide) ?_
    have hP9 : va_P D vwCl [cT hT hB hV a, cB hB hG tr, cA cI hG 1120 g, cL cJ hX 1 (vp_updL ot 0 (bI (decide (t &&& (-256) = 0) && (yHs g (yWo t r u) K && yAgr (yWo t r u) tr (yKn a q)))).toInt64)] H := by
      have e9_0 : (vp_updL ot 0 (bI (decide (t &&& (-256) = 0) && (yHs g (yWo t r u) K && yAgr (yWo t r u) tr (yKn a q)))).toInt64) = (vp_updL ot 0 (1 : Int64)) := by (first | rfl | (simp only [c_1]; rfl))
      rw [e9_0]
      exact hP
    exact mi_iret hx hb hr hlocks hS (by rfl) hP9 dL_isPossible_33

set_option maxHeartbeats 2000000 in
set_option maxRecDepth 100000 in
theorem f_L_isPossible (l : Launch) (D : va_G) (cI cZ cJ : ClassId) (sz : Nat) (hst : l.stackTraces = false) (hT : Nat) (hB : Nat) (hV : Nat) (a : Nat → Int32) (hX : Nat) (ot : Nat → Int64) (q : Int32) (t : Int32) (r : Int32) (u : Int32) (hk : ¬ kYi a q r u = 0) : Mx l D cI cZ cJ yL_isPossible wsL_isPossible 9 156 sz [.ref hT, .int q, .int t, .int r, .int u, .ref hX] [cT hT hB hV a, cL cJ hX 1 ot] (kYi a q r u) := by
  refine mx_ofH (by decide) rfl (Nat.le_of_ble_eq_true rfl) (fun p e s m below meth c ls A hx hb hr hml hts hown hlocks htab hP hK hN hD hA hS hZ hY hX hl => ?_)
  have hl : lv_has ls 7 [(0, .ref hT), (1, .int q), (2, .int t), (3, .int r), (4, .int u), (5, .ref hX)] := hl
  refine lv_aload hx hb dL_isPossible_0 (lv_at hl 5 rfl) ?_
  refine lv_iconst (v := 0) hx hb dL_isPossible_2 (by decide) ?_
  refine lv_aload_n hx hb dL_isPossible_3 rfl (lv_at hl 0 rfl) ?_
  refine lv_iload_n hx hb dL_isPossible_4 rfl (lv_at hl 1 rfl) ?_
  refine lv_iload_n hx hb dL_isPossible_5 rfl (lv_at hl 2 rfl) ?_
  refine lv_iload_n hx hb dL_isPossible_6 rfl (lv_at hl 3 rfl) ?_
  refine lv_iload hx hb dL_isPossible_7 (lv_at hl 4 rfl) ?_
  refine xc_V (b := hT) (As := [.int q, .int t, .int r, .int u]) (rest := [.int 0, .ref hX]) ⟨hx, hb, hml, hown, hts⟩ (t_X1_isPossible l D cI cZ cJ _ hst hT hB hV a q t r u hk) (cwV 4 hts gL_isPossible_X1_isPossible rfl rfl rfl (by decide +kernel) ⟨Nat.le_of_ble_eq_true rfl, Nat.le_of_ble_eq_true rfl⟩) hP hD hK hN hY hS hA hZ (va_recv hK hP (ci := 1) (q0 := 0) rfl rfl) rfl hl.1 rfl (Nat.le_of_ble_eq_true rfl) dL_isPossible_9 ⟨Nat.le_of_ble_eq_true rfl, Nat.le_of_ble_eq_true rfl⟩ [0] [1] rfl rfl 2 rfl (by decide) (by decide) (fun H locs qe ce hP hD hS hq1 hq2 hq3 => ?_)
  have hv9 : kYi a q r u = 0 ∨ kYi a q r u = 1 ∨ kYi a q r u = 2 := kYi_in _ _ _ _
  rcases hv9 with h9 | h9 | h9
  · exact absurd h9 hk
  · rw [h9] at hq3
    refine vx_catch (E := "java/lang/IllegalStateException") (name := "java/lang/IllegalStateException") hown [] ⟨0, 21, 24, 19⟩ [⟨0, 21, 28, 21⟩] htab (fun _ h => nomatch h) (by decide) (by decide) (hts (.classLink RL 19 "java/lang/IllegalStateException") (List.mem_of_getElem? (i := 1) rfl)) (va_Nw.use rfl (hN.2.2 _ (List.mem_of_getElem? (i := 0) rfl))) hq1 hq2 hq3 ?_
    refine lv_astore (lv' := [(6, .ref qe), (0, .ref hT), (1, .int q), (2, .int t), (3, .int r), (4, .int u), (5, .ref hX)]) hx hb dL_isPossible_24 hl (by decide) rfl (fun ls hl => ?_)
    refine lv_iconst (v := 1) hx hb dL_isPossible_26 (by decide) ?_
    exact mx_iret hx hb hr hlocks hS h9.symm hP dL_isPossible_27
  · rw [h9] at hq3
    refine vx_catch (E := "java/lang/IndexOutOfBoundsException") (name := "java/lang/IndexOutOfBoundsException") hown [⟨0, 21, 24, 19⟩] ⟨0, 21, 28, 21⟩ [] htab (List.forall_mem_cons.mpr ⟨Or.inr ⟨by decide, "java/lang/IllegalStateException", (hts (.classLink RL 19 "java/lang/IllegalStateException") (List.mem_of_getElem? (i := 1) rfl)), hX.at 3 rfl⟩, (fun _ h => nomatch h)⟩) (by decide) (by decide) (hts (.classLink RL 21 "java/lang/IndexOutOfBoundsException") (List.mem_of_getElem? (i := 2) rfl)) (va_Nw.use rfl (hN.2.2 _ (List.mem_of_getElem? (i := 1) rfl))) hq1 hq2 hq3 ?_
    refine lv_astore (lv' := [(6, .ref qe), (0, .ref hT), (1, .int q), (2, .int t), (3, .int r), (4, .int u), (5, .ref hX)]) hx hb dL_isPossible_28 hl (by decide) rfl (fun ls hl => ?_)
    refine lv_iconst (v := 2) hx hb dL_isPossible_30 (by decide) ?_
    exact mx_iret hx hb hr hlocks hS h9.symm hP dL_isPossible_31
