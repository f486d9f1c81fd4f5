set_option maxHeartbeats 2000000 in
set_option maxRecDepth 100000 in
theorem c_X2_in (l : Launch) (D : va_G) (cI cZ cJ : ClassId) (v : Int32) (lo : Int32) (hi : Int32)  : Rd l D cI cZ cJ yX2_in wsX2_in 0 0 [.int v, .int lo, .int hi] [] (bI (xIn v lo hi)) := by
  refine rd_of (by decide) rfl (Nat.le_of_ble_eq_true rfl) (fun p e s m below meth c ls hx hb hr hml hts hown hlocks hP hK hN hl => ?_)
  have hl : lv_has ls 3 [(0, .int v), (1, .int lo), (2, .int hi)] := hl
  refine lv_iload_n hx hb dX2_in_0 rfl (lv_at hl 0 rfl) ?_
  refine lv_iload_n hx hb dX2_in_1 rfl (lv_at hl 1 rfl) ?_
  refine lv_icmp_lt (tgt := 14) hx hb dX2_in_2 (by decide) (fun c_1 => ?_) (fun c_1 => ?_)
  · refine lv_iconst (v := 0) hx hb dX2_in_14 (by decide) ?_
    exact rd_zret hx hb hr hlocks (by simp [xIn, bI, c_1]) rfl dX2_in_15
  · refine lv_iload_n hx hb dX2_in_5 rfl (lv_at hl 0 rfl) ?_
    refine lv_iload_n hx hb dX2_in_6 rfl (lv_at hl 2 rfl) ?_
    refine lv_icmp_gt (tgt := 14) hx hb dX2_in_7 (by decide) (fun c_2 => ?_) (fun c_2 => ?_)
    · refine lv_iconst (v := 0) hx hb dX2_in_14 (by decide) ?_
      exact rd_zret hx hb hr hlocks (by simp [xIn, bI, c_1, c_2]) rfl dX2_in_15
    · refine lv_iconst (v := 1) hx hb dX2_in_10 (by decide) ?_
      refine lv_goto (tgt := 15) hx hb dX2_in_11 (by decide) ?_
      exact rd_zret hx hb hr hlocks (by simp [xIn, bI, c_1, c_2]) rfl dX2_in_15

set_option maxHeartbeats 2000000 in
set_option maxRecDepth 100000 in
theorem c_X2_has (l : Launch) (D : va_G) (cI cZ cJ : ClassId) (st : Int32) (q : Int32)  : Rd l D cI cZ cJ yX2_has wsX2_has 0 0 [.int st, .int q] [] (bI (xHas st q)) := by
  refine rd_of (by decide) rfl (Nat.le_of_ble_eq_true rfl) (fun p e s m below meth c ls hx hb hr hml hts hown hlocks hP hK hN hl => ?_)
  have hl : lv_has ls 2 [(0, .int st), (1, .int q)] := hl
  refine lv_iload_n hx hb dX2_has_0 rfl (lv_at hl 0 rfl) ?_
  refine lv_iload_n hx hb dX2_has_1 rfl (lv_at hl 1 rfl) ?_
  refine lv_ishr hx hb dX2_has_2 ?_
  refine lv_iconst (v := 1) hx hb dX2_has_3 (by decide) ?_
  refine lv_iand hx hb dX2_has_4 ?_
  refine lv_iconst (v := 1) hx hb dX2_has_5 (by decide) ?_
  refine lv_icmp_ne (tgt := 13) hx hb dX2_has_6 (by decide) (fun c_1 => ?_) (fun c_1 => ?_)
  · refine lv_iconst (v := 0) hx hb dX2_has_13 (by decide) ?_
    exact rd_zret hx hb hr hlocks (by simp [xHas, bI, c_1]) rfl dX2_has_14
  · refine lv_iconst (v := 1) hx hb dX2_has_9 (by decide) ?_
    refine lv_goto (tgt := 14) hx hb dX2_has_10 (by decide) ?_
    exact rd_zret hx hb hr hlocks (by simp [xHas, bI, c_1]) rfl dX2_has_14

set_option maxHeartbeats 2000000 in
set_option maxRecDepth 100000 in
theorem c_X2_bits (l : Launch) (D : va_G) (cI cZ cJ : ClassId) (st : Int32)  : Rd l D cI cZ cJ yX2_bits wsX2_bits 0 0 [.int st] [] (xBits st 8) := by
  refine rd_of (by decide) rfl (Nat.le_of_ble_eq_true rfl) (fun p e s m below meth c ls hx hb hr hml hts hown hlocks hP hK hN hl => ?_)
  have hl : lv_has ls 3 [(0, .int st)] := hl
  refine lv_iconst (v := 0) hx hb dX2_bits_0 (by decide) ?_
  refine lv_istore_n (lv' := [(1, .int 0), (0, .int st)]) hx hb dX2_bits_1 rfl hl (by decide) rfl (fun ls hl => ?_)
  refine lv_iconst (v := 0) hx hb dX2_bits_2 (by decide) ?_
  refine lv_istore_n (lv' := [(2, .int 0), (1, .int 0), (0, .int st)]) hx hb dX2_bits_3 rfl hl (by decide) rfl (fun ls hl => ?_)
  refine loop_R (nL := 3) (h := 4) 8 (fun i => [(0, .int st), (1, .int (xBits st i)), (2, .int (nI i))]) (fun _ => True) (fun i hi hI ih ls hl => ?_) 0 (by omega) trivial ls ?_
  · have hl : lv_has ls 3 [(0, .int st), (1, .int (xBits st i)), (2, .int (nI i))] := hl
    refine lv_iload_n hx hb dX2_bits_4 rfl (lv_at hl 2 rfl) ?_
    refine lv_bipush (v := 8) hx hb dX2_bits_5 (by decide) ?_
    refine lv_icmp_ge (tgt := 24) hx hb dX2_bits_7 (by decide) (fun c_2 => ?_) (fun c_2 => ?_)
    · have hi8 : i = 8 := geN hi (by omega) rfl c_2
      subst hi8
      refine lv_iload_n hx hb dX2_bits_24 rfl (lv_at hl 1 rfl) ?_
      exact rd_iret hx hb hr hlocks (by rfl) dX2_bits_25
    · have hlt : i < 8 := ltN hi (by omega) rfl c_2
      refine lv_iload_n hx hb dX2_bits_10 rfl (lv_at hl 1 rfl) ?_
      refine lv_iload_n hx hb dX2_bits_11 rfl (lv_at hl 0 rfl) ?_
      refine lv_iload_n hx hb dX2_bits_12 rfl (lv_at hl 2 rfl) ?_
      refine lv_ishr hx hb dX2_bits_13 ?_
      refine lv_iconst (v := 1) hx hb dX2_bits_14 (by decide) ?_
      refine lv_iand hx hb dX2_bits_15 ?_
      refine lv_iadd hx hb dX2_bits_16 ?_
      refine lv_istore_n (lv' := [(1, .int ((xBits st i) + ((st >>> ((nI i) &&& 31)) &&& 1))), (0, .int st), (2, .int (nI i))]) hx hb dX2_bits_17 rfl hl (by decide) rfl (fun ls hl => ?_)
      refine lv_iinc (v := (nI (i + 1))) (lv' := [(2, .int (nI (i + 1))), (1, .int ((xBits st i) + ((st >>> ((nI i) &&& 31)) &&& 1))), (0, .int st)]) hx hb dX2_bits_18 hl (k := 2) rfl (nI_1 i) (by decide) rfl (fun ls hl => ?_)
      refine lv_goto (tgt := 4) hx hb dX2_bits_21 (by decide) ?_
      have eb_0 : (xBits st (i + 1)) = ((xBits st i) + ((st >>> ((nI i) &&& 31)) &&& 1)) := by rfl
      exact ih (by omega) trivial ls (by show lv_has ls 3 [(0, .int st), (1, .int (xBits st (i + 1))), (2, .int (nI (i + 1)))]; rw [eb_0]; exact lv_sub hl [2, 1, 0] rfl)
  · show lv_has ls 3 [(0, .int st), (1, .int (xBits st 0)), (2, .int (nI 0))]
    have en_0 : (xBits st 0) = 0 := by rfl
    rw [en_0]
    have en_1 : (nI 0) = 0 := by exact nI_0
    rw [en_1]
    exact lv_sub hl [2, 1, 0] rfl

theorem in_X2_isPlayer_X2 : ∀ w ∈ wsX20, w ∈ wsX2_isPlayer := by decide +kernel
set_option maxHeartbeats 2000000 in
set_option maxRecDepth 100000 in
theorem c_X2_isPlayer (l : Launch) (D : va_G) (cI cZ cJ : ClassId) (hM : Nat) (hO : Nat) (hW : Nat) (hY : Nat) (th : Int32) (a : Nat → Int32) (q : Int32)  : Rd l D cI cZ cJ yX2_isPlayer wsX2_isPlayer 1 22 [.ref hM, .int q] [cM hM hO hW hY th a] (bI (xPl a q)) := by
  refine rd_of (by decide) rfl (Nat.le_of_ble_eq_true rfl) (fun p e s m below meth c ls hx hb hr hml hts hown hlocks hP hK hN hl => ?_)
  have hl : lv_has ls 2 [(0, .ref hM), (1, .int q)] := hl
  refine lv_iload_n hx hb dX2_isPlayer_0 rfl (lv_at hl 1 rfl) ?_
  refine lv_iconst (v := 0) hx hb dX2_isPlayer_1 (by decide) ?_
  refine lv_aload_n hx hb dX2_isPlayer_2 rfl (lv_at hl 0 rfl) ?_
  refine va_get (D := D) (cl := vwCl) (ci := 2) (v := .int (a 2)) (C := RX2) (T := TX2) (N := 16) hx hb hts in_X2_isPlayer_X2 hown hK hP 0 rfl rfl 2 (by decide) (hts (.fieldLink RX2 24 "WitchTrialModel" "players" "I") (List.mem_of_getElem? (i := 1) rfl)) (fun _ h9 => h9) rfl dX2_isPlayer_3 ?_
  refine lv_iconst (v := 1) hx hb dX2_isPlayer_6 (by decide) ?_
  refine lv_isub hx hb dX2_isPlayer_7 ?_
  refine rd_S (As := [.int q, .int 0, .int ((a 2) - 1)]) (rest := []) ⟨hx, hb, hml, hown, hts⟩ (c_X2_in l D cI cZ cJ q 0 ((a 2) - 1)) (va_cwS 3 hts gX2_isPlayer_X2_in rfl rfl rfl (by decide +kernel) ⟨Nat.le_of_ble_eq_true rfl, Nat.le_of_ble_eq_true rfl⟩) (hP.sub (ws' := []) [] rfl) hK hN rfl hl.1 rfl (Nat.le_of_ble_eq_true rfl) dX2_isPlayer_8 ⟨Nat.le_of_ble_eq_true rfl, Nat.le_of_ble_eq_true rfl⟩ ?_
  exact rd_zret hx hb hr hlocks (by rfl) (bI_nar _) dX2_isPlayer_11

theorem in_X2_isViewer_X2 : ∀ w ∈ wsX20, w ∈ wsX2_isViewer := by decide +kernel
set_option maxHeartbeats 2000000 in
set_option maxRecDepth 100000 in
theorem c_X2_isViewer (l : Launch) (D : va_G) (cI cZ cJ : ClassId) (hM : Nat) (hO : Nat) (hW : Nat) (hY : Nat) (th : Int32) (a : Nat → Int32) (q : Int32)  : Rd l D cI cZ cJ yX2_isViewer wsX2_isViewer 2 43 [.ref hM, .int q] [cM hM hO hW hY th a] (bI (xVw a q)) := by
  refine rd_of (by decide) rfl (Nat.le_of_ble_eq_true rfl) (fun p e s m below meth c ls hx hb hr hml hts hown hlocks hP hK hN hl => ?_)
  have hl : lv_has ls 2 [(0, .ref hM), (1, .int q)] := hl
  refine lv_iload_n hx hb dX2_isViewer_0 rfl (lv_at hl 1 rfl) ?_
  refine lv_iconst (v := (-1)) hx hb dX2_isViewer_1 (by decide) ?_
  refine lv_icmp_eq (tgt := 13) hx hb dX2_isViewer_2 (by decide) (fun c_1 => ?_) (fun c_1 => ?_)
  · refine lv_iconst (v := 1) hx hb dX2_isViewer_13 (by decide) ?_
    refine lv_goto (tgt := 18) hx hb dX2_isViewer_14 (by decide) ?_
    exact rd_zret hx hb hr hlocks (by simp [xVw, bI, c_1]) rfl dX2_isViewer_18
  · refine lv_aload_n hx hb dX2_isViewer_5 rfl (lv_at hl 0 rfl) ?_
    refine lv_iload_n hx hb dX2_isViewer_6 rfl (lv_at hl 1 rfl) ?_
    refine rd_V (b := hM) (As := [.int q]) (rest := []) ⟨hx, hb, hml, hown, hts⟩ (c_X2_isPlayer l D cI cZ cJ hM hO hW hY th a q) (cwV 1 hts gX2_isViewer_X2_isPlayer rfl rfl rfl (by decide +kernel) ⟨Nat.le_of_ble_eq_true rfl, Nat.le_of_ble_eq_true rfl⟩) (hP.sub (ws' := [cM hM hO hW hY th a]) [0] rfl) hK hN (va_recv hK hP (ci := 2) (q0 := 0) rfl rfl) rfl hl.1 rfl (Nat.le_of_ble_eq_true rfl) dX2_isViewer_7 ⟨Nat.le_of_ble_eq_true rfl, Nat.le_of_ble_eq_true rfl⟩ ?_
    refine lv_if_eq (tgt := 17) hx hb dX2_isViewer_10 (by decide) (fun c_2 => ?_) (fun c_2 => ?_)
    · have c_2 : (xPl a q) = false := bI_0 c_2
      refine lv_iconst (v := 0) hx hb dX2_isViewer_17 (by decide) ?_
      exact rd_zret hx hb hr hlocks (by simp [xVw, bI, c_1, c_2]) rfl dX2_isViewer_18
    · have c_2 : (xPl a q) = true := bI_1 c_2
      refine lv_iconst (v := 1) hx hb dX2_isViewer_13 (by decide) ?_
      refine lv_goto (tgt := 18) hx hb dX2_isViewer_14 (by decide) ?_
      exact rd_zret hx hb hr hlocks (by simp [xVw, bI, c_1, c_2]) rfl dX2_isViewer_18
